import java.lang.reflect.Constructor;
import java.lang.reflect.Field;
import java.lang.reflect.Method;
import java.lang.reflect.Modifier;
import java.nio.file.Files;
import java.nio.file.Path;
import java.util.Arrays;
import java.util.HashSet;
import java.util.Set;
import java.util.TreeSet;
import java.util.regex.Matcher;
import java.util.regex.Pattern;

/** The public face of the document, and rules of LANGUAGE.md that a look at the class or its source can tell. */
public final class FaceTest {
    private static final String[] METHODS = {
        "int find(int,int,int,int)", "int rise(int)", "int good(int,int,int)", "int chart(int,int,int,int,int)",
        "int pitch(int,int,int,int,int)", "long foretold(int,int)", "int gang(int)", "int auction(int,int)",
        "int bid(int,int)", "int strike()", "int about(int,int)", "int parcel(int,int,int)",
        "long spend(int,int,int)", "long settle(int)", "int taken(int,int)", "long money(int,int)",
        "long debt(int)", "int suspects()", "int suspect(int)", "long skill(int,int)", "int sheet(int,int,int)",
        "int lose(int)", "int put(int,int,int)", "long cell(int,int,int)", "int copy(int,int,int,int,int)",
        "int tell(int)", "int greet(int)", "int as(int,int)", "int trace()", "int fault()", "int told(int)"};
    private static final Checks c = new Checks();

    public static void main(String[] args) throws Exception {
        constantsAreTold();
        membersAreThoseOfTheDocument();
        classesInsideAreStatic();
        sourceHasNoneOfTheWords();
        c.close();
    }

    private static void constantsAreTold() throws Exception {
        c.due("UNKNOWN", -1, TributePitches.UNKNOWN);
        c.due("OUTSIDE", -2, TributePitches.OUTSIDE);
        c.due("STATE", -3, TributePitches.STATE);
        c.due("FULL", -4, TributePitches.FULL);
        c.due("NONE", -9, TributePitches.NONE);
        c.due("LOST", Long.MIN_VALUE, TributePitches.LOST);
        c.holds("LOST is a long", TributePitches.class.getField("LOST").getType() == long.class);
    }

    private static void membersAreThoseOfTheDocument() {
        Class<?> face = TributePitches.class;
        c.holds("public and final", Modifier.isPublic(face.getModifiers()) && Modifier.isFinal(face.getModifiers()));
        Set<String> seen = new TreeSet<>();
        Set<String> names = new HashSet<>();
        for (Method m : face.getDeclaredMethods()) {
            if (Modifier.isPrivate(m.getModifiers())) continue;
            c.holds(m + " is public and of the object", m.getModifiers() == Modifier.PUBLIC);
            seen.add(signature(m));
            names.add(m.getName());
        }
        c.holds("the methods are " + seen, seen.equals(new TreeSet<>(Arrays.asList(METHODS))));
        Set<String> constants = new TreeSet<>();
        for (Field f : face.getDeclaredFields()) {
            if (!Modifier.isPrivate(f.getModifiers())) constants.add(f.getName());
            if (Modifier.isStatic(f.getModifiers())) c.holds(f + " is final", Modifier.isFinal(f.getModifiers()));
        }
        Set<String> told = new TreeSet<>(Arrays.asList("UNKNOWN", "OUTSIDE", "STATE", "FULL", "NONE", "LOST"));
        c.holds("the constants are " + constants, constants.equals(told));
        Constructor<?>[] made = face.getDeclaredConstructors();
        c.holds("one constructor", made.length == 1 && made[0].getParameterCount() == 0
            && Modifier.isPublic(made[0].getModifiers()));
        for (Class<?> inside : face.getDeclaredClasses()) privateNames(inside, names);
        privateNames(face, names);
    }

    private static void privateNames(Class<?> in, Set<String> names) {
        for (Method m : in.getDeclaredMethods()) {
            if (in == TributePitches.class && Modifier.isPublic(m.getModifiers())) continue;
            c.holds(m + " has a name of its own", !names.contains(m.getName()));
            c.holds(m + " takes seven at most", m.getParameterCount() <= 7);
        }
    }

    private static String signature(Method m) {
        StringBuilder text = new StringBuilder(m.getReturnType() + " " + m.getName() + "(");
        for (Class<?> p : m.getParameterTypes()) {
            if (text.charAt(text.length() - 1) != '(') text.append(",");
            text.append(p);
        }
        return text.append(")").toString();
    }

    private static void classesInsideAreStatic() {
        Class<?>[] inside = TributePitches.class.getDeclaredClasses();
        c.holds("twelve classes at most", inside.length < 12);
        for (Class<?> in : inside) {
            int is = in.getModifiers();
            c.holds(in + " is static", Modifier.isStatic(is) && !Modifier.isPublic(is) && !Modifier.isProtected(is));
            c.holds(in + " has twenty fields at most", in.getDeclaredFields().length <= 20);
        }
    }

    private static void sourceHasNoneOfTheWords() throws Exception {
        String source = Files.readString(Path.of("src/main/java/TributePitches.java"));
        String code = source.replaceAll("(?s)/\\*.*?\\*/", "").replaceAll("//[^\n]*", "");
        String words = "throw|throws|try|catch|finally|synchronized|assert|package|protected|native|volatile|var";
        Matcher word = Pattern.compile("\\b(" + words + ")\\b|->|::|Exact\\(|@").matcher(code);
        c.holds("no word of those left out", !word.find());
        Matcher line = Pattern.compile("\\bimport ([^;]*);").matcher(code);
        while (line.find()) {
            c.holds("import " + line.group(1), line.group(1).matches("java\\.util\\.(Arrays|ArrayList|List)"));
        }
        c.holds("characters 0 to 127", source.chars().allMatch(ch -> ch < 128));
    }
}
