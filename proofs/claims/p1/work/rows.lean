section
-- ===== PART A: goes FIRST, ahead of the names: the tables' words, and 'selects' of the private methods out of them =====
/-- a private method of a class that the tables say can be made, by its rows of tables_1 -/
def lw_okq (q : MethodName × Nat) : Prop := (q.1.cls ≠ "java/lang/invoke/MethodHandle" ∧ q.1.cls ≠ "java/lang/invoke/VarHandle") ∧ Cond.instantiable q.1.cls q.2 ∈ tables_1 ∧ Cond.privateMethod q.1 ∈ tables_1 ∧ Cond.instanceMethod q.1 ∈ tables_1
theorem lw_p0 : lw_okq (⟨"TributePitches$Lode", "narrowTrial", "(I)V"⟩, 5) := ⟨⟨by decide +kernel, by decide +kernel⟩, List.mem_of_getElem? (i := 25) (by decide +kernel), List.mem_of_getElem? (i := 168) (by decide +kernel), List.mem_of_getElem? (i := 169) (by decide +kernel)⟩
theorem lw_p1 : lw_okq (⟨"TributePitches$Lode", "tryNeighbour", "(III)V"⟩, 5) := ⟨⟨by decide +kernel, by decide +kernel⟩, List.mem_of_getElem? (i := 25) (by decide +kernel), List.mem_of_getElem? (i := 172) (by decide +kernel), List.mem_of_getElem? (i := 173) (by decide +kernel)⟩
theorem lw_p2 : lw_okq (⟨"TributePitches", "sheetAt", "(I)LTributePitches$Sheet;"⟩, 13) := ⟨⟨by decide +kernel, by decide +kernel⟩, List.mem_of_getElem? (i := 17) (by decide +kernel), List.mem_of_getElem? (i := 189) (by decide +kernel), List.mem_of_getElem? (i := 190) (by decide +kernel)⟩
theorem lw_p3 : lw_okq (⟨"TributePitches", "faulted", "(I)I"⟩, 13) := ⟨⟨by decide +kernel, by decide +kernel⟩, List.mem_of_getElem? (i := 17) (by decide +kernel), List.mem_of_getElem? (i := 212) (by decide +kernel), List.mem_of_getElem? (i := 213) (by decide +kernel)⟩
theorem lw_p4 : lw_okq (⟨"TributePitches", "isAnyPitched", "(IIII)Z"⟩, 13) := ⟨⟨by decide +kernel, by decide +kernel⟩, List.mem_of_getElem? (i := 17) (by decide +kernel), List.mem_of_getElem? (i := 224) (by decide +kernel), List.mem_of_getElem? (i := 225) (by decide +kernel)⟩
theorem lw_p5 : lw_okq (⟨"TributePitches", "pitchAt", "(I)LTributePitches$Pitch;"⟩, 13) := ⟨⟨by decide +kernel, by decide +kernel⟩, List.mem_of_getElem? (i := 17) (by decide +kernel), List.mem_of_getElem? (i := 274) (by decide +kernel), List.mem_of_getElem? (i := 275) (by decide +kernel)⟩
theorem lw_p6 : lw_okq (⟨"TributePitches", "gangAt", "(I)LTributePitches$Gang;"⟩, 13) := ⟨⟨by decide +kernel, by decide +kernel⟩, List.mem_of_getElem? (i := 17) (by decide +kernel), List.mem_of_getElem? (i := 368) (by decide +kernel), List.mem_of_getElem? (i := 369) (by decide +kernel)⟩
theorem lw_p7 : lw_okq (⟨"TributePitches", "takeAt", "(I)LTributePitches$Take;"⟩, 13) := ⟨⟨by decide +kernel, by decide +kernel⟩, List.mem_of_getElem? (i := 17) (by decide +kernel), List.mem_of_getElem? (i := 443) (by decide +kernel), List.mem_of_getElem? (i := 444) (by decide +kernel)⟩
theorem lw_p8 : lw_okq (⟨"TributePitchesModel", "layNew", "()V"⟩, 39) := ⟨⟨by decide +kernel, by decide +kernel⟩, List.mem_of_getElem? (i := 631) (by decide +kernel), List.mem_of_getElem? (i := 770) (by decide +kernel), List.mem_of_getElem? (i := 771) (by decide +kernel)⟩
theorem lw_p9 : lw_okq (⟨"TributePitchesModel", "meet", "(III)V"⟩, 39) := ⟨⟨by decide +kernel, by decide +kernel⟩, List.mem_of_getElem? (i := 631) (by decide +kernel), List.mem_of_getElem? (i := 774) (by decide +kernel), List.mem_of_getElem? (i := 775) (by decide +kernel)⟩
theorem lw_p10 : lw_okq (⟨"TributePitchesModel", "narrowed", "(I)I"⟩, 39) := ⟨⟨by decide +kernel, by decide +kernel⟩, List.mem_of_getElem? (i := 631) (by decide +kernel), List.mem_of_getElem? (i := 778) (by decide +kernel), List.mem_of_getElem? (i := 779) (by decide +kernel)⟩
theorem lw_p11 : lw_okq (⟨"TributePitchesModel", "meetNeighbour", "(IIII)V"⟩, 39) := ⟨⟨by decide +kernel, by decide +kernel⟩, List.mem_of_getElem? (i := 631) (by decide +kernel), List.mem_of_getElem? (i := 782) (by decide +kernel), List.mem_of_getElem? (i := 783) (by decide +kernel)⟩
theorem lw_p12 : lw_okq (⟨"TributePitchesModel", "refused", "(I)I"⟩, 39) := ⟨⟨by decide +kernel, by decide +kernel⟩, List.mem_of_getElem? (i := 631) (by decide +kernel), List.mem_of_getElem? (i := 802) (by decide +kernel), List.mem_of_getElem? (i := 803) (by decide +kernel)⟩
theorem lw_p13 : lw_okq (⟨"TributePitchesModel", "failed", "(I)I"⟩, 39) := ⟨⟨by decide +kernel, by decide +kernel⟩, List.mem_of_getElem? (i := 631) (by decide +kernel), List.mem_of_getElem? (i := 807) (by decide +kernel), List.mem_of_getElem? (i := 808) (by decide +kernel)⟩
theorem lw_p14 : lw_okq (⟨"TributePitchesModel", "noCell", "(II)I"⟩, 39) := ⟨⟨by decide +kernel, by decide +kernel⟩, List.mem_of_getElem? (i := 631) (by decide +kernel), List.mem_of_getElem? (i := 819) (by decide +kernel), List.mem_of_getElem? (i := 820) (by decide +kernel)⟩
theorem lw_p15 : lw_okq (⟨"TributePitchesModel", "failedLong", "(I)J"⟩, 39) := ⟨⟨by decide +kernel, by decide +kernel⟩, List.mem_of_getElem? (i := 631) (by decide +kernel), List.mem_of_getElem? (i := 831) (by decide +kernel), List.mem_of_getElem? (i := 832) (by decide +kernel)⟩
def lw_privs_1 : List (MethodName × Nat) := [(⟨"TributePitches$Lode", "narrowTrial", "(I)V"⟩, 5), (⟨"TributePitches$Lode", "tryNeighbour", "(III)V"⟩, 5), (⟨"TributePitches", "sheetAt", "(I)LTributePitches$Sheet;"⟩, 13), (⟨"TributePitches", "faulted", "(I)I"⟩, 13), (⟨"TributePitches", "isAnyPitched", "(IIII)Z"⟩, 13), (⟨"TributePitches", "pitchAt", "(I)LTributePitches$Pitch;"⟩, 13), (⟨"TributePitches", "gangAt", "(I)LTributePitches$Gang;"⟩, 13), (⟨"TributePitches", "takeAt", "(I)LTributePitches$Take;"⟩, 13), (⟨"TributePitchesModel", "layNew", "()V"⟩, 39), (⟨"TributePitchesModel", "meet", "(III)V"⟩, 39), (⟨"TributePitchesModel", "narrowed", "(I)I"⟩, 39), (⟨"TributePitchesModel", "meetNeighbour", "(IIII)V"⟩, 39), (⟨"TributePitchesModel", "refused", "(I)I"⟩, 39), (⟨"TributePitchesModel", "failed", "(I)I"⟩, 39), (⟨"TributePitchesModel", "noCell", "(II)I"⟩, 39), (⟨"TributePitchesModel", "failedLong", "(I)J"⟩, 39)]
theorem lw_r1 : ∀ q ∈ lw_privs_1, lw_okq q := List.forall_mem_cons.mpr ⟨lw_p0, List.forall_mem_cons.mpr ⟨lw_p1, List.forall_mem_cons.mpr ⟨lw_p2, List.forall_mem_cons.mpr ⟨lw_p3, List.forall_mem_cons.mpr ⟨lw_p4, List.forall_mem_cons.mpr ⟨lw_p5, List.forall_mem_cons.mpr ⟨lw_p6, List.forall_mem_cons.mpr ⟨lw_p7, List.forall_mem_cons.mpr ⟨lw_p8, List.forall_mem_cons.mpr ⟨lw_p9, List.forall_mem_cons.mpr ⟨lw_p10, List.forall_mem_cons.mpr ⟨lw_p11, List.forall_mem_cons.mpr ⟨lw_p12, List.forall_mem_cons.mpr ⟨lw_p13, List.forall_mem_cons.mpr ⟨lw_p14, List.forall_mem_cons.mpr ⟨lw_p15, fun _ h => absurd h List.not_mem_nil⟩⟩⟩⟩⟩⟩⟩⟩⟩⟩⟩⟩⟩⟩⟩⟩
theorem lw_p16 : lw_okq (⟨"TributePitchesModel", "noPitch", "(I)Z"⟩, 39) := ⟨⟨by decide +kernel, by decide +kernel⟩, List.mem_of_getElem? (i := 631) (by decide +kernel), List.mem_of_getElem? (i := 856) (by decide +kernel), List.mem_of_getElem? (i := 857) (by decide +kernel)⟩
theorem lw_p17 : lw_okq (⟨"TributePitchesModel", "foretoldOf", "(II)J"⟩, 39) := ⟨⟨by decide +kernel, by decide +kernel⟩, List.mem_of_getElem? (i := 631) (by decide +kernel), List.mem_of_getElem? (i := 860) (by decide +kernel), List.mem_of_getElem? (i := 861) (by decide +kernel)⟩
theorem lw_p18 : lw_okq (⟨"TributePitchesModel", "isOn", "(II)Z"⟩, 39) := ⟨⟨by decide +kernel, by decide +kernel⟩, List.mem_of_getElem? (i := 631) (by decide +kernel), List.mem_of_getElem? (i := 864) (by decide +kernel), List.mem_of_getElem? (i := 865) (by decide +kernel)⟩
theorem lw_p19 : lw_okq (⟨"TributePitchesModel", "takeOf", "(I)I"⟩, 39) := ⟨⟨by decide +kernel, by decide +kernel⟩, List.mem_of_getElem? (i := 631) (by decide +kernel), List.mem_of_getElem? (i := 877) (by decide +kernel), List.mem_of_getElem? (i := 878) (by decide +kernel)⟩
theorem lw_p20 : lw_okq (⟨"TributePitchesModel", "noGang", "(I)Z"⟩, 39) := ⟨⟨by decide +kernel, by decide +kernel⟩, List.mem_of_getElem? (i := 631) (by decide +kernel), List.mem_of_getElem? (i := 885) (by decide +kernel), List.mem_of_getElem? (i := 886) (by decide +kernel)⟩
theorem lw_p21 : lw_okq (⟨"TributePitchesModel", "letTo", "(I)I"⟩, 39) := ⟨⟨by decide +kernel, by decide +kernel⟩, List.mem_of_getElem? (i := 631) (by decide +kernel), List.mem_of_getElem? (i := 889) (by decide +kernel), List.mem_of_getElem? (i := 890) (by decide +kernel)⟩
theorem lw_p22 : lw_okq (⟨"TributePitchesModel", "takesOn", "(I)I"⟩, 39) := ⟨⟨by decide +kernel, by decide +kernel⟩, List.mem_of_getElem? (i := 631) (by decide +kernel), List.mem_of_getElem? (i := 901) (by decide +kernel), List.mem_of_getElem? (i := 902) (by decide +kernel)⟩
theorem lw_p23 : lw_okq (⟨"TributePitchesModel", "noTake", "(I)Z"⟩, 39) := ⟨⟨by decide +kernel, by decide +kernel⟩, List.mem_of_getElem? (i := 631) (by decide +kernel), List.mem_of_getElem? (i := 909) (by decide +kernel), List.mem_of_getElem? (i := 910) (by decide +kernel)⟩
theorem lw_p24 : lw_okq (⟨"TributePitchesModel", "worthOf", "(I)J"⟩, 39) := ⟨⟨by decide +kernel, by decide +kernel⟩, List.mem_of_getElem? (i := 631) (by decide +kernel), List.mem_of_getElem? (i := 922) (by decide +kernel), List.mem_of_getElem? (i := 923) (by decide +kernel)⟩
theorem lw_p25 : lw_okq (⟨"TributePitchesModel", "parcelsOf", "(I)I"⟩, 39) := ⟨⟨by decide +kernel, by decide +kernel⟩, List.mem_of_getElem? (i := 631) (by decide +kernel), List.mem_of_getElem? (i := 930) (by decide +kernel), List.mem_of_getElem? (i := 931) (by decide +kernel)⟩
theorem lw_p26 : lw_okq (⟨"TributePitchesModel", "isSuspect", "(I)Z"⟩, 39) := ⟨⟨by decide +kernel, by decide +kernel⟩, List.mem_of_getElem? (i := 631) (by decide +kernel), List.mem_of_getElem? (i := 946) (by decide +kernel), List.mem_of_getElem? (i := 947) (by decide +kernel)⟩
theorem lw_p27 : lw_okq (⟨"TributePitchesModel", "traced", "(I)V"⟩, 39) := ⟨⟨by decide +kernel, by decide +kernel⟩, List.mem_of_getElem? (i := 631) (by decide +kernel), List.mem_of_getElem? (i := 965) (by decide +kernel), List.mem_of_getElem? (i := 966) (by decide +kernel)⟩
theorem lw_p28 : lw_okq (⟨"TributePitchesModel", "takesBy", "(I)I"⟩, 39) := ⟨⟨by decide +kernel, by decide +kernel⟩, List.mem_of_getElem? (i := 631) (by decide +kernel), List.mem_of_getElem? (i := 969) (by decide +kernel), List.mem_of_getElem? (i := 970) (by decide +kernel)⟩
def lw_privs_2 : List (MethodName × Nat) := [(⟨"TributePitchesModel", "noPitch", "(I)Z"⟩, 39), (⟨"TributePitchesModel", "foretoldOf", "(II)J"⟩, 39), (⟨"TributePitchesModel", "isOn", "(II)Z"⟩, 39), (⟨"TributePitchesModel", "takeOf", "(I)I"⟩, 39), (⟨"TributePitchesModel", "noGang", "(I)Z"⟩, 39), (⟨"TributePitchesModel", "letTo", "(I)I"⟩, 39), (⟨"TributePitchesModel", "takesOn", "(I)I"⟩, 39), (⟨"TributePitchesModel", "noTake", "(I)Z"⟩, 39), (⟨"TributePitchesModel", "worthOf", "(I)J"⟩, 39), (⟨"TributePitchesModel", "parcelsOf", "(I)I"⟩, 39), (⟨"TributePitchesModel", "isSuspect", "(I)Z"⟩, 39), (⟨"TributePitchesModel", "traced", "(I)V"⟩, 39), (⟨"TributePitchesModel", "takesBy", "(I)I"⟩, 39)]
theorem lw_r2 : ∀ q ∈ lw_privs_2, lw_okq q := List.forall_mem_cons.mpr ⟨lw_p16, List.forall_mem_cons.mpr ⟨lw_p17, List.forall_mem_cons.mpr ⟨lw_p18, List.forall_mem_cons.mpr ⟨lw_p19, List.forall_mem_cons.mpr ⟨lw_p20, List.forall_mem_cons.mpr ⟨lw_p21, List.forall_mem_cons.mpr ⟨lw_p22, List.forall_mem_cons.mpr ⟨lw_p23, List.forall_mem_cons.mpr ⟨lw_p24, List.forall_mem_cons.mpr ⟨lw_p25, List.forall_mem_cons.mpr ⟨lw_p26, List.forall_mem_cons.mpr ⟨lw_p27, List.forall_mem_cons.mpr ⟨lw_p28, fun _ h => absurd h List.not_mem_nil⟩⟩⟩⟩⟩⟩⟩⟩⟩⟩⟩⟩⟩
def lw_privs : List (MethodName × Nat) := lw_privs_1 ++ (lw_privs_2)
def lw_tbl : List Cond := k2_sels lw_privs ++ tables_1
theorem lw_privs_ok : ∀ q ∈ lw_privs, lw_okq q := by
  show ∀ q ∈ lw_privs_1 ++ (lw_privs_2), lw_okq q
  exact List.forall_mem_append.mpr ⟨lw_r1, lw_r2⟩
end
section
/-! ===== BEGIN words of one list among another's, by their places ===== -/
theorem goodIn_r {big : List Cond} (ws : List Cond) (ps : List Nat) (hp : ws = ps.filterMap (fun i => big[i]?)) (h : ws.all goodWord = true) : GoodIn big ws := by
  intro w hw
  have h1 := List.all_eq_true.mp h w hw
  rw [hp] at hw
  obtain ⟨i, -, hi⟩ := List.mem_filterMap.mp hw
  have hm : w ∈ big := by first | exact List.mem_of_getElem? hi | exact List.getElem?_mem hi
  exact ⟨hm, good_of_word h1⟩
theorem goodIn_app {big a b : List Cond} (ha : GoodIn big a) (hb : GoodIn big b) : GoodIn big (a ++ b) := fun w h => (List.mem_append.mp h).elim (ha w) (hb w)
theorem goodIn_ca {big a b : List Cond} {c : Cond} (ha : GoodIn big (c :: a)) (hb : GoodIn big b) : GoodIn big (c :: (a ++ b)) := fun w h => (List.mem_cons.mp h).elim (fun e => ha w (List.mem_cons.mpr (Or.inl e))) (fun h => (List.mem_append.mp h).elim (fun h => ha w (List.mem_cons.mpr (Or.inr h))) (hb w))
theorem goodIn_sub {big ws : List Cond} (hm : ∀ w ∈ ws, w ∈ big) (h : ws.all goodWord = true) : GoodIn big ws := fun w hw => ⟨hm w hw, good_of_word (List.all_eq_true.mp h w hw)⟩
/-! ===== END ===== -/

/-! ===== BEGIN printed: names, fields, word lists, decode rows ===== -/
def RX0 : String := "TributePitches$Auction"
def TX0 : u_T := fun k => match k with
  | 0 => ("TributePitches$Auction", "pitch", "LTributePitches$Pitch;", true)
  | 1 => ("TributePitches$Auction", "share", "I", false)
  | 2 => ("TributePitches$Auction", "bids", "I", false)
  | _ => ("TributePitches$Auction", "bidder", "LTributePitches$Gang;", false)
def tyX0 : Nat → FieldType := fun k => match k with
  | 0 => .object "TributePitches$Pitch"
  | 1 => .int
  | 2 => .int
  | _ => .object "TributePitches$Gang"
abbrev wsX00 : List Cond := u_ws RX0 TX0 4
theorem nmX0 : ∀ a, a < 4 → ∀ b, b < 4 → a ≠ b → (TX0 a).2.1 ≠ (TX0 b).2.1 := by decide +kernel
theorem tyX0_ok : ∀ k, k < 4 → parseFieldDescriptor (TX0 k).2.2.1 = some (tyX0 k) := by decide +kernel
abbrev cX0_init : ByteArray := prog_2_method_1_code
def yX0_init : MethodName := ⟨RX0, "<init>", "(LTributePitches$Pitch;I)V"⟩
abbrev cX0_mostShare : ByteArray := prog_2_method_2_code
def yX0_mostShare : MethodName := ⟨RX0, "mostShare", "()I"⟩
def RX1 : String := "TributePitches$Family"
def TX1 : u_T := fun k => match k with
  | 0 => ("TributePitches$Gang", "number", "I", true)
  | 1 => ("TributePitches$Gang", "takesHad", "I", false)
  | 2 => ("TributePitches$Gang", "letPitches", "I", false)
  | _ => ("TributePitches$Gang", "owed", "J", false)
def tyX1 : Nat → FieldType := fun k => match k with
  | 0 => .int
  | 1 => .int
  | 2 => .int
  | _ => .long
abbrev wsX10 : List Cond := u_ws RX1 TX1 4
theorem nmX1 : ∀ a, a < 4 → ∀ b, b < 4 → a ≠ b → (TX1 a).2.1 ≠ (TX1 b).2.1 := by decide +kernel
theorem tyX1_ok : ∀ k, k < 4 → parseFieldDescriptor (TX1 k).2.2.1 = some (tyX1 k) := by decide +kernel
abbrev cX1_init : ByteArray := prog_3_method_1_code
def yX1_init : MethodName := ⟨RX1, "<init>", "(I)V"⟩
abbrev cX1_costsBorne : ByteArray := prog_3_method_2_code
def yX1_costsBorne : MethodName := ⟨RX1, "costsBorne", "(J)J"⟩
abbrev cX1_telling : ByteArray := prog_3_method_3_code
def yX1_telling : MethodName := ⟨RX1, "telling", "(LTributePitches$Trace;)I"⟩
abbrev cX1_greeting : ByteArray := prog_3_method_4_code
def yX1_greeting : MethodName := ⟨RX1, "greeting", "(LTributePitches$Trace;)I"⟩
def RX2 : String := "TributePitches$Gang"
def TX2 : u_T := fun k => match k with
  | 0 => ("TributePitches$Gang", "number", "I", true)
  | 1 => ("TributePitches$Gang", "takesHad", "I", false)
  | 2 => ("TributePitches$Gang", "letPitches", "I", false)
  | _ => ("TributePitches$Gang", "owed", "J", false)
def tyX2 : Nat → FieldType := fun k => match k with
  | 0 => .int
  | 1 => .int
  | 2 => .int
  | _ => .long
abbrev wsX20 : List Cond := u_ws RX2 TX2 4
theorem nmX2 : ∀ a, a < 4 → ∀ b, b < 4 → a ≠ b → (TX2 a).2.1 ≠ (TX2 b).2.1 := by decide +kernel
theorem tyX2_ok : ∀ k, k < 4 → parseFieldDescriptor (TX2 k).2.2.1 = some (tyX2 k) := by decide +kernel
abbrev cX2_init : ByteArray := prog_4_method_1_code
def yX2_init : MethodName := ⟨RX2, "<init>", "(I)V"⟩
abbrev cX2_costsBorne : ByteArray := prog_4_method_2_code
def yX2_costsBorne : MethodName := ⟨RX2, "costsBorne", "(J)J"⟩
abbrev cX2_debtTaken : ByteArray := prog_4_method_3_code
def yX2_debtTaken : MethodName := ⟨RX2, "debtTaken", "()J"⟩
abbrev cX2_telling : ByteArray := prog_4_method_4_code
def yX2_telling : MethodName := ⟨RX2, "telling", "(LTributePitches$Trace;)I"⟩
abbrev cX2_tellingOfAnyGang : ByteArray := prog_4_method_5_code
def yX2_tellingOfAnyGang : MethodName := ⟨RX2, "tellingOfAnyGang", "(LTributePitches$Trace;)I"⟩
abbrev cX2_greeting : ByteArray := prog_4_method_6_code
def yX2_greeting : MethodName := ⟨RX2, "greeting", "(LTributePitches$Trace;)I"⟩
def RX3 : String := "TributePitches$Lode"
def TX3 : u_T := fun k => match k with
  | 0 => ("TributePitches$Lode", "lows", "[I", true)
  | 1 => ("TributePitches$Lode", "highs", "[I", true)
  | 2 => ("TributePitches$Lode", "triedLows", "[I", true)
  | 3 => ("TributePitches$Lode", "triedHighs", "[I", true)
  | _ => ("TributePitches$Lode", "law", "I", false)
def tyX3 : Nat → FieldType := fun k => match k with
  | 0 => .array .int
  | 1 => .array .int
  | 2 => .array .int
  | 3 => .array .int
  | _ => .int
abbrev wsX30 : List Cond := u_ws RX3 TX3 5
theorem nmX3 : ∀ a, a < 5 → ∀ b, b < 5 → a ≠ b → (TX3 a).2.1 ≠ (TX3 b).2.1 := by decide +kernel
theorem tyX3_ok : ∀ k, k < 5 → parseFieldDescriptor (TX3 k).2.2.1 = some (tyX3 k) := by decide +kernel
abbrev cX3_init : ByteArray := prog_5_method_1_code
def yX3_init : MethodName := ⟨RX3, "<init>", "()V"⟩
abbrev cX3_hasSquare : ByteArray := prog_5_method_2_code
def yX3_hasSquare : MethodName := ⟨RX3, "hasSquare", "(II)Z"⟩
abbrev cX3_numberOf : ByteArray := prog_5_method_3_code
def yX3_numberOf : MethodName := ⟨RX3, "numberOf", "(II)I"⟩
abbrev cX3_beginTrial : ByteArray := prog_5_method_4_code
def yX3_beginTrial : MethodName := ⟨RX3, "beginTrial", "()V"⟩
abbrev cX3_tryCommon : ByteArray := prog_5_method_5_code
def yX3_tryCommon : MethodName := ⟨RX3, "tryCommon", "(III)V"⟩
abbrev cX3_endTrial : ByteArray := prog_5_method_6_code
def yX3_endTrial : MethodName := ⟨RX3, "endTrial", "(I)I"⟩
abbrev cX3_narrowTrial : ByteArray := prog_5_method_7_code
def yX3_narrowTrial : MethodName := ⟨RX3, "narrowTrial", "(I)V"⟩
abbrev cX3_tryNeighbour : ByteArray := prog_5_method_8_code
def yX3_tryNeighbour : MethodName := ⟨RX3, "tryNeighbour", "(III)V"⟩
def RX4 : String := "TributePitches$OldHands"
def TX4 : u_T := fun k => match k with
  | 0 => ("TributePitches$Gang", "number", "I", true)
  | 1 => ("TributePitches$Gang", "takesHad", "I", false)
  | 2 => ("TributePitches$Gang", "letPitches", "I", false)
  | _ => ("TributePitches$Gang", "owed", "J", false)
def tyX4 : Nat → FieldType := fun k => match k with
  | 0 => .int
  | 1 => .int
  | 2 => .int
  | _ => .long
abbrev wsX40 : List Cond := u_ws RX4 TX4 4
theorem nmX4 : ∀ a, a < 4 → ∀ b, b < 4 → a ≠ b → (TX4 a).2.1 ≠ (TX4 b).2.1 := by decide +kernel
theorem tyX4_ok : ∀ k, k < 4 → parseFieldDescriptor (TX4 k).2.2.1 = some (tyX4 k) := by decide +kernel
abbrev cX4_init : ByteArray := prog_6_method_1_code
def yX4_init : MethodName := ⟨RX4, "<init>", "(I)V"⟩
abbrev cX4_debtTaken : ByteArray := prog_6_method_2_code
def yX4_debtTaken : MethodName := ⟨RX4, "debtTaken", "()J"⟩
abbrev cX4_telling : ByteArray := prog_6_method_3_code
def yX4_telling : MethodName := ⟨RX4, "telling", "(LTributePitches$Trace;)I"⟩
abbrev cX4_greeting : ByteArray := prog_6_method_4_code
def yX4_greeting : MethodName := ⟨RX4, "greeting", "(LTributePitches$Trace;)I"⟩
def RX5 : String := "TributePitches$Parcel"
def TX5 : u_T := fun k => match k with
  | 0 => ("TributePitches$Parcel", "pitch", "LTributePitches$Pitch;", true)
  | _ => ("TributePitches$Parcel", "goodness", "I", true)
def tyX5 : Nat → FieldType := fun k => match k with
  | 0 => .object "TributePitches$Pitch"
  | _ => .int
abbrev wsX50 : List Cond := u_ws RX5 TX5 2
theorem nmX5 : ∀ a, a < 2 → ∀ b, b < 2 → a ≠ b → (TX5 a).2.1 ≠ (TX5 b).2.1 := by decide +kernel
theorem tyX5_ok : ∀ k, k < 2 → parseFieldDescriptor (TX5 k).2.2.1 = some (tyX5 k) := by decide +kernel
abbrev cX5_init : ByteArray := prog_7_method_1_code
def yX5_init : MethodName := ⟨RX5, "<init>", "(LTributePitches$Pitch;I)V"⟩
abbrev cX5_isSuspect : ByteArray := prog_7_method_2_code
def yX5_isSuspect : MethodName := ⟨RX5, "isSuspect", "(LTributePitches$Lode;)Z"⟩
def RX6 : String := "TributePitches$Pitch"
def TX6 : u_T := fun k => match k with
  | 0 => ("TributePitches$Pitch", "number", "I", true)
  | 1 => ("TributePitches$Pitch", "x", "I", true)
  | 2 => ("TributePitches$Pitch", "y", "I", true)
  | 3 => ("TributePitches$Pitch", "x2", "I", true)
  | 4 => ("TributePitches$Pitch", "y2", "I", true)
  | 5 => ("TributePitches$Pitch", "tons", "I", true)
  | 6 => ("TributePitches$Pitch", "takesHad", "I", false)
  | _ => ("TributePitches$Pitch", "take", "LTributePitches$Take;", false)
def tyX6 : Nat → FieldType := fun k => match k with
  | 0 => .int
  | 1 => .int
  | 2 => .int
  | 3 => .int
  | 4 => .int
  | 5 => .int
  | 6 => .int
  | _ => .object "TributePitches$Take"
abbrev wsX60 : List Cond := u_ws RX6 TX6 8
theorem nmX6 : ∀ a, a < 8 → ∀ b, b < 8 → a ≠ b → (TX6 a).2.1 ≠ (TX6 b).2.1 := by decide +kernel
theorem tyX6_ok : ∀ k, k < 8 → parseFieldDescriptor (TX6 k).2.2.1 = some (tyX6 k) := by decide +kernel
abbrev cX6_init : ByteArray := prog_8_method_1_code
def yX6_init : MethodName := ⟨RX6, "<init>", "(IIIIII)V"⟩
abbrev cX6_meets : ByteArray := prog_8_method_2_code
def yX6_meets : MethodName := ⟨RX6, "meets", "(IIII)Z"⟩
abbrev cX6_foretoldBy : ByteArray := prog_8_method_3_code
def yX6_foretoldBy : MethodName := ⟨RX6, "foretoldBy", "([I)J"⟩
abbrev cX6_greatestOf : ByteArray := prog_8_method_4_code
def yX6_greatestOf : MethodName := ⟨RX6, "greatestOf", "([I)I"⟩
def RX7 : String := "TributePitches$Sheet"
def TX7 : u_T := fun k => match k with
  | 0 => ("TributePitches$Sheet", "cells", "[I", true)
  | 1 => ("TributePitches$Sheet", "lane", "I", false)
  | _ => ("TributePitches$Sheet", "length", "I", false)
def tyX7 : Nat → FieldType := fun k => match k with
  | 0 => .array .int
  | 1 => .int
  | _ => .int
abbrev wsX70 : List Cond := u_ws RX7 TX7 3
theorem nmX7 : ∀ a, a < 3 → ∀ b, b < 3 → a ≠ b → (TX7 a).2.1 ≠ (TX7 b).2.1 := by decide +kernel
theorem tyX7_ok : ∀ k, k < 3 → parseFieldDescriptor (TX7 k).2.2.1 = some (tyX7 k) := by decide +kernel
abbrev cX7_init : ByteArray := prog_9_method_1_code
def yX7_init : MethodName := ⟨RX7, "<init>", "()V"⟩
abbrev cX7_isLane : ByteArray := prog_9_method_2_code
def yX7_isLane : MethodName := ⟨RX7, "isLane", "(I)Z"⟩
abbrev cX7_renew : ByteArray := prog_9_method_3_code
def yX7_renew : MethodName := ⟨RX7, "renew", "(II)V"⟩
abbrev cX7_hasNothing : ByteArray := prog_9_method_4_code
def yX7_hasNothing : MethodName := ⟨RX7, "hasNothing", "()Z"⟩
abbrev cX7_faultAs : ByteArray := prog_9_method_5_code
def yX7_faultAs : MethodName := ⟨RX7, "faultAs", "(I)I"⟩
abbrev cX7_holds : ByteArray := prog_9_method_6_code
def yX7_holds : MethodName := ⟨RX7, "holds", "(II)Z"⟩
abbrev cX7_hasAbove : ByteArray := prog_9_method_7_code
def yX7_hasAbove : MethodName := ⟨RX7, "hasAbove", "(III)Z"⟩
abbrev cX7_cut : ByteArray := prog_9_method_8_code
def yX7_cut : MethodName := ⟨RX7, "cut", "(I)I"⟩
def RX8 : String := "TributePitches$Take"
def TX8 : u_T := fun k => match k with
  | 0 => ("TributePitches$Take", "number", "I", true)
  | 1 => ("TributePitches$Take", "share", "I", true)
  | 2 => ("TributePitches$Take", "gang", "LTributePitches$Gang;", true)
  | 3 => ("TributePitches$Take", "pitch", "LTributePitches$Pitch;", true)
  | 4 => ("TributePitches$Take", "least", "J", false)
  | 5 => ("TributePitches$Take", "greatest", "J", false)
  | 6 => ("TributePitches$Take", "worths", "J", false)
  | 7 => ("TributePitches$Take", "costs", "J", false)
  | 8 => ("TributePitches$Take", "ahead", "J", false)
  | 9 => ("TributePitches$Take", "pay", "J", false)
  | 10 => ("TributePitches$Take", "parcels", "I", false)
  | _ => ("TributePitches$Take", "settled", "Z", false)
def tyX8 : Nat → FieldType := fun k => match k with
  | 0 => .int
  | 1 => .int
  | 2 => .object "TributePitches$Gang"
  | 3 => .object "TributePitches$Pitch"
  | 4 => .long
  | 5 => .long
  | 6 => .long
  | 7 => .long
  | 8 => .long
  | 9 => .long
  | 10 => .int
  | _ => .boolean
abbrev wsX80 : List Cond := u_ws RX8 TX8 12
theorem nmX8 : ∀ a, a < 12 → ∀ b, b < 12 → a ≠ b → (TX8 a).2.1 ≠ (TX8 b).2.1 := by decide +kernel
theorem tyX8_ok : ∀ k, k < 12 → parseFieldDescriptor (TX8 k).2.2.1 = some (tyX8 k) := by decide +kernel
abbrev cX8_init : ByteArray := prog_10_method_1_code
def yX8_init : MethodName := ⟨RX8, "<init>", "(ILTributePitches$Gang;LTributePitches$Pitch;I)V"⟩
abbrev cX8_begin : ByteArray := prog_10_method_2_code
def yX8_begin : MethodName := ⟨RX8, "begin", "()V"⟩
abbrev cX8_end : ByteArray := prog_10_method_3_code
def yX8_end : MethodName := ⟨RX8, "end", "()V"⟩
def RX9 : String := "TributePitches$Trace"
def TX9 : u_T := fun k => match k with
  | _ => ("TributePitches$Trace", "number", "I", false)
def tyX9 : Nat → FieldType := fun k => match k with
  | _ => .int
abbrev wsX90 : List Cond := u_ws RX9 TX9 1
theorem nmX9 : ∀ a, a < 1 → ∀ b, b < 1 → a ≠ b → (TX9 a).2.1 ≠ (TX9 b).2.1 := by decide +kernel
theorem tyX9_ok : ∀ k, k < 1 → parseFieldDescriptor (TX9 k).2.2.1 = some (tyX9 k) := by decide +kernel
abbrev cX9_init : ByteArray := prog_11_method_1_code
def yX9_init : MethodName := ⟨RX9, "<init>", "()V"⟩
abbrev cX9_leave : ByteArray := prog_11_method_2_code
def yX9_leave : MethodName := ⟨RX9, "leave", "(I)V"⟩
def RX10 : String := "TributePitches"
def TX10 : u_T := fun k => match k with
  | 0 => ("TributePitches", "lode", "LTributePitches$Lode;", true)
  | 1 => ("TributePitches", "pitches", "[LTributePitches$Pitch;", true)
  | 2 => ("TributePitches", "gangs", "[LTributePitches$Gang;", true)
  | 3 => ("TributePitches", "takes", "[LTributePitches$Take;", true)
  | 4 => ("TributePitches", "parcels", "[LTributePitches$Parcel;", true)
  | 5 => ("TributePitches", "sheets", "[LTributePitches$Sheet;", true)
  | 6 => ("TributePitches", "steps", "LTributePitches$Trace;", true)
  | 7 => ("TributePitches", "pitchCount", "I", false)
  | 8 => ("TributePitches", "gangCount", "I", false)
  | 9 => ("TributePitches", "takeCount", "I", false)
  | 10 => ("TributePitches", "parcelCount", "I", false)
  | 11 => ("TributePitches", "current", "LTributePitches$Auction;", false)
  | _ => ("TributePitches", "latestFault", "I", false)
def tyX10 : Nat → FieldType := fun k => match k with
  | 0 => .object "TributePitches$Lode"
  | 1 => .array (.object "TributePitches$Pitch")
  | 2 => .array (.object "TributePitches$Gang")
  | 3 => .array (.object "TributePitches$Take")
  | 4 => .array (.object "TributePitches$Parcel")
  | 5 => .array (.object "TributePitches$Sheet")
  | 6 => .object "TributePitches$Trace"
  | 7 => .int
  | 8 => .int
  | 9 => .int
  | 10 => .int
  | 11 => .object "TributePitches$Auction"
  | _ => .int
abbrev wsX100 : List Cond := u_ws RX10 TX10 13
theorem nmX10 : ∀ a, a < 13 → ∀ b, b < 13 → a ≠ b → (TX10 a).2.1 ≠ (TX10 b).2.1 := by decide +kernel
theorem tyX10_ok : ∀ k, k < 13 → parseFieldDescriptor (TX10 k).2.2.1 = some (tyX10 k) := by decide +kernel
abbrev cX10_init : ByteArray := prog_1_method_1_code
def yX10_init : MethodName := ⟨RX10, "<init>", "()V"⟩
abbrev cX10_find : ByteArray := prog_1_method_2_code
def yX10_find : MethodName := ⟨RX10, "find", "(IIII)I"⟩
abbrev cX10_rise : ByteArray := prog_1_method_3_code
def yX10_rise : MethodName := ⟨RX10, "rise", "(I)I"⟩
abbrev cX10_good : ByteArray := prog_1_method_4_code
def yX10_good : MethodName := ⟨RX10, "good", "(III)I"⟩
abbrev cX10_chart : ByteArray := prog_1_method_5_code
def yX10_chart : MethodName := ⟨RX10, "chart", "(IIIII)I"⟩
abbrev cX10_chartFault : ByteArray := prog_1_method_6_code
def yX10_chartFault : MethodName := ⟨RX10, "chartFault", "(LTributePitches$Sheet;IIII)I"⟩
abbrev cX10_pitch : ByteArray := prog_1_method_7_code
def yX10_pitch : MethodName := ⟨RX10, "pitch", "(IIIII)I"⟩
abbrev cX10_isAnyPitched : ByteArray := prog_1_method_8_code
def yX10_isAnyPitched : MethodName := ⟨RX10, "isAnyPitched", "(IIII)Z"⟩
abbrev cX10_foretold : ByteArray := prog_1_method_9_code
def yX10_foretold : MethodName := ⟨RX10, "foretold", "(II)J"⟩
abbrev cX10_gang : ByteArray := prog_1_method_10_code
def yX10_gang : MethodName := ⟨RX10, "gang", "(I)I"⟩
abbrev cX10_newGang : ByteArray := prog_1_method_11_code
def yX10_newGang : MethodName := ⟨RX10, "newGang", "(II)LTributePitches$Gang;"⟩
abbrev cX10_auction : ByteArray := prog_1_method_12_code
def yX10_auction : MethodName := ⟨RX10, "auction", "(II)I"⟩
abbrev cX10_bid : ByteArray := prog_1_method_13_code
def yX10_bid : MethodName := ⟨RX10, "bid", "(II)I"⟩
abbrev cX10_strike : ByteArray := prog_1_method_14_code
def yX10_strike : MethodName := ⟨RX10, "strike", "()I"⟩
abbrev cX10_about : ByteArray := prog_1_method_15_code
def yX10_about : MethodName := ⟨RX10, "about", "(II)I"⟩
abbrev cX10_parcel : ByteArray := prog_1_method_16_code
def yX10_parcel : MethodName := ⟨RX10, "parcel", "(III)I"⟩
abbrev cX10_spend : ByteArray := prog_1_method_17_code
def yX10_spend : MethodName := ⟨RX10, "spend", "(III)J"⟩
abbrev cX10_settle : ByteArray := prog_1_method_18_code
def yX10_settle : MethodName := ⟨RX10, "settle", "(I)J"⟩
abbrev cX10_taken : ByteArray := prog_1_method_19_code
def yX10_taken : MethodName := ⟨RX10, "taken", "(II)I"⟩
abbrev cX10_money : ByteArray := prog_1_method_20_code
def yX10_money : MethodName := ⟨RX10, "money", "(II)J"⟩
abbrev cX10_debt : ByteArray := prog_1_method_21_code
def yX10_debt : MethodName := ⟨RX10, "debt", "(I)J"⟩
abbrev cX10_suspects : ByteArray := prog_1_method_22_code
def yX10_suspects : MethodName := ⟨RX10, "suspects", "()I"⟩
abbrev cX10_suspect : ByteArray := prog_1_method_23_code
def yX10_suspect : MethodName := ⟨RX10, "suspect", "(I)I"⟩
abbrev cX10_skill : ByteArray := prog_1_method_24_code
def yX10_skill : MethodName := ⟨RX10, "skill", "(II)J"⟩
abbrev cX10_commonDivisor : ByteArray := prog_1_method_25_code
def yX10_commonDivisor : MethodName := ⟨RX10, "commonDivisor", "(JJ)J"⟩
abbrev cX10_sheet : ByteArray := prog_1_method_26_code
def yX10_sheet : MethodName := ⟨RX10, "sheet", "(III)I"⟩
abbrev cX10_lose : ByteArray := prog_1_method_27_code
def yX10_lose : MethodName := ⟨RX10, "lose", "(I)I"⟩
abbrev cX10_put : ByteArray := prog_1_method_28_code
def yX10_put : MethodName := ⟨RX10, "put", "(III)I"⟩
abbrev cX10_cell : ByteArray := prog_1_method_29_code
def yX10_cell : MethodName := ⟨RX10, "cell", "(III)J"⟩
abbrev cX10_copy : ByteArray := prog_1_method_30_code
def yX10_copy : MethodName := ⟨RX10, "copy", "(IIIII)I"⟩
abbrev cX10_tell : ByteArray := prog_1_method_31_code
def yX10_tell : MethodName := ⟨RX10, "tell", "(I)I"⟩
abbrev cX10_greet : ByteArray := prog_1_method_32_code
def yX10_greet : MethodName := ⟨RX10, "greet", "(I)I"⟩
abbrev cX10_as : ByteArray := prog_1_method_33_code
def yX10_as : MethodName := ⟨RX10, "as", "(II)I"⟩
abbrev cX10_isOfKind : ByteArray := prog_1_method_34_code
def yX10_isOfKind : MethodName := ⟨RX10, "isOfKind", "(LTributePitches$Gang;I)Z"⟩
abbrev cX10_trace : ByteArray := prog_1_method_35_code
def yX10_trace : MethodName := ⟨RX10, "trace", "()I"⟩
abbrev cX10_fault : ByteArray := prog_1_method_36_code
def yX10_fault : MethodName := ⟨RX10, "fault", "()I"⟩
abbrev cX10_told : ByteArray := prog_1_method_37_code
def yX10_told : MethodName := ⟨RX10, "told", "(I)I"⟩
abbrev cX10_isWithin : ByteArray := prog_1_method_38_code
def yX10_isWithin : MethodName := ⟨RX10, "isWithin", "(III)Z"⟩
abbrev cX10_pitchAt : ByteArray := prog_1_method_39_code
def yX10_pitchAt : MethodName := ⟨RX10, "pitchAt", "(I)LTributePitches$Pitch;"⟩
abbrev cX10_gangAt : ByteArray := prog_1_method_40_code
def yX10_gangAt : MethodName := ⟨RX10, "gangAt", "(I)LTributePitches$Gang;"⟩
abbrev cX10_takeAt : ByteArray := prog_1_method_41_code
def yX10_takeAt : MethodName := ⟨RX10, "takeAt", "(I)LTributePitches$Take;"⟩
abbrev cX10_sheetAt : ByteArray := prog_1_method_42_code
def yX10_sheetAt : MethodName := ⟨RX10, "sheetAt", "(I)LTributePitches$Sheet;"⟩
abbrev cX10_faulted : ByteArray := prog_1_method_43_code
def yX10_faulted : MethodName := ⟨RX10, "faulted", "(I)I"⟩
def RX11 : String := "TributePitchesModel"
def TX11 : u_T := fun k => match k with
  | 0 => ("TributePitchesModel", "fault", "I", false)
  | 1 => ("TributePitchesModel", "far", "I", false)
  | 2 => ("TributePitchesModel", "low", "[I", true)
  | 3 => ("TributePitchesModel", "high", "[I", true)
  | 4 => ("TributePitchesModel", "newLow", "[I", true)
  | 5 => ("TributePitchesModel", "newHigh", "[I", true)
  | 6 => ("TributePitchesModel", "isChanged", "Z", false)
  | 7 => ("TributePitchesModel", "sheetSize", "[I", true)
  | 8 => ("TributePitchesModel", "sheetLane", "[I", true)
  | 9 => ("TributePitchesModel", "sheet", "[I", true)
  | 10 => ("TributePitchesModel", "hands", "[I", true)
  | 11 => ("TributePitchesModel", "pitches", "I", false)
  | 12 => ("TributePitchesModel", "fromX", "[I", true)
  | 13 => ("TributePitchesModel", "fromY", "[I", true)
  | 14 => ("TributePitchesModel", "toX", "[I", true)
  | 15 => ("TributePitchesModel", "toY", "[I", true)
  | 16 => ("TributePitchesModel", "tonsOf", "[I", true)
  | 17 => ("TributePitchesModel", "gangs", "I", false)
  | 18 => ("TributePitchesModel", "sort", "[I", true)
  | 19 => ("TributePitchesModel", "debt", "[J", true)
  | 20 => ("TributePitchesModel", "sold", "I", false)
  | 21 => ("TributePitchesModel", "latest", "I", false)
  | 22 => ("TributePitchesModel", "bids", "I", false)
  | 23 => ("TributePitchesModel", "bidder", "I", false)
  | 24 => ("TributePitchesModel", "takes", "I", false)
  | 25 => ("TributePitchesModel", "gangOf", "[I", true)
  | 26 => ("TributePitchesModel", "pitchOf", "[I", true)
  | 27 => ("TributePitchesModel", "shareOf", "[I", true)
  | 28 => ("TributePitchesModel", "isSettled", "[Z", true)
  | 29 => ("TributePitchesModel", "least", "[J", true)
  | 30 => ("TributePitchesModel", "greatest", "[J", true)
  | 31 => ("TributePitchesModel", "costs", "[J", true)
  | 32 => ("TributePitchesModel", "ahead", "[J", true)
  | 33 => ("TributePitchesModel", "pay", "[J", true)
  | 34 => ("TributePitchesModel", "parcels", "I", false)
  | 35 => ("TributePitchesModel", "parcelTake", "[I", true)
  | 36 => ("TributePitchesModel", "parcelTons", "[I", true)
  | 37 => ("TributePitchesModel", "parcelGood", "[I", true)
  | _ => ("TributePitchesModel", "trace", "I", false)
def tyX11 : Nat → FieldType := fun k => match k with
  | 0 => .int
  | 1 => .int
  | 2 => .array .int
  | 3 => .array .int
  | 4 => .array .int
  | 5 => .array .int
  | 6 => .boolean
  | 7 => .array .int
  | 8 => .array .int
  | 9 => .array .int
  | 10 => .array .int
  | 11 => .int
  | 12 => .array .int
  | 13 => .array .int
  | 14 => .array .int
  | 15 => .array .int
  | 16 => .array .int
  | 17 => .int
  | 18 => .array .int
  | 19 => .array .long
  | 20 => .int
  | 21 => .int
  | 22 => .int
  | 23 => .int
  | 24 => .int
  | 25 => .array .int
  | 26 => .array .int
  | 27 => .array .int
  | 28 => .array .boolean
  | 29 => .array .long
  | 30 => .array .long
  | 31 => .array .long
  | 32 => .array .long
  | 33 => .array .long
  | 34 => .int
  | 35 => .array .int
  | 36 => .array .int
  | 37 => .array .int
  | _ => .int
abbrev wsX110 : List Cond := u_ws RX11 TX11 39
theorem nmX11 : ∀ a, a < 39 → ∀ b, b < 39 → a ≠ b → (TX11 a).2.1 ≠ (TX11 b).2.1 := by decide +kernel
theorem tyX11_ok : ∀ k, k < 39 → parseFieldDescriptor (TX11 k).2.2.1 = some (tyX11 k) := by decide +kernel
abbrev cX11_init : ByteArray := prog_13_method_1_code
def yX11_init : MethodName := ⟨RX11, "<init>", "()V"⟩
abbrev cX11_in : ByteArray := prog_13_method_2_code
def yX11_in : MethodName := ⟨RX11, "in", "(JJJ)Z"⟩
abbrev cX11_lost : ByteArray := prog_13_method_3_code
def yX11_lost : MethodName := ⟨RX11, "lost", "()J"⟩
abbrev cX11_refused : ByteArray := prog_13_method_4_code
def yX11_refused : MethodName := ⟨RX11, "refused", "(I)I"⟩
abbrev cX11_failed : ByteArray := prog_13_method_5_code
def yX11_failed : MethodName := ⟨RX11, "failed", "(I)I"⟩
abbrev cX11_failedLong : ByteArray := prog_13_method_6_code
def yX11_failedLong : MethodName := ⟨RX11, "failedLong", "(I)J"⟩
abbrev cX11_isSquare : ByteArray := prog_13_method_7_code
def yX11_isSquare : MethodName := ⟨RX11, "isSquare", "(II)Z"⟩
abbrev cX11_layNew : ByteArray := prog_13_method_8_code
def yX11_layNew : MethodName := ⟨RX11, "layNew", "()V"⟩
abbrev cX11_meet : ByteArray := prog_13_method_9_code
def yX11_meet : MethodName := ⟨RX11, "meet", "(III)V"⟩
abbrev cX11_meetNeighbour : ByteArray := prog_13_method_10_code
def yX11_meetNeighbour : MethodName := ⟨RX11, "meetNeighbour", "(IIII)V"⟩
abbrev cX11_narrowed : ByteArray := prog_13_method_11_code
def yX11_narrowed : MethodName := ⟨RX11, "narrowed", "(I)I"⟩
abbrev cX11_find : ByteArray := prog_13_method_12_code
def yX11_find : MethodName := ⟨RX11, "find", "(IIII)I"⟩
abbrev cX11_rise : ByteArray := prog_13_method_13_code
def yX11_rise : MethodName := ⟨RX11, "rise", "(I)I"⟩
abbrev cX11_good : ByteArray := prog_13_method_14_code
def yX11_good : MethodName := ⟨RX11, "good", "(III)I"⟩
abbrev cX11_noSheet : ByteArray := prog_13_method_15_code
def yX11_noSheet : MethodName := ⟨RX11, "noSheet", "(I)Z"⟩
abbrev cX11_sheet : ByteArray := prog_13_method_16_code
def yX11_sheet : MethodName := ⟨RX11, "sheet", "(III)I"⟩
abbrev cX11_lose : ByteArray := prog_13_method_17_code
def yX11_lose : MethodName := ⟨RX11, "lose", "(I)I"⟩
abbrev cX11_noCell : ByteArray := prog_13_method_18_code
def yX11_noCell : MethodName := ⟨RX11, "noCell", "(II)I"⟩
abbrev cX11_put : ByteArray := prog_13_method_19_code
def yX11_put : MethodName := ⟨RX11, "put", "(III)I"⟩
abbrev cX11_cell : ByteArray := prog_13_method_20_code
def yX11_cell : MethodName := ⟨RX11, "cell", "(III)J"⟩
abbrev cX11_isBeyond : ByteArray := prog_13_method_21_code
def yX11_isBeyond : MethodName := ⟨RX11, "isBeyond", "(III)Z"⟩
abbrev cX11_copy : ByteArray := prog_13_method_22_code
def yX11_copy : MethodName := ⟨RX11, "copy", "(IIIII)I"⟩
abbrev cX11_chart : ByteArray := prog_13_method_23_code
def yX11_chart : MethodName := ⟨RX11, "chart", "(IIIII)I"⟩
abbrev cX11_noPitch : ByteArray := prog_13_method_24_code
def yX11_noPitch : MethodName := ⟨RX11, "noPitch", "(I)Z"⟩
abbrev cX11_isOn : ByteArray := prog_13_method_25_code
def yX11_isOn : MethodName := ⟨RX11, "isOn", "(II)Z"⟩
abbrev cX11_pitch : ByteArray := prog_13_method_26_code
def yX11_pitch : MethodName := ⟨RX11, "pitch", "(IIIII)I"⟩
abbrev cX11_foretoldOf : ByteArray := prog_13_method_27_code
def yX11_foretoldOf : MethodName := ⟨RX11, "foretoldOf", "(II)J"⟩
abbrev cX11_foretold : ByteArray := prog_13_method_28_code
def yX11_foretold : MethodName := ⟨RX11, "foretold", "(II)J"⟩
abbrev cX11_noGang : ByteArray := prog_13_method_29_code
def yX11_noGang : MethodName := ⟨RX11, "noGang", "(I)Z"⟩
abbrev cX11_gang : ByteArray := prog_13_method_30_code
def yX11_gang : MethodName := ⟨RX11, "gang", "(I)I"⟩
abbrev cX11_takeOf : ByteArray := prog_13_method_31_code
def yX11_takeOf : MethodName := ⟨RX11, "takeOf", "(I)I"⟩
abbrev cX11_auction : ByteArray := prog_13_method_32_code
def yX11_auction : MethodName := ⟨RX11, "auction", "(II)I"⟩
abbrev cX11_letTo : ByteArray := prog_13_method_33_code
def yX11_letTo : MethodName := ⟨RX11, "letTo", "(I)I"⟩
abbrev cX11_bid : ByteArray := prog_13_method_34_code
def yX11_bid : MethodName := ⟨RX11, "bid", "(II)I"⟩
abbrev cX11_strike : ByteArray := prog_13_method_35_code
def yX11_strike : MethodName := ⟨RX11, "strike", "()I"⟩
abbrev cX11_takesOn : ByteArray := prog_13_method_36_code
def yX11_takesOn : MethodName := ⟨RX11, "takesOn", "(I)I"⟩
abbrev cX11_about : ByteArray := prog_13_method_37_code
def yX11_about : MethodName := ⟨RX11, "about", "(II)I"⟩
abbrev cX11_noTake : ByteArray := prog_13_method_38_code
def yX11_noTake : MethodName := ⟨RX11, "noTake", "(I)Z"⟩
abbrev cX11_parcel : ByteArray := prog_13_method_39_code
def yX11_parcel : MethodName := ⟨RX11, "parcel", "(III)I"⟩
abbrev cX11_spend : ByteArray := prog_13_method_40_code
def yX11_spend : MethodName := ⟨RX11, "spend", "(III)J"⟩
abbrev cX11_worthOf : ByteArray := prog_13_method_41_code
def yX11_worthOf : MethodName := ⟨RX11, "worthOf", "(I)J"⟩
abbrev cX11_settle : ByteArray := prog_13_method_42_code
def yX11_settle : MethodName := ⟨RX11, "settle", "(I)J"⟩
abbrev cX11_parcelsOf : ByteArray := prog_13_method_43_code
def yX11_parcelsOf : MethodName := ⟨RX11, "parcelsOf", "(I)I"⟩
abbrev cX11_taken : ByteArray := prog_13_method_44_code
def yX11_taken : MethodName := ⟨RX11, "taken", "(II)I"⟩
abbrev cX11_money : ByteArray := prog_13_method_45_code
def yX11_money : MethodName := ⟨RX11, "money", "(II)J"⟩
abbrev cX11_debt : ByteArray := prog_13_method_46_code
def yX11_debt : MethodName := ⟨RX11, "debt", "(I)J"⟩
abbrev cX11_isSuspect : ByteArray := prog_13_method_47_code
def yX11_isSuspect : MethodName := ⟨RX11, "isSuspect", "(I)Z"⟩
abbrev cX11_suspects : ByteArray := prog_13_method_48_code
def yX11_suspects : MethodName := ⟨RX11, "suspects", "()I"⟩
abbrev cX11_suspect : ByteArray := prog_13_method_49_code
def yX11_suspect : MethodName := ⟨RX11, "suspect", "(I)I"⟩
abbrev cX11_common : ByteArray := prog_13_method_50_code
def yX11_common : MethodName := ⟨RX11, "common", "(JJ)J"⟩
abbrev cX11_skill : ByteArray := prog_13_method_51_code
def yX11_skill : MethodName := ⟨RX11, "skill", "(II)J"⟩
abbrev cX11_traced : ByteArray := prog_13_method_52_code
def yX11_traced : MethodName := ⟨RX11, "traced", "(I)V"⟩
abbrev cX11_takesBy : ByteArray := prog_13_method_53_code
def yX11_takesBy : MethodName := ⟨RX11, "takesBy", "(I)I"⟩
abbrev cX11_tell : ByteArray := prog_13_method_54_code
def yX11_tell : MethodName := ⟨RX11, "tell", "(I)I"⟩
abbrev cX11_greet : ByteArray := prog_13_method_55_code
def yX11_greet : MethodName := ⟨RX11, "greet", "(I)I"⟩
abbrev cX11_as : ByteArray := prog_13_method_56_code
def yX11_as : MethodName := ⟨RX11, "as", "(II)I"⟩
abbrev cX11_trace : ByteArray := prog_13_method_57_code
def yX11_trace : MethodName := ⟨RX11, "trace", "()I"⟩
abbrev cX11_fault : ByteArray := prog_13_method_58_code
def yX11_fault : MethodName := ⟨RX11, "fault", "()I"⟩
abbrev cX11_told : ByteArray := prog_13_method_59_code
def yX11_told : MethodName := ⟨RX11, "told", "(I)I"⟩
def RJ9 : String := "java/lang/Math"
def TJ9 : u_T := fun k => match k with
  | _ => ("", "", "", false)
def tyJ9 : Nat → FieldType := fun k => match k with
  | _ => .int
abbrev wsJ90 : List Cond := u_ws RJ9 TJ9 0
theorem nmJ9 : ∀ a, a < 0 → ∀ b, b < 0 → a ≠ b → (TJ9 a).2.1 ≠ (TJ9 b).2.1 := by decide +kernel
theorem tyJ9_ok : ∀ k, k < 0 → parseFieldDescriptor (TJ9 k).2.2.1 = some (tyJ9 k) := by decide +kernel
abbrev cJ9_max_7cf53 : ByteArray := prog_14_method_65_code
def yJ9_max_7cf53 : MethodName := ⟨RJ9, "max", "(II)I"⟩
abbrev cJ9_max_f86c9 : ByteArray := prog_14_method_66_code
def yJ9_max_f86c9 : MethodName := ⟨RJ9, "max", "(JJ)J"⟩
abbrev cJ9_min_7cf53 : ByteArray := prog_14_method_69_code
def yJ9_min_7cf53 : MethodName := ⟨RJ9, "min", "(II)I"⟩
def RJ10 : String := "java/lang/System"
def TJ10 : u_T := fun k => match k with
  | _ => ("", "", "", false)
def tyJ10 : Nat → FieldType := fun k => match k with
  | _ => .int
abbrev wsJ100 : List Cond := u_ws RJ10 TJ10 0
theorem nmJ10 : ∀ a, a < 0 → ∀ b, b < 0 → a ≠ b → (TJ10 a).2.1 ≠ (TJ10 b).2.1 := by decide +kernel
theorem tyJ10_ok : ∀ k, k < 0 → parseFieldDescriptor (TJ10 k).2.2.1 = some (tyJ10 k) := by decide +kernel
def RJ7 : String := "java/util/Arrays"
def TJ7 : u_T := fun k => match k with
  | _ => ("", "", "", false)
def tyJ7 : Nat → FieldType := fun k => match k with
  | _ => .int
abbrev wsJ70 : List Cond := u_ws RJ7 TJ7 0
theorem nmJ7 : ∀ a, a < 0 → ∀ b, b < 0 → a ≠ b → (TJ7 a).2.1 ≠ (TJ7 b).2.1 := by decide +kernel
theorem tyJ7_ok : ∀ k, k < 0 → parseFieldDescriptor (TJ7 k).2.2.1 = some (tyJ7 k) := by decide +kernel
abbrev cJ7_fill_53178 : ByteArray := prog_16_method_103_code
def yJ7_fill_53178 : MethodName := ⟨RJ7, "fill", "([II)V"⟩
def RL : String := "TributePitchesLaw"
abbrev cL_law : ByteArray := code
def yL_law : MethodName := ⟨RL, "law", "([I)Z"⟩
def wsX0_init : List Cond := .code yX0_init cX0_init 3 none :: ([.methodLink RX0 1 objectInit, .instanceMethod objectInit, .code objectInit ⟨#[0xb1]⟩ 1 none, .fieldLink RX0 7 "TributePitches$Auction" "pitch" "LTributePitches$Pitch;", .fieldLink RX0 13 "TributePitches$Auction" "share" "I"] ++ wsX00)
def wsX0_mostShare : List Cond := .code yX0_mostShare cX0_mostShare 1 (some .int) :: ([.fieldLink RX0 17 "TributePitches$Auction" "bids" "I", .fieldLink RX0 13 "TributePitches$Auction" "share" "I"] ++ wsX00)
def wsX2_init : List Cond := .code yX2_init cX2_init 2 none :: ([.methodLink RX2 3 objectInit, .instanceMethod objectInit, .code objectInit ⟨#[0xb1]⟩ 1 none, .fieldLink RX2 9 "TributePitches$Gang" "number" "I"] ++ wsX10 ++ wsX20 ++ wsX40)
def wsX1_init : List Cond := .code yX1_init cX1_init 2 none :: ([.methodLink RX1 1 yX2_init, .instanceMethod yX2_init, .initialized RX2, .code yX2_init cX2_init 2 none, .methodLink RX2 3 objectInit, .instanceMethod objectInit, .code objectInit ⟨#[0xb1]⟩ 1 none, .fieldLink RX2 9 "TributePitches$Gang" "number" "I"] ++ wsX10 ++ wsX20 ++ wsX40)
def wsX1_costsBorne : List Cond := .code yX1_costsBorne cX1_costsBorne 3 (some .long) :: ([.constantLong RX1 7 (2)])
def wsX9_leave : List Cond := .code yX9_leave cX9_leave 2 none :: ([.fieldLink RX9 7 "TributePitches$Trace" "number" "I"] ++ wsX90)
def wsX2_tellingOfAnyGang : List Cond := .code yX2_tellingOfAnyGang cX2_tellingOfAnyGang 2 (some .int) :: ([.fieldLink RX2 29 "TributePitches$Gang" "takesHad" "I", .methodLink RX2 23 yX9_leave, .instanceMethod yX9_leave, .selects RX9 yX9_leave yX9_leave, .initialized RX9, .code yX9_leave cX9_leave 2 none, .fieldLink RX9 7 "TributePitches$Trace" "number" "I"] ++ wsX10 ++ wsX20 ++ wsX40 ++ wsX90)
def wsX1_telling : List Cond := .code yX1_telling cX1_telling 2 (some .int) :: ([.methodLink RX1 9 yX9_leave, .instanceMethod yX9_leave, .selects RX9 yX9_leave yX9_leave, .initialized RX9, .code yX9_leave cX9_leave 2 none, .fieldLink RX9 7 "TributePitches$Trace" "number" "I", .methodLink RX1 14 ⟨"TributePitches$Family", "tellingOfAnyGang", "(LTributePitches$Trace;)I"⟩, .sameMethod "TributePitches$Family" "TributePitches$Gang" "tellingOfAnyGang" "(LTributePitches$Trace;)I", .selects RX1 ⟨"TributePitches$Family", "tellingOfAnyGang", "(LTributePitches$Trace;)I"⟩ yX2_tellingOfAnyGang, .instanceMethod yX2_tellingOfAnyGang, .initialized RX2, .code yX2_tellingOfAnyGang cX2_tellingOfAnyGang 2 (some .int), .fieldLink RX2 29 "TributePitches$Gang" "takesHad" "I", .methodLink RX2 23 yX9_leave, .selects RX4 ⟨"TributePitches$Family", "tellingOfAnyGang", "(LTributePitches$Trace;)I"⟩ yX2_tellingOfAnyGang] ++ wsX90 ++ wsX10 ++ wsX20 ++ wsX40)
def wsX1_greeting : List Cond := .code yX1_greeting cX1_greeting 2 (some .int) :: ([.methodLink RX1 9 yX9_leave, .instanceMethod yX9_leave, .selects RX9 yX9_leave yX9_leave, .initialized RX9, .code yX9_leave cX9_leave 2 none, .fieldLink RX9 7 "TributePitches$Trace" "number" "I"] ++ wsX90)
def wsX2_costsBorne : List Cond := .code yX2_costsBorne cX2_costsBorne 3 (some .long) :: ([])
def wsX2_debtTaken : List Cond := .code yX2_debtTaken cX2_debtTaken 1 (some .long) :: ([.fieldLink RX2 15 "TributePitches$Gang" "owed" "J"] ++ wsX10 ++ wsX20 ++ wsX40)
def wsX2_telling : List Cond := .code yX2_telling cX2_telling 2 (some .int) :: ([.methodLink RX2 19 ⟨"TributePitches$Gang", "tellingOfAnyGang", "(LTributePitches$Trace;)I"⟩, .sameMethod "TributePitches$Gang" "TributePitches$Gang" "tellingOfAnyGang" "(LTributePitches$Trace;)I", .selects RX1 ⟨"TributePitches$Gang", "tellingOfAnyGang", "(LTributePitches$Trace;)I"⟩ yX2_tellingOfAnyGang, .instanceMethod yX2_tellingOfAnyGang, .initialized RX2, .code yX2_tellingOfAnyGang cX2_tellingOfAnyGang 2 (some .int), .fieldLink RX2 29 "TributePitches$Gang" "takesHad" "I", .methodLink RX2 23 yX9_leave, .instanceMethod yX9_leave, .selects RX9 yX9_leave yX9_leave, .initialized RX9, .code yX9_leave cX9_leave 2 none, .fieldLink RX9 7 "TributePitches$Trace" "number" "I", .methodLink RX2 19 yX2_tellingOfAnyGang, .selects RX2 yX2_tellingOfAnyGang yX2_tellingOfAnyGang, .selects RX4 ⟨"TributePitches$Gang", "tellingOfAnyGang", "(LTributePitches$Trace;)I"⟩ yX2_tellingOfAnyGang] ++ wsX10 ++ wsX20 ++ wsX40 ++ wsX90)
def wsX2_greeting : List Cond := .code yX2_greeting cX2_greeting 2 (some .int) :: ([.fieldLink RX2 9 "TributePitches$Gang" "number" "I", .methodLink RX2 23 yX9_leave, .instanceMethod yX9_leave, .selects RX9 yX9_leave yX9_leave, .initialized RX9, .code yX9_leave cX9_leave 2 none, .fieldLink RX9 7 "TributePitches$Trace" "number" "I"] ++ wsX10 ++ wsX20 ++ wsX40 ++ wsX90)
def wsJ7_fill_53178 : List Cond := .code yJ7_fill_53178 cJ7_fill_53178 4 none :: ([])
def wsX3_init : List Cond := .code yX3_init cX3_init 1 none :: ([.methodLink RX3 5 objectInit, .instanceMethod objectInit, .code objectInit ⟨#[0xb1]⟩ 1 none, .arrayClass .int, .fieldLink RX3 11 "TributePitches$Lode" "lows" "[I", .fieldLink RX3 15 "TributePitches$Lode" "highs" "[I", .fieldLink RX3 18 "TributePitches$Lode" "triedLows" "[I", .fieldLink RX3 21 "TributePitches$Lode" "triedHighs" "[I", .fieldLink RX3 24 "TributePitches$Lode" "law" "I", .methodLink RX3 28 yJ7_fill_53178, .static yJ7_fill_53178, .initialized RJ7, .code yJ7_fill_53178 cJ7_fill_53178 4 none] ++ wsX30)
def wsX10_isWithin : List Cond := .code yX10_isWithin cX10_isWithin 3 (some .boolean) :: ([])
def wsX3_hasSquare : List Cond := .code yX3_hasSquare cX3_hasSquare 2 (some .boolean) :: ([.static yX10_isWithin, .initialized RX10, .code yX10_isWithin cX10_isWithin 3 (some .boolean)])
def wsX3_numberOf : List Cond := .code yX3_numberOf cX3_numberOf 2 (some .int) :: ([])
def wsX3_beginTrial : List Cond := .code yX3_beginTrial cX3_beginTrial 1 none :: ([.fieldLink RX3 11 "TributePitches$Lode" "lows" "[I", .fieldLink RX3 18 "TributePitches$Lode" "triedLows" "[I", .methodLink RX3 38 arraycopyName, .native arraycopyName, .static arraycopyName, .initialized "java/lang/System", .fieldLink RX3 15 "TributePitches$Lode" "highs" "[I", .fieldLink RX3 21 "TributePitches$Lode" "triedHighs" "[I"] ++ wsX30)
def wsX3_tryCommon : List Cond := .code yX3_tryCommon cX3_tryCommon 4 none :: ([.fieldLink RX3 18 "TributePitches$Lode" "triedLows" "[I", .methodLink RX3 44 Lib.Math.max.name, .static Lib.Math.max.name, .initialized "java/lang/Math", .code Lib.Math.max.name Lib.Math.max.code 2 (some .int), .fieldLink RX3 21 "TributePitches$Lode" "triedHighs" "[I", .methodLink RX3 50 Lib.Math.min.name, .static Lib.Math.min.name, .code Lib.Math.min.name Lib.Math.min.code 2 (some .int)] ++ wsX30)
def wsX3_tryNeighbour : List Cond := .code yX3_tryNeighbour cX3_tryNeighbour 4 none :: ([.fieldLink RX3 18 "TributePitches$Lode" "triedLows" "[I", .fieldLink RX3 21 "TributePitches$Lode" "triedHighs" "[I", .methodLink RX3 61 yX3_tryCommon, .instanceMethod yX3_tryCommon, .selects RX3 yX3_tryCommon yX3_tryCommon, .initialized RX3, .code yX3_tryCommon cX3_tryCommon 4 none, .methodLink RX3 44 Lib.Math.max.name, .static Lib.Math.max.name, .initialized "java/lang/Math", .code Lib.Math.max.name Lib.Math.max.code 2 (some .int), .methodLink RX3 50 Lib.Math.min.name, .static Lib.Math.min.name, .code Lib.Math.min.name Lib.Math.min.code 2 (some .int)] ++ wsX30)
def wsX3_narrowTrial : List Cond := .code yX3_narrowTrial cX3_narrowTrial 3 none :: ([.methodLink RX3 57 yX3_tryNeighbour, .instanceMethod yX3_tryNeighbour, .selects RX3 yX3_tryNeighbour yX3_tryNeighbour, .initialized RX3, .code yX3_tryNeighbour cX3_tryNeighbour 4 none, .fieldLink RX3 18 "TributePitches$Lode" "triedLows" "[I", .fieldLink RX3 21 "TributePitches$Lode" "triedHighs" "[I", .methodLink RX3 61 yX3_tryCommon, .instanceMethod yX3_tryCommon, .selects RX3 yX3_tryCommon yX3_tryCommon, .code yX3_tryCommon cX3_tryCommon 4 none, .methodLink RX3 44 Lib.Math.max.name, .static Lib.Math.max.name, .initialized "java/lang/Math", .code Lib.Math.max.name Lib.Math.max.code 2 (some .int), .methodLink RX3 50 Lib.Math.min.name, .static Lib.Math.min.name, .code Lib.Math.min.name Lib.Math.min.code 2 (some .int)] ++ wsX30)
def wsX3_endTrial_r1 : List Cond := [Cond.fieldLink RX3 18 "TributePitches$Lode" "triedLows" "[I", Cond.fieldLink RX3 21 "TributePitches$Lode" "triedHighs" "[I", Cond.fieldLink RX3 11 "TributePitches$Lode" "lows" "[I", Cond.fieldLink RX3 15 "TributePitches$Lode" "highs" "[I", Cond.methodLink RX3 38 arraycopyName, Cond.native arraycopyName, Cond.static arraycopyName, Cond.initialized "java/lang/System", Cond.fieldLink RX3 24 "TributePitches$Lode" "law" "I", Cond.methodLink RX3 53 yX3_narrowTrial, Cond.instanceMethod yX3_narrowTrial, Cond.selects RX3 yX3_narrowTrial yX3_narrowTrial, Cond.initialized RX3, Cond.code yX3_narrowTrial cX3_narrowTrial 3 none, Cond.methodLink RX3 57 yX3_tryNeighbour, Cond.instanceMethod yX3_tryNeighbour, Cond.selects RX3 yX3_tryNeighbour yX3_tryNeighbour, Cond.code yX3_tryNeighbour cX3_tryNeighbour 4 none, Cond.methodLink RX3 61 yX3_tryCommon, Cond.instanceMethod yX3_tryCommon, Cond.selects RX3 yX3_tryCommon yX3_tryCommon, Cond.code yX3_tryCommon cX3_tryCommon 4 none, Cond.methodLink RX3 44 Lib.Math.max.name, Cond.static Lib.Math.max.name]
def wsX3_endTrial_r2 : List Cond := [Cond.initialized "java/lang/Math", Cond.code Lib.Math.max.name Lib.Math.max.code 2 (some .int), Cond.methodLink RX3 50 Lib.Math.min.name, Cond.static Lib.Math.min.name, Cond.code Lib.Math.min.name Lib.Math.min.code 2 (some .int)]
def wsX3_endTrial : List Cond := .code yX3_endTrial cX3_endTrial 4 (some .int) :: ((wsX3_endTrial_r1 ++ wsX3_endTrial_r2) ++ wsX30)
def wsX4_init : List Cond := .code yX4_init cX4_init 2 none :: ([.methodLink RX4 1 yX1_init, .instanceMethod yX1_init, .initialized RX1, .code yX1_init cX1_init 2 none, .methodLink RX1 1 yX2_init, .instanceMethod yX2_init, .initialized RX2, .code yX2_init cX2_init 2 none, .methodLink RX2 3 objectInit, .instanceMethod objectInit, .code objectInit ⟨#[0xb1]⟩ 1 none, .fieldLink RX2 9 "TributePitches$Gang" "number" "I"] ++ wsX10 ++ wsX20 ++ wsX40)
def wsX4_debtTaken : List Cond := .code yX4_debtTaken cX4_debtTaken 1 (some .long) :: ([.fieldLink RX4 7 "TributePitches$OldHands" "owed" "J", .sameField "TributePitches$OldHands" "TributePitches$Gang" "owed" "J", .constantLong RX4 13 (2)] ++ wsX10 ++ wsX20 ++ wsX40)
def wsX4_telling : List Cond := .code yX4_telling cX4_telling 2 (some .int) :: ([.methodLink RX4 15 yX9_leave, .instanceMethod yX9_leave, .selects RX9 yX9_leave yX9_leave, .initialized RX9, .code yX9_leave cX9_leave 2 none, .fieldLink RX9 7 "TributePitches$Trace" "number" "I", .methodLink RX4 20 ⟨"TributePitches$OldHands", "tellingOfAnyGang", "(LTributePitches$Trace;)I"⟩, .sameMethod "TributePitches$OldHands" "TributePitches$Gang" "tellingOfAnyGang" "(LTributePitches$Trace;)I", .selects RX4 ⟨"TributePitches$OldHands", "tellingOfAnyGang", "(LTributePitches$Trace;)I"⟩ yX2_tellingOfAnyGang, .instanceMethod yX2_tellingOfAnyGang, .initialized RX2, .code yX2_tellingOfAnyGang cX2_tellingOfAnyGang 2 (some .int), .fieldLink RX2 29 "TributePitches$Gang" "takesHad" "I", .methodLink RX2 23 yX9_leave] ++ wsX90 ++ wsX10 ++ wsX20 ++ wsX40)
def wsX4_greeting : List Cond := .code yX4_greeting cX4_greeting 2 (some .int) :: ([.methodLink RX4 15 yX9_leave, .instanceMethod yX9_leave, .selects RX9 yX9_leave yX9_leave, .initialized RX9, .code yX9_leave cX9_leave 2 none, .fieldLink RX9 7 "TributePitches$Trace" "number" "I", .methodLink RX4 24 yX1_greeting, .sameMethod "TributePitches$Family" "TributePitches$Family" "greeting" "(LTributePitches$Trace;)I", .superclass RX4 RX1, .instanceMethod yX1_greeting, .initialized RX1, .code yX1_greeting cX1_greeting 2 (some .int), .methodLink RX1 9 yX9_leave] ++ wsX90)
def wsX5_init : List Cond := .code yX5_init cX5_init 3 none :: ([.methodLink RX5 1 objectInit, .instanceMethod objectInit, .code objectInit ⟨#[0xb1]⟩ 1 none, .fieldLink RX5 7 "TributePitches$Parcel" "pitch" "LTributePitches$Pitch;", .fieldLink RX5 13 "TributePitches$Parcel" "goodness" "I"] ++ wsX50)
def wsX6_greatestOf : List Cond := .code yX6_greatestOf cX6_greatestOf 5 (some .int) :: ([.fieldLink RX6 16 "TributePitches$Pitch" "y" "I", .fieldLink RX6 22 "TributePitches$Pitch" "y2" "I", .fieldLink RX6 13 "TributePitches$Pitch" "x" "I", .fieldLink RX6 19 "TributePitches$Pitch" "x2" "I", .methodLink RX6 34 Lib.Math.max.name, .static Lib.Math.max.name, .initialized "java/lang/Math", .code Lib.Math.max.name Lib.Math.max.code 2 (some .int), .methodLink RX6 28 yX3_numberOf, .static yX3_numberOf, .initialized RX3, .code yX3_numberOf cX3_numberOf 2 (some .int)] ++ wsX60)
def wsX5_isSuspect : List Cond := .code yX5_isSuspect cX5_isSuspect 2 (some .boolean) :: ([.fieldLink RX5 13 "TributePitches$Parcel" "goodness" "I", .fieldLink RX5 7 "TributePitches$Parcel" "pitch" "LTributePitches$Pitch;", .fieldLink RX5 17 "TributePitches$Lode" "highs" "[I", .methodLink RX5 23 yX6_greatestOf, .instanceMethod yX6_greatestOf, .selects RX6 yX6_greatestOf yX6_greatestOf, .initialized RX6, .code yX6_greatestOf cX6_greatestOf 5 (some .int), .fieldLink RX6 16 "TributePitches$Pitch" "y" "I", .fieldLink RX6 22 "TributePitches$Pitch" "y2" "I", .fieldLink RX6 13 "TributePitches$Pitch" "x" "I", .fieldLink RX6 19 "TributePitches$Pitch" "x2" "I", .methodLink RX6 34 Lib.Math.max.name, .static Lib.Math.max.name, .initialized "java/lang/Math", .code Lib.Math.max.name Lib.Math.max.code 2 (some .int), .methodLink RX6 28 yX3_numberOf, .static yX3_numberOf, .initialized RX3, .code yX3_numberOf cX3_numberOf 2 (some .int)] ++ wsX50 ++ wsX30 ++ wsX60)
def wsX6_init : List Cond := .code yX6_init cX6_init 7 none :: ([.methodLink RX6 1 objectInit, .instanceMethod objectInit, .code objectInit ⟨#[0xb1]⟩ 1 none, .fieldLink RX6 7 "TributePitches$Pitch" "number" "I", .fieldLink RX6 13 "TributePitches$Pitch" "x" "I", .fieldLink RX6 16 "TributePitches$Pitch" "y" "I", .fieldLink RX6 19 "TributePitches$Pitch" "x2" "I", .fieldLink RX6 22 "TributePitches$Pitch" "y2" "I", .fieldLink RX6 25 "TributePitches$Pitch" "tons" "I"] ++ wsX60)
def wsX6_meets : List Cond := .code yX6_meets cX6_meets 5 (some .boolean) :: ([.fieldLink RX6 13 "TributePitches$Pitch" "x" "I", .fieldLink RX6 19 "TributePitches$Pitch" "x2" "I", .fieldLink RX6 16 "TributePitches$Pitch" "y" "I", .fieldLink RX6 22 "TributePitches$Pitch" "y2" "I"] ++ wsX60)
def wsX6_foretoldBy : List Cond := .code yX6_foretoldBy cX6_foretoldBy 6 (some .long) :: ([.fieldLink RX6 16 "TributePitches$Pitch" "y" "I", .fieldLink RX6 22 "TributePitches$Pitch" "y2" "I", .fieldLink RX6 13 "TributePitches$Pitch" "x" "I", .fieldLink RX6 19 "TributePitches$Pitch" "x2" "I", .fieldLink RX6 25 "TributePitches$Pitch" "tons" "I", .methodLink RX6 28 yX3_numberOf, .static yX3_numberOf, .initialized RX3, .code yX3_numberOf cX3_numberOf 2 (some .int)] ++ wsX60)
def wsX7_init : List Cond := .code yX7_init cX7_init 1 none :: ([.methodLink RX7 3 objectInit, .instanceMethod objectInit, .code objectInit ⟨#[0xb1]⟩ 1 none, .arrayClass .int, .fieldLink RX7 11 "TributePitches$Sheet" "cells" "[I", .fieldLink RX7 15 "TributePitches$Sheet" "lane" "I"] ++ wsX70)
def wsX7_isLane : List Cond := .code yX7_isLane cX7_isLane 1 (some .boolean) :: ([.static yX10_isWithin, .initialized RX10, .code yX10_isWithin cX10_isWithin 3 (some .boolean)])
def wsX7_renew : List Cond := .code yX7_renew cX7_renew 3 none :: ([.fieldLink RX7 11 "TributePitches$Sheet" "cells" "[I", .fieldLink RX7 15 "TributePitches$Sheet" "lane" "I", .fieldLink RX7 29 "TributePitches$Sheet" "length" "I", .methodLink RX7 23 yJ7_fill_53178, .static yJ7_fill_53178, .initialized RJ7, .code yJ7_fill_53178 cJ7_fill_53178 4 none] ++ wsX70)
def wsX7_hasNothing : List Cond := .code yX7_hasNothing cX7_hasNothing 1 (some .boolean) :: ([.fieldLink RX7 15 "TributePitches$Sheet" "lane" "I"] ++ wsX70)
def wsX7_faultAs : List Cond := .code yX7_faultAs cX7_faultAs 2 (some .int) :: ([.fieldLink RX7 15 "TributePitches$Sheet" "lane" "I", .methodLink RX7 32 yX7_hasNothing, .instanceMethod yX7_hasNothing, .selects RX7 yX7_hasNothing yX7_hasNothing, .initialized RX7, .code yX7_hasNothing cX7_hasNothing 1 (some .boolean)] ++ wsX70)
def wsX7_holds : List Cond := .code yX7_holds cX7_holds 3 (some .boolean) :: ([.fieldLink RX7 29 "TributePitches$Sheet" "length" "I"] ++ wsX70)
def wsX7_hasAbove : List Cond := .code yX7_hasAbove cX7_hasAbove 5 (some .boolean) :: ([.fieldLink RX7 11 "TributePitches$Sheet" "cells" "[I"] ++ wsX70)
def wsX7_cut : List Cond := .code yX7_cut cX7_cut 2 (some .int) :: ([.fieldLink RX7 15 "TributePitches$Sheet" "lane" "I"] ++ wsX70)
def wsX8_init : List Cond := .code yX8_init cX8_init 5 none :: ([.methodLink RX8 3 objectInit, .instanceMethod objectInit, .code objectInit ⟨#[0xb1]⟩ 1 none, .fieldLink RX8 9 "TributePitches$Take" "number" "I", .fieldLink RX8 15 "TributePitches$Take" "gang" "LTributePitches$Gang;", .fieldLink RX8 19 "TributePitches$Take" "pitch" "LTributePitches$Pitch;", .fieldLink RX8 23 "TributePitches$Take" "share" "I"] ++ wsX80)
def wsX8_begin : List Cond := .code yX8_begin cX8_begin 1 none :: ([.fieldLink RX8 19 "TributePitches$Take" "pitch" "LTributePitches$Pitch;", .fieldLink RX8 26 "TributePitches$Pitch" "take" "LTributePitches$Take;", .fieldLink RX8 32 "TributePitches$Pitch" "takesHad" "I", .fieldLink RX8 15 "TributePitches$Take" "gang" "LTributePitches$Gang;", .fieldLink RX8 35 "TributePitches$Gang" "takesHad" "I", .fieldLink RX8 38 "TributePitches$Gang" "letPitches" "I"] ++ wsX80 ++ wsX60 ++ wsX10 ++ wsX20 ++ wsX40)
def wsX8_end_r1 : List Cond := [Cond.fieldLink RX8 15 "TributePitches$Take" "gang" "LTributePitches$Gang;", Cond.fieldLink RX8 23 "TributePitches$Take" "share" "I", Cond.fieldLink RX8 45 "TributePitches$Take" "worths" "J", Cond.constantLong RX8 49 (240), Cond.fieldLink RX8 51 "TributePitches$Take" "costs" "J", Cond.fieldLink RX8 58 "TributePitches$Take" "ahead" "J", Cond.methodLink RX8 61 Lib.MathLoose.max_long.x, Cond.static Lib.MathLoose.max_long.x, Cond.initialized "java/lang/Math", Cond.code Lib.MathLoose.max_long.x Lib.MathLoose.max_long.code 4 (some .long), Cond.fieldLink RX8 67 "TributePitches$Take" "pay" "J", Cond.fieldLink RX8 70 "TributePitches$Gang" "owed" "J", Cond.fieldLink RX8 73 "TributePitches$Take" "settled" "Z", Cond.fieldLink RX8 38 "TributePitches$Gang" "letPitches" "I", Cond.fieldLink RX8 19 "TributePitches$Take" "pitch" "LTributePitches$Pitch;", Cond.fieldLink RX8 26 "TributePitches$Pitch" "take" "LTributePitches$Take;", Cond.methodLink RX8 41 ⟨"TributePitches$Gang", "debtTaken", "()J"⟩, Cond.sameMethod "TributePitches$Gang" "TributePitches$Gang" "debtTaken" "()J", Cond.selects RX1 ⟨"TributePitches$Gang", "debtTaken", "()J"⟩ yX2_debtTaken, Cond.instanceMethod yX2_debtTaken, Cond.initialized RX2, Cond.code yX2_debtTaken cX2_debtTaken 1 (some .long), Cond.fieldLink RX2 15 "TributePitches$Gang" "owed" "J", Cond.methodLink RX8 41 yX2_debtTaken]
def wsX8_end_r2 : List Cond := [Cond.selects RX2 yX2_debtTaken yX2_debtTaken, Cond.instanceMethod ⟨"TributePitches$Gang", "debtTaken", "()J"⟩, Cond.selects RX4 ⟨"TributePitches$Gang", "debtTaken", "()J"⟩ yX4_debtTaken, Cond.instanceMethod yX4_debtTaken, Cond.initialized RX4, Cond.code yX4_debtTaken cX4_debtTaken 1 (some .long), Cond.fieldLink RX4 7 "TributePitches$OldHands" "owed" "J", Cond.sameField "TributePitches$OldHands" "TributePitches$Gang" "owed" "J", Cond.constantLong RX4 13 (2), Cond.methodLink RX8 54 ⟨"TributePitches$Gang", "costsBorne", "(J)J"⟩, Cond.sameMethod "TributePitches$Gang" "TributePitches$Gang" "costsBorne" "(J)J", Cond.instanceMethod ⟨"TributePitches$Gang", "costsBorne", "(J)J"⟩, Cond.selects RX1 ⟨"TributePitches$Gang", "costsBorne", "(J)J"⟩ yX1_costsBorne, Cond.instanceMethod yX1_costsBorne, Cond.initialized RX1, Cond.code yX1_costsBorne cX1_costsBorne 3 (some .long), Cond.constantLong RX1 7 (2), Cond.code yX2_costsBorne cX2_costsBorne 3 (some .long), Cond.methodLink RX8 54 yX2_costsBorne, Cond.instanceMethod yX2_costsBorne, Cond.selects RX2 yX2_costsBorne yX2_costsBorne, Cond.selects RX4 ⟨"TributePitches$Gang", "costsBorne", "(J)J"⟩ yX1_costsBorne]
def wsX8_end : List Cond := .code yX8_end cX8_end 5 none :: ((wsX8_end_r1 ++ wsX8_end_r2) ++ wsX80 ++ wsX10 ++ wsX20 ++ wsX40 ++ wsX60)
def wsX9_init : List Cond := .code yX9_init cX9_init 1 none :: ([.methodLink RX9 1 objectInit, .instanceMethod objectInit, .code objectInit ⟨#[0xb1]⟩ 1 none])
def wsX10_init_r1 : List Cond := [Cond.methodLink RX10 3 objectInit, Cond.instanceMethod objectInit, Cond.code objectInit ⟨#[0xb1]⟩ 1 none, Cond.classLink RX10 9 RX3, Cond.instantiable RX3 5, Cond.initialized RX3, Cond.fieldLink RX10 12 "TributePitches" "lode" "LTributePitches$Lode;", Cond.classLink RX10 18 RX6, Cond.fieldLink RX10 20 "TributePitches" "pitches" "[LTributePitches$Pitch;", Cond.classLink RX10 24 RX2, Cond.fieldLink RX10 26 "TributePitches" "gangs" "[LTributePitches$Gang;", Cond.classLink RX10 30 RX8, Cond.fieldLink RX10 32 "TributePitches" "takes" "[LTributePitches$Take;", Cond.classLink RX10 36 RX5, Cond.fieldLink RX10 38 "TributePitches" "parcels" "[LTributePitches$Parcel;", Cond.classLink RX10 42 RX7, Cond.instantiable RX7 3, Cond.initialized RX7, Cond.fieldLink RX10 45 "TributePitches" "sheets" "[LTributePitches$Sheet;", Cond.classLink RX10 49 RX9, Cond.instantiable RX9 1, Cond.initialized RX9, Cond.fieldLink RX10 52 "TributePitches" "steps" "LTributePitches$Trace;", Cond.fieldLink RX10 56 "TributePitches" "latestFault" "I"]
def wsX10_init_r2 : List Cond := [Cond.methodLink RX10 11 yX3_init, Cond.instanceMethod yX3_init, Cond.code yX3_init cX3_init 1 none, Cond.methodLink RX3 5 objectInit, Cond.arrayClass .int, Cond.fieldLink RX3 11 "TributePitches$Lode" "lows" "[I", Cond.fieldLink RX3 15 "TributePitches$Lode" "highs" "[I", Cond.fieldLink RX3 18 "TributePitches$Lode" "triedLows" "[I", Cond.fieldLink RX3 21 "TributePitches$Lode" "triedHighs" "[I", Cond.fieldLink RX3 24 "TributePitches$Lode" "law" "I", Cond.methodLink RX3 28 yJ7_fill_53178, Cond.static yJ7_fill_53178, Cond.initialized RJ7, Cond.code yJ7_fill_53178 cJ7_fill_53178 4 none, Cond.instanceMethod yX7_init, Cond.code yX7_init cX7_init 1 none, Cond.methodLink RX7 3 objectInit, Cond.fieldLink RX7 11 "TributePitches$Sheet" "cells" "[I", Cond.fieldLink RX7 15 "TributePitches$Sheet" "lane" "I", Cond.instanceMethod yX9_init, Cond.code yX9_init cX9_init 1 none, Cond.methodLink RX9 1 objectInit]
def wsX10_init : List Cond := .code yX10_init cX10_init 1 none :: ((wsX10_init_r1 ++ wsX10_init_r2) ++ wsX30 ++ wsX100 ++ wsX70 ++ wsX90)
def wsX10_find_r1 : List Cond := [Cond.fieldLink RX10 12 "TributePitches" "lode" "LTributePitches$Lode;", Cond.fieldLink RX10 79 "TributePitches$Lode" "law" "I", Cond.methodLink RX10 60 yX3_hasSquare, Cond.static yX3_hasSquare, Cond.initialized RX3, Cond.code yX3_hasSquare cX3_hasSquare 2 (some .boolean), Cond.static yX10_isWithin, Cond.initialized RX10, Cond.code yX10_isWithin cX10_isWithin 3 (some .boolean), Cond.methodLink RX10 64 yX10_isWithin, Cond.methodLink RX10 68 yX3_beginTrial, Cond.instanceMethod yX3_beginTrial, Cond.selects RX3 yX3_beginTrial yX3_beginTrial, Cond.code yX3_beginTrial cX3_beginTrial 1 none, Cond.fieldLink RX3 11 "TributePitches$Lode" "lows" "[I", Cond.fieldLink RX3 18 "TributePitches$Lode" "triedLows" "[I", Cond.methodLink RX3 38 arraycopyName, Cond.native arraycopyName, Cond.static arraycopyName, Cond.initialized "java/lang/System", Cond.fieldLink RX3 15 "TributePitches$Lode" "highs" "[I", Cond.fieldLink RX3 21 "TributePitches$Lode" "triedHighs" "[I", Cond.methodLink RX10 71 yX3_numberOf, Cond.static yX3_numberOf]
def wsX10_find_r2 : List Cond := [Cond.code yX3_numberOf cX3_numberOf 2 (some .int), Cond.methodLink RX10 75 yX3_tryCommon, Cond.instanceMethod yX3_tryCommon, Cond.selects RX3 yX3_tryCommon yX3_tryCommon, Cond.code yX3_tryCommon cX3_tryCommon 4 none, Cond.methodLink RX3 44 Lib.Math.max.name, Cond.static Lib.Math.max.name, Cond.initialized "java/lang/Math", Cond.code Lib.Math.max.name Lib.Math.max.code 2 (some .int), Cond.methodLink RX3 50 Lib.Math.min.name, Cond.static Lib.Math.min.name, Cond.code Lib.Math.min.name Lib.Math.min.code 2 (some .int), Cond.methodLink RX10 82 yX3_endTrial, Cond.instanceMethod yX3_endTrial, Cond.selects RX3 yX3_endTrial yX3_endTrial, Cond.code yX3_endTrial cX3_endTrial 4 (some .int), Cond.fieldLink RX3 24 "TributePitches$Lode" "law" "I", Cond.methodLink RX3 53 yX3_narrowTrial, Cond.instanceMethod yX3_narrowTrial, Cond.selects RX3 yX3_narrowTrial yX3_narrowTrial, Cond.code yX3_narrowTrial cX3_narrowTrial 3 none, Cond.methodLink RX3 57 yX3_tryNeighbour, Cond.instanceMethod yX3_tryNeighbour, Cond.selects RX3 yX3_tryNeighbour yX3_tryNeighbour]
def wsX10_find_r3 : List Cond := [Cond.code yX3_tryNeighbour cX3_tryNeighbour 4 none, Cond.methodLink RX3 61 yX3_tryCommon]
def wsX10_find : List Cond := .code yX10_find cX10_find 5 (some .int) :: ((wsX10_find_r1 ++ (wsX10_find_r2 ++ wsX10_find_r3)) ++ wsX100 ++ wsX30)
def wsX10_rise_r1 : List Cond := [Cond.fieldLink RX10 12 "TributePitches" "lode" "LTributePitches$Lode;", Cond.fieldLink RX10 79 "TributePitches$Lode" "law" "I", Cond.methodLink RX10 64 yX10_isWithin, Cond.static yX10_isWithin, Cond.initialized RX10, Cond.code yX10_isWithin cX10_isWithin 3 (some .boolean), Cond.methodLink RX10 68 yX3_beginTrial, Cond.instanceMethod yX3_beginTrial, Cond.selects RX3 yX3_beginTrial yX3_beginTrial, Cond.initialized RX3, Cond.code yX3_beginTrial cX3_beginTrial 1 none, Cond.fieldLink RX3 11 "TributePitches$Lode" "lows" "[I", Cond.fieldLink RX3 18 "TributePitches$Lode" "triedLows" "[I", Cond.methodLink RX3 38 arraycopyName, Cond.native arraycopyName, Cond.static arraycopyName, Cond.initialized "java/lang/System", Cond.fieldLink RX3 15 "TributePitches$Lode" "highs" "[I", Cond.fieldLink RX3 21 "TributePitches$Lode" "triedHighs" "[I", Cond.methodLink RX10 82 yX3_endTrial, Cond.instanceMethod yX3_endTrial, Cond.selects RX3 yX3_endTrial yX3_endTrial, Cond.code yX3_endTrial cX3_endTrial 4 (some .int), Cond.fieldLink RX3 24 "TributePitches$Lode" "law" "I"]
def wsX10_rise_r2 : List Cond := [Cond.methodLink RX3 53 yX3_narrowTrial, Cond.instanceMethod yX3_narrowTrial, Cond.selects RX3 yX3_narrowTrial yX3_narrowTrial, Cond.code yX3_narrowTrial cX3_narrowTrial 3 none, Cond.methodLink RX3 57 yX3_tryNeighbour, Cond.instanceMethod yX3_tryNeighbour, Cond.selects RX3 yX3_tryNeighbour yX3_tryNeighbour, Cond.code yX3_tryNeighbour cX3_tryNeighbour 4 none, Cond.methodLink RX3 61 yX3_tryCommon, Cond.instanceMethod yX3_tryCommon, Cond.selects RX3 yX3_tryCommon yX3_tryCommon, Cond.code yX3_tryCommon cX3_tryCommon 4 none, Cond.methodLink RX3 44 Lib.Math.max.name, Cond.static Lib.Math.max.name, Cond.initialized "java/lang/Math", Cond.code Lib.Math.max.name Lib.Math.max.code 2 (some .int), Cond.methodLink RX3 50 Lib.Math.min.name, Cond.static Lib.Math.min.name, Cond.code Lib.Math.min.name Lib.Math.min.code 2 (some .int)]
def wsX10_rise : List Cond := .code yX10_rise cX10_rise 2 (some .int) :: ((wsX10_rise_r1 ++ wsX10_rise_r2) ++ wsX100 ++ wsX30)
def wsX10_good : List Cond := .code yX10_good cX10_good 5 (some .int) :: ([.fieldLink RX10 12 "TributePitches" "lode" "LTributePitches$Lode;", .fieldLink RX10 86 "TributePitches$Lode" "lows" "[I", .fieldLink RX10 90 "TributePitches$Lode" "highs" "[I", .methodLink RX10 60 yX3_hasSquare, .static yX3_hasSquare, .initialized RX3, .code yX3_hasSquare cX3_hasSquare 2 (some .boolean), .static yX10_isWithin, .initialized RX10, .code yX10_isWithin cX10_isWithin 3 (some .boolean), .methodLink RX10 64 yX10_isWithin, .methodLink RX10 71 yX3_numberOf, .static yX3_numberOf, .code yX3_numberOf cX3_numberOf 2 (some .int)] ++ wsX100 ++ wsX30)
def wsX10_sheetAt : List Cond := .code yX10_sheetAt cX10_sheetAt 2 (some (.object "TributePitches$Sheet")) :: ([.fieldLink RX10 45 "TributePitches" "sheets" "[LTributePitches$Sheet;", .methodLink RX10 64 yX10_isWithin, .static yX10_isWithin, .initialized RX10, .code yX10_isWithin cX10_isWithin 3 (some .boolean)] ++ wsX100)
def wsX10_chartFault : List Cond := .code yX10_chartFault cX10_chartFault 6 (some .int) :: ([.methodLink RX10 114 yX7_faultAs, .instanceMethod yX7_faultAs, .selects RX7 yX7_faultAs yX7_faultAs, .initialized RX7, .code yX7_faultAs cX7_faultAs 2 (some .int), .fieldLink RX7 15 "TributePitches$Sheet" "lane" "I", .methodLink RX7 32 yX7_hasNothing, .instanceMethod yX7_hasNothing, .selects RX7 yX7_hasNothing yX7_hasNothing, .code yX7_hasNothing cX7_hasNothing 1 (some .boolean), .methodLink RX10 117 yX7_holds, .instanceMethod yX7_holds, .selects RX7 yX7_holds yX7_holds, .code yX7_holds cX7_holds 3 (some .boolean), .fieldLink RX7 29 "TributePitches$Sheet" "length" "I"] ++ wsX70)
def wsX10_faulted : List Cond := .code yX10_faulted cX10_faulted 2 (some .int) :: ([.fieldLink RX10 56 "TributePitches" "latestFault" "I"] ++ wsX100)
def wsX10_chart_r1 : List Cond := [Cond.fieldLink RX10 56 "TributePitches" "latestFault" "I", Cond.fieldLink RX10 12 "TributePitches" "lode" "LTributePitches$Lode;", Cond.fieldLink RX10 111 "TributePitches$Sheet" "cells" "[I", Cond.fieldLink RX10 79 "TributePitches$Lode" "law" "I", Cond.methodLink RX10 93 yX10_sheetAt, Cond.instanceMethod yX10_sheetAt, Cond.selects RX10 yX10_sheetAt yX10_sheetAt, Cond.initialized RX10, Cond.code yX10_sheetAt cX10_sheetAt 2 (some (.object "TributePitches$Sheet")), Cond.fieldLink RX10 45 "TributePitches" "sheets" "[LTributePitches$Sheet;", Cond.methodLink RX10 64 yX10_isWithin, Cond.static yX10_isWithin, Cond.code yX10_isWithin cX10_isWithin 3 (some .boolean), Cond.methodLink RX10 97 yX7_isLane, Cond.static yX7_isLane, Cond.initialized RX7, Cond.code yX7_isLane cX7_isLane 1 (some .boolean), Cond.methodLink RX10 101 yX10_chartFault, Cond.static yX10_chartFault, Cond.code yX10_chartFault cX10_chartFault 6 (some .int), Cond.methodLink RX10 114 yX7_faultAs, Cond.instanceMethod yX7_faultAs, Cond.selects RX7 yX7_faultAs yX7_faultAs, Cond.code yX7_faultAs cX7_faultAs 2 (some .int)]
def wsX10_chart_r2 : List Cond := [Cond.fieldLink RX7 15 "TributePitches$Sheet" "lane" "I", Cond.methodLink RX7 32 yX7_hasNothing, Cond.instanceMethod yX7_hasNothing, Cond.selects RX7 yX7_hasNothing yX7_hasNothing, Cond.code yX7_hasNothing cX7_hasNothing 1 (some .boolean), Cond.methodLink RX10 117 yX7_holds, Cond.instanceMethod yX7_holds, Cond.selects RX7 yX7_holds yX7_holds, Cond.code yX7_holds cX7_holds 3 (some .boolean), Cond.fieldLink RX7 29 "TributePitches$Sheet" "length" "I", Cond.methodLink RX10 105 yX10_faulted, Cond.instanceMethod yX10_faulted, Cond.selects RX10 yX10_faulted yX10_faulted, Cond.code yX10_faulted cX10_faulted 2 (some .int), Cond.methodLink RX10 108 yX7_hasAbove, Cond.instanceMethod yX7_hasAbove, Cond.selects RX7 yX7_hasAbove yX7_hasAbove, Cond.code yX7_hasAbove cX7_hasAbove 5 (some .boolean), Cond.fieldLink RX7 11 "TributePitches$Sheet" "cells" "[I", Cond.methodLink RX10 68 yX3_beginTrial, Cond.instanceMethod yX3_beginTrial, Cond.selects RX3 yX3_beginTrial yX3_beginTrial, Cond.initialized RX3, Cond.code yX3_beginTrial cX3_beginTrial 1 none]
def wsX10_chart_r3 : List Cond := [Cond.fieldLink RX3 11 "TributePitches$Lode" "lows" "[I", Cond.fieldLink RX3 18 "TributePitches$Lode" "triedLows" "[I", Cond.methodLink RX3 38 arraycopyName, Cond.native arraycopyName, Cond.static arraycopyName, Cond.initialized "java/lang/System", Cond.fieldLink RX3 15 "TributePitches$Lode" "highs" "[I", Cond.fieldLink RX3 21 "TributePitches$Lode" "triedHighs" "[I", Cond.methodLink RX10 75 yX3_tryCommon, Cond.instanceMethod yX3_tryCommon, Cond.selects RX3 yX3_tryCommon yX3_tryCommon, Cond.code yX3_tryCommon cX3_tryCommon 4 none, Cond.methodLink RX3 44 Lib.Math.max.name, Cond.static Lib.Math.max.name, Cond.initialized "java/lang/Math", Cond.code Lib.Math.max.name Lib.Math.max.code 2 (some .int), Cond.methodLink RX3 50 Lib.Math.min.name, Cond.static Lib.Math.min.name, Cond.code Lib.Math.min.name Lib.Math.min.code 2 (some .int), Cond.methodLink RX10 82 yX3_endTrial, Cond.instanceMethod yX3_endTrial, Cond.selects RX3 yX3_endTrial yX3_endTrial, Cond.code yX3_endTrial cX3_endTrial 4 (some .int), Cond.fieldLink RX3 24 "TributePitches$Lode" "law" "I"]
def wsX10_chart_r4 : List Cond := [Cond.methodLink RX3 53 yX3_narrowTrial, Cond.instanceMethod yX3_narrowTrial, Cond.selects RX3 yX3_narrowTrial yX3_narrowTrial, Cond.code yX3_narrowTrial cX3_narrowTrial 3 none, Cond.methodLink RX3 57 yX3_tryNeighbour, Cond.instanceMethod yX3_tryNeighbour, Cond.selects RX3 yX3_tryNeighbour yX3_tryNeighbour, Cond.code yX3_tryNeighbour cX3_tryNeighbour 4 none, Cond.methodLink RX3 61 yX3_tryCommon]
def wsX10_chart : List Cond := .code yX10_chart cX10_chart 10 (some .int) :: ((wsX10_chart_r1 ++ (wsX10_chart_r2 ++ (wsX10_chart_r3 ++ wsX10_chart_r4))) ++ wsX100 ++ wsX70 ++ wsX30)
def wsX10_isAnyPitched : List Cond := .code yX10_isAnyPitched cX10_isAnyPitched 6 (some .boolean) :: ([.fieldLink RX10 124 "TributePitches" "pitchCount" "I", .fieldLink RX10 20 "TributePitches" "pitches" "[LTributePitches$Pitch;", .methodLink RX10 130 yX6_meets, .instanceMethod yX6_meets, .selects RX6 yX6_meets yX6_meets, .initialized RX6, .code yX6_meets cX6_meets 5 (some .boolean), .fieldLink RX6 13 "TributePitches$Pitch" "x" "I", .fieldLink RX6 19 "TributePitches$Pitch" "x2" "I", .fieldLink RX6 16 "TributePitches$Pitch" "y" "I", .fieldLink RX6 22 "TributePitches$Pitch" "y2" "I"] ++ wsX100 ++ wsX60)
def wsX10_pitch_r1 : List Cond := [Cond.fieldLink RX10 124 "TributePitches" "pitchCount" "I", Cond.fieldLink RX10 20 "TributePitches" "pitches" "[LTributePitches$Pitch;", Cond.classLink RX10 18 RX6, Cond.instantiable RX6 8, Cond.initialized RX6, Cond.methodLink RX10 60 yX3_hasSquare, Cond.static yX3_hasSquare, Cond.initialized RX3, Cond.code yX3_hasSquare cX3_hasSquare 2 (some .boolean), Cond.static yX10_isWithin, Cond.initialized RX10, Cond.code yX10_isWithin cX10_isWithin 3 (some .boolean), Cond.methodLink RX10 64 yX10_isWithin, Cond.methodLink RX10 120 yX10_isAnyPitched, Cond.instanceMethod yX10_isAnyPitched, Cond.selects RX10 yX10_isAnyPitched yX10_isAnyPitched, Cond.code yX10_isAnyPitched cX10_isAnyPitched 6 (some .boolean), Cond.methodLink RX10 130 yX6_meets, Cond.instanceMethod yX6_meets, Cond.selects RX6 yX6_meets yX6_meets, Cond.code yX6_meets cX6_meets 5 (some .boolean), Cond.fieldLink RX6 13 "TributePitches$Pitch" "x" "I", Cond.fieldLink RX6 19 "TributePitches$Pitch" "x2" "I", Cond.fieldLink RX6 16 "TributePitches$Pitch" "y" "I"]
def wsX10_pitch_r2 : List Cond := [Cond.fieldLink RX6 22 "TributePitches$Pitch" "y2" "I", Cond.methodLink RX10 127 yX6_init, Cond.instanceMethod yX6_init, Cond.code yX6_init cX6_init 7 none, Cond.methodLink RX6 1 objectInit, Cond.instanceMethod objectInit, Cond.code objectInit ⟨#[0xb1]⟩ 1 none, Cond.fieldLink RX6 7 "TributePitches$Pitch" "number" "I", Cond.fieldLink RX6 25 "TributePitches$Pitch" "tons" "I"]
def wsX10_pitch : List Cond := .code yX10_pitch cX10_pitch 6 (some .int) :: ((wsX10_pitch_r1 ++ wsX10_pitch_r2) ++ wsX100 ++ wsX60)
def wsX10_pitchAt : List Cond := .code yX10_pitchAt cX10_pitchAt 2 (some (.object "TributePitches$Pitch")) :: ([.fieldLink RX10 124 "TributePitches" "pitchCount" "I", .fieldLink RX10 20 "TributePitches" "pitches" "[LTributePitches$Pitch;", .methodLink RX10 64 yX10_isWithin, .static yX10_isWithin, .initialized RX10, .code yX10_isWithin cX10_isWithin 3 (some .boolean)] ++ wsX100)
def wsX10_foretold_r1 : List Cond := [Cond.constantLong RX10 137 (-9223372036854775808), Cond.fieldLink RX10 12 "TributePitches" "lode" "LTributePitches$Lode;", Cond.fieldLink RX10 86 "TributePitches$Lode" "lows" "[I", Cond.fieldLink RX10 90 "TributePitches$Lode" "highs" "[I", Cond.methodLink RX10 133 yX10_pitchAt, Cond.instanceMethod yX10_pitchAt, Cond.selects RX10 yX10_pitchAt yX10_pitchAt, Cond.initialized RX10, Cond.code yX10_pitchAt cX10_pitchAt 2 (some (.object "TributePitches$Pitch")), Cond.fieldLink RX10 124 "TributePitches" "pitchCount" "I", Cond.fieldLink RX10 20 "TributePitches" "pitches" "[LTributePitches$Pitch;", Cond.methodLink RX10 64 yX10_isWithin, Cond.static yX10_isWithin, Cond.code yX10_isWithin cX10_isWithin 3 (some .boolean), Cond.methodLink RX10 139 yX6_foretoldBy, Cond.instanceMethod yX6_foretoldBy, Cond.selects RX6 yX6_foretoldBy yX6_foretoldBy, Cond.initialized RX6, Cond.code yX6_foretoldBy cX6_foretoldBy 6 (some .long), Cond.fieldLink RX6 16 "TributePitches$Pitch" "y" "I", Cond.fieldLink RX6 22 "TributePitches$Pitch" "y2" "I", Cond.fieldLink RX6 13 "TributePitches$Pitch" "x" "I", Cond.fieldLink RX6 19 "TributePitches$Pitch" "x2" "I", Cond.fieldLink RX6 25 "TributePitches$Pitch" "tons" "I"]
def wsX10_foretold_r2 : List Cond := [Cond.methodLink RX6 28 yX3_numberOf, Cond.static yX3_numberOf, Cond.initialized RX3, Cond.code yX3_numberOf cX3_numberOf 2 (some .int)]
def wsX10_foretold : List Cond := .code yX10_foretold cX10_foretold 4 (some .long) :: ((wsX10_foretold_r1 ++ wsX10_foretold_r2) ++ wsX100 ++ wsX30 ++ wsX60)
def wsX10_newGang : List Cond := .code yX10_newGang cX10_newGang 2 (some (.object "TributePitches$Gang")) :: ([.classLink RX10 150 RX4, .instantiable RX4 4, .initialized RX4, .classLink RX10 155 RX1, .instantiable RX1 4, .initialized RX1, .classLink RX10 24 RX2, .instantiable RX2 4, .initialized RX2, .methodLink RX10 152 yX4_init, .instanceMethod yX4_init, .code yX4_init cX4_init 2 none, .methodLink RX4 1 yX1_init, .instanceMethod yX1_init, .code yX1_init cX1_init 2 none, .methodLink RX1 1 yX2_init, .instanceMethod yX2_init, .code yX2_init cX2_init 2 none, .methodLink RX2 3 objectInit, .instanceMethod objectInit, .code objectInit ⟨#[0xb1]⟩ 1 none, .fieldLink RX2 9 "TributePitches$Gang" "number" "I", .methodLink RX10 157 yX1_init, .methodLink RX10 158 yX2_init] ++ wsX40 ++ wsX10 ++ wsX20)
def wsX10_gang_r1 : List Cond := [Cond.fieldLink RX10 143 "TributePitches" "gangCount" "I", Cond.fieldLink RX10 26 "TributePitches" "gangs" "[LTributePitches$Gang;", Cond.methodLink RX10 64 yX10_isWithin, Cond.static yX10_isWithin, Cond.initialized RX10, Cond.code yX10_isWithin cX10_isWithin 3 (some .boolean), Cond.methodLink RX10 146 yX10_newGang, Cond.static yX10_newGang, Cond.code yX10_newGang cX10_newGang 2 (some (.object "TributePitches$Gang")), Cond.classLink RX10 150 RX4, Cond.instantiable RX4 4, Cond.initialized RX4, Cond.classLink RX10 155 RX1, Cond.instantiable RX1 4, Cond.initialized RX1, Cond.classLink RX10 24 RX2, Cond.instantiable RX2 4, Cond.initialized RX2, Cond.methodLink RX10 152 yX4_init, Cond.instanceMethod yX4_init, Cond.code yX4_init cX4_init 2 none, Cond.methodLink RX4 1 yX1_init, Cond.instanceMethod yX1_init, Cond.code yX1_init cX1_init 2 none]
def wsX10_gang_r2 : List Cond := [Cond.methodLink RX1 1 yX2_init, Cond.instanceMethod yX2_init, Cond.code yX2_init cX2_init 2 none, Cond.methodLink RX2 3 objectInit, Cond.instanceMethod objectInit, Cond.code objectInit ⟨#[0xb1]⟩ 1 none, Cond.fieldLink RX2 9 "TributePitches$Gang" "number" "I", Cond.methodLink RX10 157 yX1_init, Cond.methodLink RX10 158 yX2_init]
def wsX10_gang : List Cond := .code yX10_gang cX10_gang 2 (some .int) :: ((wsX10_gang_r1 ++ wsX10_gang_r2) ++ wsX100 ++ wsX40 ++ wsX10 ++ wsX20)
def wsX10_auction : List Cond := .code yX10_auction cX10_auction 4 (some .int) :: ([.fieldLink RX10 159 "TributePitches$Pitch" "take" "LTributePitches$Take;", .fieldLink RX10 163 "TributePitches" "current" "LTributePitches$Auction;", .classLink RX10 167 RX0, .instantiable RX0 4, .initialized RX0, .methodLink RX10 133 yX10_pitchAt, .instanceMethod yX10_pitchAt, .selects RX10 yX10_pitchAt yX10_pitchAt, .initialized RX10, .code yX10_pitchAt cX10_pitchAt 2 (some (.object "TributePitches$Pitch")), .fieldLink RX10 124 "TributePitches" "pitchCount" "I", .fieldLink RX10 20 "TributePitches" "pitches" "[LTributePitches$Pitch;", .methodLink RX10 64 yX10_isWithin, .static yX10_isWithin, .code yX10_isWithin cX10_isWithin 3 (some .boolean), .methodLink RX10 169 yX0_init, .instanceMethod yX0_init, .code yX0_init cX0_init 3 none, .methodLink RX0 1 objectInit, .instanceMethod objectInit, .code objectInit ⟨#[0xb1]⟩ 1 none, .fieldLink RX0 7 "TributePitches$Auction" "pitch" "LTributePitches$Pitch;", .fieldLink RX0 13 "TributePitches$Auction" "share" "I"] ++ wsX60 ++ wsX100 ++ wsX00)
def wsX10_gangAt : List Cond := .code yX10_gangAt cX10_gangAt 2 (some (.object "TributePitches$Gang")) :: ([.fieldLink RX10 143 "TributePitches" "gangCount" "I", .fieldLink RX10 26 "TributePitches" "gangs" "[LTributePitches$Gang;", .methodLink RX10 64 yX10_isWithin, .static yX10_isWithin, .initialized RX10, .code yX10_isWithin cX10_isWithin 3 (some .boolean)] ++ wsX100)
def wsX10_bid : List Cond := .code yX10_bid cX10_bid 4 (some .int) :: ([.fieldLink RX10 163 "TributePitches" "current" "LTributePitches$Auction;", .fieldLink RX10 180 "TributePitches$Auction" "bidder" "LTributePitches$Gang;", .fieldLink RX10 184 "TributePitches$Gang" "letPitches" "I", .fieldLink RX10 187 "TributePitches$Auction" "bids" "I", .fieldLink RX10 190 "TributePitches$Auction" "share" "I", .methodLink RX10 172 yX10_gangAt, .instanceMethod yX10_gangAt, .selects RX10 yX10_gangAt yX10_gangAt, .initialized RX10, .code yX10_gangAt cX10_gangAt 2 (some (.object "TributePitches$Gang")), .fieldLink RX10 143 "TributePitches" "gangCount" "I", .fieldLink RX10 26 "TributePitches" "gangs" "[LTributePitches$Gang;", .methodLink RX10 64 yX10_isWithin, .static yX10_isWithin, .code yX10_isWithin cX10_isWithin 3 (some .boolean), .methodLink RX10 176 yX0_mostShare, .instanceMethod yX0_mostShare, .selects RX0 yX0_mostShare yX0_mostShare, .initialized RX0, .code yX0_mostShare cX0_mostShare 1 (some .int), .fieldLink RX0 17 "TributePitches$Auction" "bids" "I", .fieldLink RX0 13 "TributePitches$Auction" "share" "I"] ++ wsX100 ++ wsX00 ++ wsX10 ++ wsX20 ++ wsX40)
def wsX10_strike_r1 : List Cond := [Cond.fieldLink RX10 163 "TributePitches" "current" "LTributePitches$Auction;", Cond.fieldLink RX10 193 "TributePitches$Auction" "pitch" "LTributePitches$Pitch;", Cond.fieldLink RX10 180 "TributePitches$Auction" "bidder" "LTributePitches$Gang;", Cond.fieldLink RX10 197 "TributePitches" "takeCount" "I", Cond.classLink RX10 30 RX8, Cond.instantiable RX8 12, Cond.initialized RX8, Cond.fieldLink RX10 190 "TributePitches$Auction" "share" "I", Cond.fieldLink RX10 12 "TributePitches" "lode" "LTributePitches$Lode;", Cond.fieldLink RX10 86 "TributePitches$Lode" "lows" "[I", Cond.fieldLink RX10 203 "TributePitches$Take" "least" "J", Cond.fieldLink RX10 90 "TributePitches$Lode" "highs" "[I", Cond.fieldLink RX10 207 "TributePitches$Take" "greatest" "J", Cond.fieldLink RX10 32 "TributePitches" "takes" "[LTributePitches$Take;", Cond.methodLink RX10 200 yX8_init, Cond.instanceMethod yX8_init, Cond.code yX8_init cX8_init 5 none, Cond.methodLink RX8 3 objectInit, Cond.instanceMethod objectInit, Cond.code objectInit ⟨#[0xb1]⟩ 1 none, Cond.fieldLink RX8 9 "TributePitches$Take" "number" "I", Cond.fieldLink RX8 15 "TributePitches$Take" "gang" "LTributePitches$Gang;", Cond.fieldLink RX8 19 "TributePitches$Take" "pitch" "LTributePitches$Pitch;", Cond.fieldLink RX8 23 "TributePitches$Take" "share" "I"]
def wsX10_strike_r2 : List Cond := [Cond.methodLink RX10 139 yX6_foretoldBy, Cond.instanceMethod yX6_foretoldBy, Cond.selects RX6 yX6_foretoldBy yX6_foretoldBy, Cond.initialized RX6, Cond.code yX6_foretoldBy cX6_foretoldBy 6 (some .long), Cond.fieldLink RX6 16 "TributePitches$Pitch" "y" "I", Cond.fieldLink RX6 22 "TributePitches$Pitch" "y2" "I", Cond.fieldLink RX6 13 "TributePitches$Pitch" "x" "I", Cond.fieldLink RX6 19 "TributePitches$Pitch" "x2" "I", Cond.fieldLink RX6 25 "TributePitches$Pitch" "tons" "I", Cond.methodLink RX6 28 yX3_numberOf, Cond.static yX3_numberOf, Cond.initialized RX3, Cond.code yX3_numberOf cX3_numberOf 2 (some .int), Cond.methodLink RX10 210 yX8_begin, Cond.instanceMethod yX8_begin, Cond.selects RX8 yX8_begin yX8_begin, Cond.code yX8_begin cX8_begin 1 none, Cond.fieldLink RX8 26 "TributePitches$Pitch" "take" "LTributePitches$Take;", Cond.fieldLink RX8 32 "TributePitches$Pitch" "takesHad" "I", Cond.fieldLink RX8 35 "TributePitches$Gang" "takesHad" "I", Cond.fieldLink RX8 38 "TributePitches$Gang" "letPitches" "I"]
def wsX10_strike : List Cond := .code yX10_strike cX10_strike 4 (some .int) :: ((wsX10_strike_r1 ++ wsX10_strike_r2) ++ wsX100 ++ wsX00 ++ wsX80 ++ wsX30 ++ wsX60 ++ wsX10 ++ wsX20 ++ wsX40)
def wsX10_about : List Cond := .code yX10_about cX10_about 4 (some .int) :: ([.fieldLink RX10 213 "TributePitches$Pitch" "x" "I", .fieldLink RX10 216 "TributePitches$Pitch" "y" "I", .fieldLink RX10 219 "TributePitches$Pitch" "x2" "I", .fieldLink RX10 222 "TributePitches$Pitch" "y2" "I", .fieldLink RX10 225 "TributePitches$Pitch" "tons" "I", .fieldLink RX10 159 "TributePitches$Pitch" "take" "LTributePitches$Take;", .fieldLink RX10 228 "TributePitches$Take" "number" "I", .fieldLink RX10 231 "TributePitches$Pitch" "takesHad" "I", .methodLink RX10 133 yX10_pitchAt, .instanceMethod yX10_pitchAt, .selects RX10 yX10_pitchAt yX10_pitchAt, .initialized RX10, .code yX10_pitchAt cX10_pitchAt 2 (some (.object "TributePitches$Pitch")), .fieldLink RX10 124 "TributePitches" "pitchCount" "I", .fieldLink RX10 20 "TributePitches" "pitches" "[LTributePitches$Pitch;", .methodLink RX10 64 yX10_isWithin, .static yX10_isWithin, .code yX10_isWithin cX10_isWithin 3 (some .boolean)] ++ wsX60 ++ wsX80 ++ wsX100)
def wsX10_takeAt : List Cond := .code yX10_takeAt cX10_takeAt 2 (some (.object "TributePitches$Take")) :: ([.fieldLink RX10 197 "TributePitches" "takeCount" "I", .fieldLink RX10 32 "TributePitches" "takes" "[LTributePitches$Take;", .methodLink RX10 64 yX10_isWithin, .static yX10_isWithin, .initialized RX10, .code yX10_isWithin cX10_isWithin 3 (some .boolean)] ++ wsX100)
def wsX10_parcel_r1 : List Cond := [Cond.fieldLink RX10 238 "TributePitches$Take" "settled" "Z", Cond.fieldLink RX10 242 "TributePitches" "parcelCount" "I", Cond.fieldLink RX10 38 "TributePitches" "parcels" "[LTributePitches$Parcel;", Cond.classLink RX10 36 RX5, Cond.instantiable RX5 2, Cond.initialized RX5, Cond.fieldLink RX10 245 "TributePitches$Take" "pitch" "LTributePitches$Pitch;", Cond.fieldLink RX10 247 "TributePitches$Take" "parcels" "I", Cond.fieldLink RX10 249 "TributePitches$Take" "worths" "J", Cond.methodLink RX10 234 yX10_takeAt, Cond.instanceMethod yX10_takeAt, Cond.selects RX10 yX10_takeAt yX10_takeAt, Cond.initialized RX10, Cond.code yX10_takeAt cX10_takeAt 2 (some (.object "TributePitches$Take")), Cond.fieldLink RX10 197 "TributePitches" "takeCount" "I", Cond.fieldLink RX10 32 "TributePitches" "takes" "[LTributePitches$Take;", Cond.methodLink RX10 64 yX10_isWithin, Cond.static yX10_isWithin, Cond.code yX10_isWithin cX10_isWithin 3 (some .boolean), Cond.methodLink RX10 246 yX5_init, Cond.instanceMethod yX5_init, Cond.code yX5_init cX5_init 3 none, Cond.methodLink RX5 1 objectInit, Cond.instanceMethod objectInit]
def wsX10_parcel_r2 : List Cond := [Cond.code objectInit ⟨#[0xb1]⟩ 1 none, Cond.fieldLink RX5 7 "TributePitches$Parcel" "pitch" "LTributePitches$Pitch;", Cond.fieldLink RX5 13 "TributePitches$Parcel" "goodness" "I"]
def wsX10_parcel : List Cond := .code yX10_parcel cX10_parcel 5 (some .int) :: ((wsX10_parcel_r1 ++ wsX10_parcel_r2) ++ wsX80 ++ wsX100 ++ wsX50)
def wsX10_spend : List Cond := .code yX10_spend cX10_spend 5 (some .long) :: ([.constant RX10 252 (100000), .constantLong RX10 137 (-9223372036854775808), .fieldLink RX10 238 "TributePitches$Take" "settled" "Z", .fieldLink RX10 253 "TributePitches$Take" "costs" "J", .fieldLink RX10 256 "TributePitches$Take" "ahead" "J", .methodLink RX10 234 yX10_takeAt, .instanceMethod yX10_takeAt, .selects RX10 yX10_takeAt yX10_takeAt, .initialized RX10, .code yX10_takeAt cX10_takeAt 2 (some (.object "TributePitches$Take")), .fieldLink RX10 197 "TributePitches" "takeCount" "I", .fieldLink RX10 32 "TributePitches" "takes" "[LTributePitches$Take;", .methodLink RX10 64 yX10_isWithin, .static yX10_isWithin, .code yX10_isWithin cX10_isWithin 3 (some .boolean)] ++ wsX80 ++ wsX100)
def wsX10_settle_r1 : List Cond := [Cond.fieldLink RX10 238 "TributePitches$Take" "settled" "Z", Cond.constantLong RX10 137 (-9223372036854775808), Cond.fieldLink RX10 262 "TributePitches$Take" "pay" "J", Cond.methodLink RX10 234 yX10_takeAt, Cond.instanceMethod yX10_takeAt, Cond.selects RX10 yX10_takeAt yX10_takeAt, Cond.initialized RX10, Cond.code yX10_takeAt cX10_takeAt 2 (some (.object "TributePitches$Take")), Cond.fieldLink RX10 197 "TributePitches" "takeCount" "I", Cond.fieldLink RX10 32 "TributePitches" "takes" "[LTributePitches$Take;", Cond.methodLink RX10 64 yX10_isWithin, Cond.static yX10_isWithin, Cond.code yX10_isWithin cX10_isWithin 3 (some .boolean), Cond.methodLink RX10 259 yX8_end, Cond.instanceMethod yX8_end, Cond.selects RX8 yX8_end yX8_end, Cond.initialized RX8, Cond.code yX8_end cX8_end 5 none, Cond.fieldLink RX8 15 "TributePitches$Take" "gang" "LTributePitches$Gang;", Cond.fieldLink RX8 23 "TributePitches$Take" "share" "I", Cond.fieldLink RX8 45 "TributePitches$Take" "worths" "J", Cond.constantLong RX8 49 (240), Cond.fieldLink RX8 51 "TributePitches$Take" "costs" "J", Cond.fieldLink RX8 58 "TributePitches$Take" "ahead" "J"]
def wsX10_settle_r2 : List Cond := [Cond.methodLink RX8 61 Lib.MathLoose.max_long.x, Cond.static Lib.MathLoose.max_long.x, Cond.initialized "java/lang/Math", Cond.code Lib.MathLoose.max_long.x Lib.MathLoose.max_long.code 4 (some .long), Cond.fieldLink RX8 67 "TributePitches$Take" "pay" "J", Cond.fieldLink RX8 70 "TributePitches$Gang" "owed" "J", Cond.fieldLink RX8 73 "TributePitches$Take" "settled" "Z", Cond.fieldLink RX8 38 "TributePitches$Gang" "letPitches" "I", Cond.fieldLink RX8 19 "TributePitches$Take" "pitch" "LTributePitches$Pitch;", Cond.fieldLink RX8 26 "TributePitches$Pitch" "take" "LTributePitches$Take;", Cond.methodLink RX8 41 ⟨"TributePitches$Gang", "debtTaken", "()J"⟩, Cond.sameMethod "TributePitches$Gang" "TributePitches$Gang" "debtTaken" "()J", Cond.selects RX1 ⟨"TributePitches$Gang", "debtTaken", "()J"⟩ yX2_debtTaken, Cond.instanceMethod yX2_debtTaken, Cond.initialized RX2, Cond.code yX2_debtTaken cX2_debtTaken 1 (some .long), Cond.fieldLink RX2 15 "TributePitches$Gang" "owed" "J", Cond.methodLink RX8 41 yX2_debtTaken, Cond.selects RX2 yX2_debtTaken yX2_debtTaken, Cond.instanceMethod ⟨"TributePitches$Gang", "debtTaken", "()J"⟩, Cond.selects RX4 ⟨"TributePitches$Gang", "debtTaken", "()J"⟩ yX4_debtTaken, Cond.instanceMethod yX4_debtTaken, Cond.initialized RX4, Cond.code yX4_debtTaken cX4_debtTaken 1 (some .long)]
def wsX10_settle_r3 : List Cond := [Cond.fieldLink RX4 7 "TributePitches$OldHands" "owed" "J", Cond.sameField "TributePitches$OldHands" "TributePitches$Gang" "owed" "J", Cond.constantLong RX4 13 (2), Cond.methodLink RX8 54 ⟨"TributePitches$Gang", "costsBorne", "(J)J"⟩, Cond.sameMethod "TributePitches$Gang" "TributePitches$Gang" "costsBorne" "(J)J", Cond.instanceMethod ⟨"TributePitches$Gang", "costsBorne", "(J)J"⟩, Cond.selects RX1 ⟨"TributePitches$Gang", "costsBorne", "(J)J"⟩ yX1_costsBorne, Cond.instanceMethod yX1_costsBorne, Cond.initialized RX1, Cond.code yX1_costsBorne cX1_costsBorne 3 (some .long), Cond.constantLong RX1 7 (2), Cond.code yX2_costsBorne cX2_costsBorne 3 (some .long), Cond.methodLink RX8 54 yX2_costsBorne, Cond.instanceMethod yX2_costsBorne, Cond.selects RX2 yX2_costsBorne yX2_costsBorne, Cond.selects RX4 ⟨"TributePitches$Gang", "costsBorne", "(J)J"⟩ yX1_costsBorne]
def wsX10_settle : List Cond := .code yX10_settle cX10_settle 3 (some .long) :: ((wsX10_settle_r1 ++ (wsX10_settle_r2 ++ wsX10_settle_r3)) ++ wsX80 ++ wsX100 ++ wsX10 ++ wsX20 ++ wsX40 ++ wsX60)
def wsX10_taken : List Cond := .code yX10_taken cX10_taken 4 (some .int) :: ([.fieldLink RX10 265 "TributePitches$Take" "gang" "LTributePitches$Gang;", .fieldLink RX10 268 "TributePitches$Gang" "number" "I", .fieldLink RX10 245 "TributePitches$Take" "pitch" "LTributePitches$Pitch;", .fieldLink RX10 269 "TributePitches$Pitch" "number" "I", .fieldLink RX10 270 "TributePitches$Take" "share" "I", .fieldLink RX10 238 "TributePitches$Take" "settled" "Z", .fieldLink RX10 247 "TributePitches$Take" "parcels" "I", .methodLink RX10 234 yX10_takeAt, .instanceMethod yX10_takeAt, .selects RX10 yX10_takeAt yX10_takeAt, .initialized RX10, .code yX10_takeAt cX10_takeAt 2 (some (.object "TributePitches$Take")), .fieldLink RX10 197 "TributePitches" "takeCount" "I", .fieldLink RX10 32 "TributePitches" "takes" "[LTributePitches$Take;", .methodLink RX10 64 yX10_isWithin, .static yX10_isWithin, .code yX10_isWithin cX10_isWithin 3 (some .boolean)] ++ wsX80 ++ wsX10 ++ wsX20 ++ wsX40 ++ wsX60 ++ wsX100)
def wsX10_money : List Cond := .code yX10_money cX10_money 4 (some .long) :: ([.constantLong RX10 137 (-9223372036854775808), .fieldLink RX10 249 "TributePitches$Take" "worths" "J", .fieldLink RX10 253 "TributePitches$Take" "costs" "J", .fieldLink RX10 256 "TributePitches$Take" "ahead" "J", .fieldLink RX10 262 "TributePitches$Take" "pay" "J", .fieldLink RX10 203 "TributePitches$Take" "least" "J", .fieldLink RX10 207 "TributePitches$Take" "greatest" "J", .methodLink RX10 234 yX10_takeAt, .instanceMethod yX10_takeAt, .selects RX10 yX10_takeAt yX10_takeAt, .initialized RX10, .code yX10_takeAt cX10_takeAt 2 (some (.object "TributePitches$Take")), .fieldLink RX10 197 "TributePitches" "takeCount" "I", .fieldLink RX10 32 "TributePitches" "takes" "[LTributePitches$Take;", .methodLink RX10 64 yX10_isWithin, .static yX10_isWithin, .code yX10_isWithin cX10_isWithin 3 (some .boolean)] ++ wsX80 ++ wsX100)
def wsX10_debt : List Cond := .code yX10_debt cX10_debt 3 (some .long) :: ([.constantLong RX10 137 (-9223372036854775808), .fieldLink RX10 271 "TributePitches$Gang" "owed" "J", .methodLink RX10 172 yX10_gangAt, .instanceMethod yX10_gangAt, .selects RX10 yX10_gangAt yX10_gangAt, .initialized RX10, .code yX10_gangAt cX10_gangAt 2 (some (.object "TributePitches$Gang")), .fieldLink RX10 143 "TributePitches" "gangCount" "I", .fieldLink RX10 26 "TributePitches" "gangs" "[LTributePitches$Gang;", .methodLink RX10 64 yX10_isWithin, .static yX10_isWithin, .code yX10_isWithin cX10_isWithin 3 (some .boolean)] ++ wsX10 ++ wsX20 ++ wsX40 ++ wsX100)
def wsX10_suspects_r1 : List Cond := [Cond.fieldLink RX10 242 "TributePitches" "parcelCount" "I", Cond.fieldLink RX10 38 "TributePitches" "parcels" "[LTributePitches$Parcel;", Cond.fieldLink RX10 12 "TributePitches" "lode" "LTributePitches$Lode;", Cond.methodLink RX10 274 yX5_isSuspect, Cond.instanceMethod yX5_isSuspect, Cond.selects RX5 yX5_isSuspect yX5_isSuspect, Cond.initialized RX5, Cond.code yX5_isSuspect cX5_isSuspect 2 (some .boolean), Cond.fieldLink RX5 13 "TributePitches$Parcel" "goodness" "I", Cond.fieldLink RX5 7 "TributePitches$Parcel" "pitch" "LTributePitches$Pitch;", Cond.fieldLink RX5 17 "TributePitches$Lode" "highs" "[I", Cond.methodLink RX5 23 yX6_greatestOf, Cond.instanceMethod yX6_greatestOf, Cond.selects RX6 yX6_greatestOf yX6_greatestOf, Cond.initialized RX6, Cond.code yX6_greatestOf cX6_greatestOf 5 (some .int), Cond.fieldLink RX6 16 "TributePitches$Pitch" "y" "I", Cond.fieldLink RX6 22 "TributePitches$Pitch" "y2" "I", Cond.fieldLink RX6 13 "TributePitches$Pitch" "x" "I", Cond.fieldLink RX6 19 "TributePitches$Pitch" "x2" "I", Cond.methodLink RX6 34 Lib.Math.max.name, Cond.static Lib.Math.max.name, Cond.initialized "java/lang/Math", Cond.code Lib.Math.max.name Lib.Math.max.code 2 (some .int)]
def wsX10_suspects_r2 : List Cond := [Cond.methodLink RX6 28 yX3_numberOf, Cond.static yX3_numberOf, Cond.initialized RX3, Cond.code yX3_numberOf cX3_numberOf 2 (some .int)]
def wsX10_suspects : List Cond := .code yX10_suspects cX10_suspects 3 (some .int) :: ((wsX10_suspects_r1 ++ wsX10_suspects_r2) ++ wsX100 ++ wsX50 ++ wsX30 ++ wsX60)
def wsX10_suspect_r1 : List Cond := [Cond.fieldLink RX10 242 "TributePitches" "parcelCount" "I", Cond.fieldLink RX10 38 "TributePitches" "parcels" "[LTributePitches$Parcel;", Cond.fieldLink RX10 12 "TributePitches" "lode" "LTributePitches$Lode;", Cond.methodLink RX10 274 yX5_isSuspect, Cond.instanceMethod yX5_isSuspect, Cond.selects RX5 yX5_isSuspect yX5_isSuspect, Cond.initialized RX5, Cond.code yX5_isSuspect cX5_isSuspect 2 (some .boolean), Cond.fieldLink RX5 13 "TributePitches$Parcel" "goodness" "I", Cond.fieldLink RX5 7 "TributePitches$Parcel" "pitch" "LTributePitches$Pitch;", Cond.fieldLink RX5 17 "TributePitches$Lode" "highs" "[I", Cond.methodLink RX5 23 yX6_greatestOf, Cond.instanceMethod yX6_greatestOf, Cond.selects RX6 yX6_greatestOf yX6_greatestOf, Cond.initialized RX6, Cond.code yX6_greatestOf cX6_greatestOf 5 (some .int), Cond.fieldLink RX6 16 "TributePitches$Pitch" "y" "I", Cond.fieldLink RX6 22 "TributePitches$Pitch" "y2" "I", Cond.fieldLink RX6 13 "TributePitches$Pitch" "x" "I", Cond.fieldLink RX6 19 "TributePitches$Pitch" "x2" "I", Cond.methodLink RX6 34 Lib.Math.max.name, Cond.static Lib.Math.max.name, Cond.initialized "java/lang/Math", Cond.code Lib.Math.max.name Lib.Math.max.code 2 (some .int)]
def wsX10_suspect_r2 : List Cond := [Cond.methodLink RX6 28 yX3_numberOf, Cond.static yX3_numberOf, Cond.initialized RX3, Cond.code yX3_numberOf cX3_numberOf 2 (some .int)]
def wsX10_suspect : List Cond := .code yX10_suspect cX10_suspect 4 (some .int) :: ((wsX10_suspect_r1 ++ wsX10_suspect_r2) ++ wsX100 ++ wsX50 ++ wsX30 ++ wsX60)
def wsX10_commonDivisor : List Cond := .code yX10_commonDivisor cX10_commonDivisor 11 (some .long) :: ([])
def wsX10_skill : List Cond := .code yX10_skill cX10_skill 12 (some .long) :: ([.constantLong RX10 137 (-9223372036854775808), .fieldLink RX10 197 "TributePitches" "takeCount" "I", .fieldLink RX10 32 "TributePitches" "takes" "[LTributePitches$Take;", .fieldLink RX10 265 "TributePitches$Take" "gang" "LTributePitches$Gang;", .fieldLink RX10 238 "TributePitches$Take" "settled" "Z", .fieldLink RX10 203 "TributePitches$Take" "least" "J", .fieldLink RX10 207 "TributePitches$Take" "greatest" "J", .constantLong RX10 278 (2), .fieldLink RX10 249 "TributePitches$Take" "worths" "J", .methodLink RX10 172 yX10_gangAt, .instanceMethod yX10_gangAt, .selects RX10 yX10_gangAt yX10_gangAt, .initialized RX10, .code yX10_gangAt cX10_gangAt 2 (some (.object "TributePitches$Gang")), .fieldLink RX10 143 "TributePitches" "gangCount" "I", .fieldLink RX10 26 "TributePitches" "gangs" "[LTributePitches$Gang;", .methodLink RX10 64 yX10_isWithin, .static yX10_isWithin, .code yX10_isWithin cX10_isWithin 3 (some .boolean), .methodLink RX10 280 yX10_commonDivisor, .static yX10_commonDivisor, .code yX10_commonDivisor cX10_commonDivisor 11 (some .long)] ++ wsX100 ++ wsX80)
def wsX10_sheet_r1 : List Cond := [Cond.fieldLink RX10 56 "TributePitches" "latestFault" "I", Cond.methodLink RX10 93 yX10_sheetAt, Cond.instanceMethod yX10_sheetAt, Cond.selects RX10 yX10_sheetAt yX10_sheetAt, Cond.initialized RX10, Cond.code yX10_sheetAt cX10_sheetAt 2 (some (.object "TributePitches$Sheet")), Cond.fieldLink RX10 45 "TributePitches" "sheets" "[LTributePitches$Sheet;", Cond.methodLink RX10 64 yX10_isWithin, Cond.static yX10_isWithin, Cond.code yX10_isWithin cX10_isWithin 3 (some .boolean), Cond.methodLink RX10 97 yX7_isLane, Cond.static yX7_isLane, Cond.initialized RX7, Cond.code yX7_isLane cX7_isLane 1 (some .boolean), Cond.methodLink RX10 105 yX10_faulted, Cond.instanceMethod yX10_faulted, Cond.selects RX10 yX10_faulted yX10_faulted, Cond.code yX10_faulted cX10_faulted 2 (some .int), Cond.methodLink RX10 284 yX7_renew, Cond.instanceMethod yX7_renew, Cond.selects RX7 yX7_renew yX7_renew, Cond.code yX7_renew cX7_renew 3 none, Cond.fieldLink RX7 11 "TributePitches$Sheet" "cells" "[I", Cond.fieldLink RX7 15 "TributePitches$Sheet" "lane" "I"]
def wsX10_sheet_r2 : List Cond := [Cond.fieldLink RX7 29 "TributePitches$Sheet" "length" "I", Cond.methodLink RX7 23 yJ7_fill_53178, Cond.static yJ7_fill_53178, Cond.initialized RJ7, Cond.code yJ7_fill_53178 cJ7_fill_53178 4 none]
def wsX10_sheet : List Cond := .code yX10_sheet cX10_sheet 5 (some .int) :: ((wsX10_sheet_r1 ++ wsX10_sheet_r2) ++ wsX100 ++ wsX70)
def wsX10_lose_r1 : List Cond := [Cond.methodLink RX10 93 yX10_sheetAt, Cond.instanceMethod yX10_sheetAt, Cond.selects RX10 yX10_sheetAt yX10_sheetAt, Cond.initialized RX10, Cond.code yX10_sheetAt cX10_sheetAt 2 (some (.object "TributePitches$Sheet")), Cond.fieldLink RX10 45 "TributePitches" "sheets" "[LTributePitches$Sheet;", Cond.methodLink RX10 64 yX10_isWithin, Cond.static yX10_isWithin, Cond.code yX10_isWithin cX10_isWithin 3 (some .boolean), Cond.methodLink RX10 288 yX7_hasNothing, Cond.instanceMethod yX7_hasNothing, Cond.selects RX7 yX7_hasNothing yX7_hasNothing, Cond.initialized RX7, Cond.code yX7_hasNothing cX7_hasNothing 1 (some .boolean), Cond.fieldLink RX7 15 "TributePitches$Sheet" "lane" "I", Cond.methodLink RX10 284 yX7_renew, Cond.instanceMethod yX7_renew, Cond.selects RX7 yX7_renew yX7_renew, Cond.code yX7_renew cX7_renew 3 none, Cond.fieldLink RX7 11 "TributePitches$Sheet" "cells" "[I", Cond.fieldLink RX7 29 "TributePitches$Sheet" "length" "I", Cond.methodLink RX7 23 yJ7_fill_53178, Cond.static yJ7_fill_53178, Cond.initialized RJ7]
def wsX10_lose_r2 : List Cond := [Cond.code yJ7_fill_53178 cJ7_fill_53178 4 none]
def wsX10_lose : List Cond := .code yX10_lose cX10_lose 3 (some .int) :: ((wsX10_lose_r1 ++ wsX10_lose_r2) ++ wsX100 ++ wsX70)
def wsX10_put_r1 : List Cond := [Cond.fieldLink RX10 56 "TributePitches" "latestFault" "I", Cond.fieldLink RX10 111 "TributePitches$Sheet" "cells" "[I", Cond.methodLink RX10 93 yX10_sheetAt, Cond.instanceMethod yX10_sheetAt, Cond.selects RX10 yX10_sheetAt yX10_sheetAt, Cond.initialized RX10, Cond.code yX10_sheetAt cX10_sheetAt 2 (some (.object "TributePitches$Sheet")), Cond.fieldLink RX10 45 "TributePitches" "sheets" "[LTributePitches$Sheet;", Cond.methodLink RX10 64 yX10_isWithin, Cond.static yX10_isWithin, Cond.code yX10_isWithin cX10_isWithin 3 (some .boolean), Cond.methodLink RX10 288 yX7_hasNothing, Cond.instanceMethod yX7_hasNothing, Cond.selects RX7 yX7_hasNothing yX7_hasNothing, Cond.initialized RX7, Cond.code yX7_hasNothing cX7_hasNothing 1 (some .boolean), Cond.fieldLink RX7 15 "TributePitches$Sheet" "lane" "I", Cond.methodLink RX10 105 yX10_faulted, Cond.instanceMethod yX10_faulted, Cond.selects RX10 yX10_faulted yX10_faulted, Cond.code yX10_faulted cX10_faulted 2 (some .int), Cond.methodLink RX10 117 yX7_holds, Cond.instanceMethod yX7_holds, Cond.selects RX7 yX7_holds yX7_holds]
def wsX10_put_r2 : List Cond := [Cond.code yX7_holds cX7_holds 3 (some .boolean), Cond.fieldLink RX7 29 "TributePitches$Sheet" "length" "I", Cond.methodLink RX10 292 yX7_cut, Cond.instanceMethod yX7_cut, Cond.selects RX7 yX7_cut yX7_cut, Cond.code yX7_cut cX7_cut 2 (some .int)]
def wsX10_put : List Cond := .code yX10_put cX10_put 5 (some .int) :: ((wsX10_put_r1 ++ wsX10_put_r2) ++ wsX100 ++ wsX70)
def wsX10_cell_r1 : List Cond := [Cond.fieldLink RX10 56 "TributePitches" "latestFault" "I", Cond.constantLong RX10 137 (-9223372036854775808), Cond.fieldLink RX10 111 "TributePitches$Sheet" "cells" "[I", Cond.methodLink RX10 93 yX10_sheetAt, Cond.instanceMethod yX10_sheetAt, Cond.selects RX10 yX10_sheetAt yX10_sheetAt, Cond.initialized RX10, Cond.code yX10_sheetAt cX10_sheetAt 2 (some (.object "TributePitches$Sheet")), Cond.fieldLink RX10 45 "TributePitches" "sheets" "[LTributePitches$Sheet;", Cond.methodLink RX10 64 yX10_isWithin, Cond.static yX10_isWithin, Cond.code yX10_isWithin cX10_isWithin 3 (some .boolean), Cond.methodLink RX10 97 yX7_isLane, Cond.static yX7_isLane, Cond.initialized RX7, Cond.code yX7_isLane cX7_isLane 1 (some .boolean), Cond.methodLink RX10 114 yX7_faultAs, Cond.instanceMethod yX7_faultAs, Cond.selects RX7 yX7_faultAs yX7_faultAs, Cond.code yX7_faultAs cX7_faultAs 2 (some .int), Cond.fieldLink RX7 15 "TributePitches$Sheet" "lane" "I", Cond.methodLink RX7 32 yX7_hasNothing, Cond.instanceMethod yX7_hasNothing, Cond.selects RX7 yX7_hasNothing yX7_hasNothing]
def wsX10_cell_r2 : List Cond := [Cond.code yX7_hasNothing cX7_hasNothing 1 (some .boolean), Cond.methodLink RX10 117 yX7_holds, Cond.instanceMethod yX7_holds, Cond.selects RX7 yX7_holds yX7_holds, Cond.code yX7_holds cX7_holds 3 (some .boolean), Cond.fieldLink RX7 29 "TributePitches$Sheet" "length" "I"]
def wsX10_cell : List Cond := .code yX10_cell cX10_cell 5 (some .long) :: ((wsX10_cell_r1 ++ wsX10_cell_r2) ++ wsX100 ++ wsX70)
def wsX10_copy_r1 : List Cond := [Cond.fieldLink RX10 56 "TributePitches" "latestFault" "I", Cond.fieldLink RX10 295 "TributePitches$Sheet" "lane" "I", Cond.fieldLink RX10 111 "TributePitches$Sheet" "cells" "[I", Cond.methodLink RX10 298 arraycopyName, Cond.native arraycopyName, Cond.static arraycopyName, Cond.initialized "java/lang/System", Cond.methodLink RX10 93 yX10_sheetAt, Cond.instanceMethod yX10_sheetAt, Cond.selects RX10 yX10_sheetAt yX10_sheetAt, Cond.initialized RX10, Cond.code yX10_sheetAt cX10_sheetAt 2 (some (.object "TributePitches$Sheet")), Cond.fieldLink RX10 45 "TributePitches" "sheets" "[LTributePitches$Sheet;", Cond.methodLink RX10 64 yX10_isWithin, Cond.static yX10_isWithin, Cond.code yX10_isWithin cX10_isWithin 3 (some .boolean), Cond.methodLink RX10 288 yX7_hasNothing, Cond.instanceMethod yX7_hasNothing, Cond.selects RX7 yX7_hasNothing yX7_hasNothing, Cond.initialized RX7, Cond.code yX7_hasNothing cX7_hasNothing 1 (some .boolean), Cond.fieldLink RX7 15 "TributePitches$Sheet" "lane" "I", Cond.methodLink RX10 105 yX10_faulted, Cond.instanceMethod yX10_faulted]
def wsX10_copy_r2 : List Cond := [Cond.selects RX10 yX10_faulted yX10_faulted, Cond.code yX10_faulted cX10_faulted 2 (some .int), Cond.methodLink RX10 117 yX7_holds, Cond.instanceMethod yX7_holds, Cond.selects RX7 yX7_holds yX7_holds, Cond.code yX7_holds cX7_holds 3 (some .boolean), Cond.fieldLink RX7 29 "TributePitches$Sheet" "length" "I"]
def wsX10_copy : List Cond := .code yX10_copy cX10_copy 8 (some .int) :: ((wsX10_copy_r1 ++ wsX10_copy_r2) ++ wsX100 ++ wsX70)
def wsX10_tell_r1 : List Cond := [Cond.fieldLink RX10 52 "TributePitches" "steps" "LTributePitches$Trace;", Cond.methodLink RX10 172 yX10_gangAt, Cond.instanceMethod yX10_gangAt, Cond.selects RX10 yX10_gangAt yX10_gangAt, Cond.initialized RX10, Cond.code yX10_gangAt cX10_gangAt 2 (some (.object "TributePitches$Gang")), Cond.fieldLink RX10 143 "TributePitches" "gangCount" "I", Cond.fieldLink RX10 26 "TributePitches" "gangs" "[LTributePitches$Gang;", Cond.methodLink RX10 64 yX10_isWithin, Cond.static yX10_isWithin, Cond.code yX10_isWithin cX10_isWithin 3 (some .boolean), Cond.methodLink RX10 304 ⟨"TributePitches$Gang", "telling", "(LTributePitches$Trace;)I"⟩, Cond.sameMethod "TributePitches$Gang" "TributePitches$Gang" "telling" "(LTributePitches$Trace;)I", Cond.instanceMethod ⟨"TributePitches$Gang", "telling", "(LTributePitches$Trace;)I"⟩, Cond.selects RX1 ⟨"TributePitches$Gang", "telling", "(LTributePitches$Trace;)I"⟩ yX1_telling, Cond.instanceMethod yX1_telling, Cond.initialized RX1, Cond.code yX1_telling cX1_telling 2 (some .int), Cond.methodLink RX1 9 yX9_leave, Cond.instanceMethod yX9_leave, Cond.selects RX9 yX9_leave yX9_leave, Cond.initialized RX9, Cond.code yX9_leave cX9_leave 2 none, Cond.fieldLink RX9 7 "TributePitches$Trace" "number" "I"]
def wsX10_tell_r2 : List Cond := [Cond.methodLink RX1 14 ⟨"TributePitches$Family", "tellingOfAnyGang", "(LTributePitches$Trace;)I"⟩, Cond.sameMethod "TributePitches$Family" "TributePitches$Gang" "tellingOfAnyGang" "(LTributePitches$Trace;)I", Cond.selects RX1 ⟨"TributePitches$Family", "tellingOfAnyGang", "(LTributePitches$Trace;)I"⟩ yX2_tellingOfAnyGang, Cond.instanceMethod yX2_tellingOfAnyGang, Cond.initialized RX2, Cond.code yX2_tellingOfAnyGang cX2_tellingOfAnyGang 2 (some .int), Cond.fieldLink RX2 29 "TributePitches$Gang" "takesHad" "I", Cond.methodLink RX2 23 yX9_leave, Cond.selects RX4 ⟨"TributePitches$Family", "tellingOfAnyGang", "(LTributePitches$Trace;)I"⟩ yX2_tellingOfAnyGang, Cond.code yX2_telling cX2_telling 2 (some .int), Cond.methodLink RX10 304 yX2_telling, Cond.instanceMethod yX2_telling, Cond.selects RX2 yX2_telling yX2_telling, Cond.methodLink RX2 19 ⟨"TributePitches$Gang", "tellingOfAnyGang", "(LTributePitches$Trace;)I"⟩, Cond.sameMethod "TributePitches$Gang" "TributePitches$Gang" "tellingOfAnyGang" "(LTributePitches$Trace;)I", Cond.selects RX1 ⟨"TributePitches$Gang", "tellingOfAnyGang", "(LTributePitches$Trace;)I"⟩ yX2_tellingOfAnyGang, Cond.methodLink RX2 19 yX2_tellingOfAnyGang, Cond.selects RX2 yX2_tellingOfAnyGang yX2_tellingOfAnyGang, Cond.selects RX4 ⟨"TributePitches$Gang", "tellingOfAnyGang", "(LTributePitches$Trace;)I"⟩ yX2_tellingOfAnyGang, Cond.selects RX4 ⟨"TributePitches$Gang", "telling", "(LTributePitches$Trace;)I"⟩ yX4_telling, Cond.instanceMethod yX4_telling, Cond.initialized RX4, Cond.code yX4_telling cX4_telling 2 (some .int), Cond.methodLink RX4 15 yX9_leave]
def wsX10_tell_r3 : List Cond := [Cond.methodLink RX4 20 ⟨"TributePitches$OldHands", "tellingOfAnyGang", "(LTributePitches$Trace;)I"⟩, Cond.sameMethod "TributePitches$OldHands" "TributePitches$Gang" "tellingOfAnyGang" "(LTributePitches$Trace;)I", Cond.selects RX4 ⟨"TributePitches$OldHands", "tellingOfAnyGang", "(LTributePitches$Trace;)I"⟩ yX2_tellingOfAnyGang]
def wsX10_tell : List Cond := .code yX10_tell cX10_tell 3 (some .int) :: ((wsX10_tell_r1 ++ (wsX10_tell_r2 ++ wsX10_tell_r3)) ++ wsX100 ++ wsX90 ++ wsX10 ++ wsX20 ++ wsX40)
def wsX10_greet_r1 : List Cond := [Cond.fieldLink RX10 52 "TributePitches" "steps" "LTributePitches$Trace;", Cond.methodLink RX10 172 yX10_gangAt, Cond.instanceMethod yX10_gangAt, Cond.selects RX10 yX10_gangAt yX10_gangAt, Cond.initialized RX10, Cond.code yX10_gangAt cX10_gangAt 2 (some (.object "TributePitches$Gang")), Cond.fieldLink RX10 143 "TributePitches" "gangCount" "I", Cond.fieldLink RX10 26 "TributePitches" "gangs" "[LTributePitches$Gang;", Cond.methodLink RX10 64 yX10_isWithin, Cond.static yX10_isWithin, Cond.code yX10_isWithin cX10_isWithin 3 (some .boolean), Cond.methodLink RX10 308 ⟨"TributePitches$Gang", "greeting", "(LTributePitches$Trace;)I"⟩, Cond.sameMethod "TributePitches$Gang" "TributePitches$Gang" "greeting" "(LTributePitches$Trace;)I", Cond.instanceMethod ⟨"TributePitches$Gang", "greeting", "(LTributePitches$Trace;)I"⟩, Cond.selects RX1 ⟨"TributePitches$Gang", "greeting", "(LTributePitches$Trace;)I"⟩ yX1_greeting, Cond.instanceMethod yX1_greeting, Cond.initialized RX1, Cond.code yX1_greeting cX1_greeting 2 (some .int), Cond.methodLink RX1 9 yX9_leave, Cond.instanceMethod yX9_leave, Cond.selects RX9 yX9_leave yX9_leave, Cond.initialized RX9, Cond.code yX9_leave cX9_leave 2 none, Cond.fieldLink RX9 7 "TributePitches$Trace" "number" "I"]
def wsX10_greet_r2 : List Cond := [Cond.code yX2_greeting cX2_greeting 2 (some .int), Cond.methodLink RX10 308 yX2_greeting, Cond.instanceMethod yX2_greeting, Cond.selects RX2 yX2_greeting yX2_greeting, Cond.initialized RX2, Cond.fieldLink RX2 9 "TributePitches$Gang" "number" "I", Cond.methodLink RX2 23 yX9_leave, Cond.selects RX4 ⟨"TributePitches$Gang", "greeting", "(LTributePitches$Trace;)I"⟩ yX4_greeting, Cond.instanceMethod yX4_greeting, Cond.initialized RX4, Cond.code yX4_greeting cX4_greeting 2 (some .int), Cond.methodLink RX4 15 yX9_leave, Cond.methodLink RX4 24 yX1_greeting, Cond.sameMethod "TributePitches$Family" "TributePitches$Family" "greeting" "(LTributePitches$Trace;)I", Cond.superclass RX4 RX1]
def wsX10_greet : List Cond := .code yX10_greet cX10_greet 3 (some .int) :: ((wsX10_greet_r1 ++ wsX10_greet_r2) ++ wsX100 ++ wsX90 ++ wsX10 ++ wsX20 ++ wsX40)
def wsX10_isOfKind : List Cond := .code yX10_isOfKind cX10_isOfKind 2 (some .boolean) :: ([.classLink RX10 150 "TributePitches$OldHands", .classLink RX10 155 "TributePitches$Family"])
def wsX10_as : List Cond := .code yX10_as cX10_as 4 (some .int) :: ([.fieldLink RX10 56 "TributePitches" "latestFault" "I", .methodLink RX10 172 yX10_gangAt, .instanceMethod yX10_gangAt, .selects RX10 yX10_gangAt yX10_gangAt, .initialized RX10, .code yX10_gangAt cX10_gangAt 2 (some (.object "TributePitches$Gang")), .fieldLink RX10 143 "TributePitches" "gangCount" "I", .fieldLink RX10 26 "TributePitches" "gangs" "[LTributePitches$Gang;", .methodLink RX10 64 yX10_isWithin, .static yX10_isWithin, .code yX10_isWithin cX10_isWithin 3 (some .boolean), .methodLink RX10 311 yX10_isOfKind, .static yX10_isOfKind, .code yX10_isOfKind cX10_isOfKind 2 (some .boolean), .classLink RX10 150 "TributePitches$OldHands", .classLink RX10 155 "TributePitches$Family", .methodLink RX10 105 yX10_faulted, .instanceMethod yX10_faulted, .selects RX10 yX10_faulted yX10_faulted, .code yX10_faulted cX10_faulted 2 (some .int)] ++ wsX100)
def wsX10_trace : List Cond := .code yX10_trace cX10_trace 1 (some .int) :: ([.fieldLink RX10 52 "TributePitches" "steps" "LTributePitches$Trace;", .fieldLink RX10 315 "TributePitches$Trace" "number" "I"] ++ wsX100 ++ wsX90)
def wsX10_fault : List Cond := .code yX10_fault cX10_fault 1 (some .int) :: ([.fieldLink RX10 56 "TributePitches" "latestFault" "I"] ++ wsX100)
def wsX10_told : List Cond := .code yX10_told cX10_told 2 (some .int) :: ([.fieldLink RX10 124 "TributePitches" "pitchCount" "I", .fieldLink RX10 143 "TributePitches" "gangCount" "I", .fieldLink RX10 197 "TributePitches" "takeCount" "I", .fieldLink RX10 242 "TributePitches" "parcelCount" "I", .fieldLink RX10 12 "TributePitches" "lode" "LTributePitches$Lode;", .fieldLink RX10 79 "TributePitches$Lode" "law" "I", .fieldLink RX10 163 "TributePitches" "current" "LTributePitches$Auction;", .fieldLink RX10 187 "TributePitches$Auction" "bids" "I", .fieldLink RX10 193 "TributePitches$Auction" "pitch" "LTributePitches$Pitch;", .fieldLink RX10 269 "TributePitches$Pitch" "number" "I", .fieldLink RX10 190 "TributePitches$Auction" "share" "I"] ++ wsX100 ++ wsX30 ++ wsX00 ++ wsX60)
def wsX11_init_r1 : List Cond := [Cond.methodLink RX11 1 objectInit, Cond.instanceMethod objectInit, Cond.code objectInit ⟨#[0xb1]⟩ 1 none, Cond.arrayClass .int, Cond.fieldLink RX11 7 "TributePitchesModel" "low" "[I", Cond.fieldLink RX11 13 "TributePitchesModel" "high" "[I", Cond.fieldLink RX11 16 "TributePitchesModel" "newLow" "[I", Cond.fieldLink RX11 19 "TributePitchesModel" "newHigh" "[I", Cond.fieldLink RX11 22 "TributePitchesModel" "sheetSize" "[I", Cond.fieldLink RX11 25 "TributePitchesModel" "sheetLane" "[I", Cond.fieldLink RX11 28 "TributePitchesModel" "sheet" "[I", Cond.fieldLink RX11 31 "TributePitchesModel" "hands" "[I", Cond.fieldLink RX11 34 "TributePitchesModel" "fromX" "[I", Cond.fieldLink RX11 37 "TributePitchesModel" "fromY" "[I", Cond.fieldLink RX11 40 "TributePitchesModel" "toX" "[I", Cond.fieldLink RX11 43 "TributePitchesModel" "toY" "[I", Cond.fieldLink RX11 46 "TributePitchesModel" "tonsOf" "[I", Cond.fieldLink RX11 49 "TributePitchesModel" "sort" "[I", Cond.arrayClass .long, Cond.fieldLink RX11 52 "TributePitchesModel" "debt" "[J", Cond.fieldLink RX11 56 "TributePitchesModel" "gangOf" "[I", Cond.fieldLink RX11 59 "TributePitchesModel" "pitchOf" "[I", Cond.fieldLink RX11 62 "TributePitchesModel" "shareOf" "[I", Cond.arrayClass .boolean]
def wsX11_init_r2 : List Cond := [Cond.fieldLink RX11 65 "TributePitchesModel" "isSettled" "[Z", Cond.fieldLink RX11 69 "TributePitchesModel" "least" "[J", Cond.fieldLink RX11 72 "TributePitchesModel" "greatest" "[J", Cond.fieldLink RX11 75 "TributePitchesModel" "costs" "[J", Cond.fieldLink RX11 78 "TributePitchesModel" "ahead" "[J", Cond.fieldLink RX11 81 "TributePitchesModel" "pay" "[J", Cond.fieldLink RX11 84 "TributePitchesModel" "parcelTake" "[I", Cond.fieldLink RX11 87 "TributePitchesModel" "parcelTons" "[I", Cond.fieldLink RX11 90 "TributePitchesModel" "parcelGood" "[I", Cond.fieldLink RX11 93 "TributePitchesModel" "far" "I", Cond.fieldLink RX11 97 "TributePitchesModel" "sold" "I"]
def wsX11_init : List Cond := .code yX11_init cX11_init 2 none :: ((wsX11_init_r1 ++ wsX11_init_r2) ++ wsX110)
def wsX11_in : List Cond := .code yX11_in cX11_in 6 (some .boolean) :: ([])
def wsX11_lost : List Cond := .code yX11_lost cX11_lost 0 (some .long) :: ([.constantLong RX11 100 (-9223372036854775808)])
def wsX11_refused : List Cond := .code yX11_refused cX11_refused 2 (some .int) :: ([.fieldLink RX11 102 "TributePitchesModel" "fault" "I"] ++ wsX110)
def wsX11_failed : List Cond := .code yX11_failed cX11_failed 2 (some .int) :: ([.fieldLink RX11 102 "TributePitchesModel" "fault" "I"] ++ wsX110)
def wsX11_failedLong : List Cond := .code yX11_failedLong cX11_failedLong 2 (some .long) :: ([.fieldLink RX11 102 "TributePitchesModel" "fault" "I", .methodLink RX11 105 yX11_lost, .static yX11_lost, .initialized RX11, .code yX11_lost cX11_lost 0 (some .long), .constantLong RX11 100 (-9223372036854775808)] ++ wsX110)
def wsX11_isSquare : List Cond := .code yX11_isSquare cX11_isSquare 2 (some .boolean) :: ([.constantLong RX11 109 (7), .constantLong RX11 115 (5), .methodLink RX11 111 yX11_in, .static yX11_in, .initialized RX11, .code yX11_in cX11_in 6 (some .boolean)])
def wsX11_layNew : List Cond := .code yX11_layNew cX11_layNew 2 none :: ([.fieldLink RX11 16 "TributePitchesModel" "newLow" "[I", .fieldLink RX11 7 "TributePitchesModel" "low" "[I", .fieldLink RX11 19 "TributePitchesModel" "newHigh" "[I", .fieldLink RX11 13 "TributePitchesModel" "high" "[I"] ++ wsX110)
def wsX11_meet : List Cond := .code yX11_meet cX11_meet 4 none :: ([.fieldLink RX11 16 "TributePitchesModel" "newLow" "[I", .fieldLink RX11 117 "TributePitchesModel" "isChanged" "Z", .fieldLink RX11 19 "TributePitchesModel" "newHigh" "[I"] ++ wsX110)
def wsX11_meetNeighbour : List Cond := .code yX11_meetNeighbour cX11_meetNeighbour 5 none :: ([.fieldLink RX11 16 "TributePitchesModel" "newLow" "[I", .fieldLink RX11 19 "TributePitchesModel" "newHigh" "[I", .methodLink RX11 121 yX11_isSquare, .static yX11_isSquare, .initialized RX11, .code yX11_isSquare cX11_isSquare 2 (some .boolean), .constantLong RX11 109 (7), .constantLong RX11 115 (5), .methodLink RX11 111 yX11_in, .static yX11_in, .code yX11_in cX11_in 6 (some .boolean), .methodLink RX11 125 yX11_meet, .instanceMethod yX11_meet, .selects RX11 yX11_meet yX11_meet, .code yX11_meet cX11_meet 4 none, .fieldLink RX11 117 "TributePitchesModel" "isChanged" "Z"] ++ wsX110)
def wsX11_narrowed : List Cond := .code yX11_narrowed cX11_narrowed 4 (some .int) :: ([.fieldLink RX11 117 "TributePitchesModel" "isChanged" "Z", .fieldLink RX11 16 "TributePitchesModel" "newLow" "[I", .fieldLink RX11 19 "TributePitchesModel" "newHigh" "[I", .fieldLink RX11 7 "TributePitchesModel" "low" "[I", .fieldLink RX11 13 "TributePitchesModel" "high" "[I", .fieldLink RX11 93 "TributePitchesModel" "far" "I", .methodLink RX11 129 yX11_meetNeighbour, .instanceMethod yX11_meetNeighbour, .selects RX11 yX11_meetNeighbour yX11_meetNeighbour, .initialized RX11, .code yX11_meetNeighbour cX11_meetNeighbour 5 none, .methodLink RX11 121 yX11_isSquare, .static yX11_isSquare, .code yX11_isSquare cX11_isSquare 2 (some .boolean), .constantLong RX11 109 (7), .constantLong RX11 115 (5), .methodLink RX11 111 yX11_in, .static yX11_in, .code yX11_in cX11_in 6 (some .boolean), .methodLink RX11 125 yX11_meet, .instanceMethod yX11_meet, .selects RX11 yX11_meet yX11_meet, .code yX11_meet cX11_meet 4 none] ++ wsX110)
def wsX11_find_r1 : List Cond := [Cond.constantLong RX11 133 (1000), Cond.fieldLink RX11 93 "TributePitchesModel" "far" "I", Cond.methodLink RX11 121 yX11_isSquare, Cond.static yX11_isSquare, Cond.initialized RX11, Cond.code yX11_isSquare cX11_isSquare 2 (some .boolean), Cond.constantLong RX11 109 (7), Cond.constantLong RX11 115 (5), Cond.methodLink RX11 111 yX11_in, Cond.static yX11_in, Cond.code yX11_in cX11_in 6 (some .boolean), Cond.methodLink RX11 135 yX11_layNew, Cond.instanceMethod yX11_layNew, Cond.selects RX11 yX11_layNew yX11_layNew, Cond.code yX11_layNew cX11_layNew 2 none, Cond.fieldLink RX11 16 "TributePitchesModel" "newLow" "[I", Cond.fieldLink RX11 7 "TributePitchesModel" "low" "[I", Cond.fieldLink RX11 19 "TributePitchesModel" "newHigh" "[I", Cond.fieldLink RX11 13 "TributePitchesModel" "high" "[I", Cond.methodLink RX11 125 yX11_meet, Cond.instanceMethod yX11_meet, Cond.selects RX11 yX11_meet yX11_meet, Cond.code yX11_meet cX11_meet 4 none, Cond.fieldLink RX11 117 "TributePitchesModel" "isChanged" "Z"]
def wsX11_find_r2 : List Cond := [Cond.methodLink RX11 138 yX11_narrowed, Cond.instanceMethod yX11_narrowed, Cond.selects RX11 yX11_narrowed yX11_narrowed, Cond.code yX11_narrowed cX11_narrowed 4 (some .int), Cond.methodLink RX11 129 yX11_meetNeighbour, Cond.instanceMethod yX11_meetNeighbour, Cond.selects RX11 yX11_meetNeighbour yX11_meetNeighbour, Cond.code yX11_meetNeighbour cX11_meetNeighbour 5 none]
def wsX11_find : List Cond := .code yX11_find cX11_find 5 (some .int) :: ((wsX11_find_r1 ++ wsX11_find_r2) ++ wsX110)
def wsX11_rise_r1 : List Cond := [Cond.constantLong RX11 133 (1000), Cond.fieldLink RX11 93 "TributePitchesModel" "far" "I", Cond.methodLink RX11 111 yX11_in, Cond.static yX11_in, Cond.initialized RX11, Cond.code yX11_in cX11_in 6 (some .boolean), Cond.methodLink RX11 135 yX11_layNew, Cond.instanceMethod yX11_layNew, Cond.selects RX11 yX11_layNew yX11_layNew, Cond.code yX11_layNew cX11_layNew 2 none, Cond.fieldLink RX11 16 "TributePitchesModel" "newLow" "[I", Cond.fieldLink RX11 7 "TributePitchesModel" "low" "[I", Cond.fieldLink RX11 19 "TributePitchesModel" "newHigh" "[I", Cond.fieldLink RX11 13 "TributePitchesModel" "high" "[I", Cond.methodLink RX11 138 yX11_narrowed, Cond.instanceMethod yX11_narrowed, Cond.selects RX11 yX11_narrowed yX11_narrowed, Cond.code yX11_narrowed cX11_narrowed 4 (some .int), Cond.fieldLink RX11 117 "TributePitchesModel" "isChanged" "Z", Cond.methodLink RX11 129 yX11_meetNeighbour, Cond.instanceMethod yX11_meetNeighbour, Cond.selects RX11 yX11_meetNeighbour yX11_meetNeighbour, Cond.code yX11_meetNeighbour cX11_meetNeighbour 5 none, Cond.methodLink RX11 121 yX11_isSquare]
def wsX11_rise_r2 : List Cond := [Cond.static yX11_isSquare, Cond.code yX11_isSquare cX11_isSquare 2 (some .boolean), Cond.constantLong RX11 109 (7), Cond.constantLong RX11 115 (5), Cond.methodLink RX11 125 yX11_meet, Cond.instanceMethod yX11_meet, Cond.selects RX11 yX11_meet yX11_meet, Cond.code yX11_meet cX11_meet 4 none]
def wsX11_rise : List Cond := .code yX11_rise cX11_rise 2 (some .int) :: ((wsX11_rise_r1 ++ wsX11_rise_r2) ++ wsX110)
def wsX11_good : List Cond := .code yX11_good cX11_good 4 (some .int) :: ([.fieldLink RX11 7 "TributePitchesModel" "low" "[I", .fieldLink RX11 13 "TributePitchesModel" "high" "[I", .methodLink RX11 121 yX11_isSquare, .static yX11_isSquare, .initialized RX11, .code yX11_isSquare cX11_isSquare 2 (some .boolean), .constantLong RX11 109 (7), .constantLong RX11 115 (5), .methodLink RX11 111 yX11_in, .static yX11_in, .code yX11_in cX11_in 6 (some .boolean)] ++ wsX110)
def wsX11_noSheet : List Cond := .code yX11_noSheet cX11_noSheet 1 (some .boolean) :: ([.constantLong RX11 142 (3), .methodLink RX11 111 yX11_in, .static yX11_in, .initialized RX11, .code yX11_in cX11_in 6 (some .boolean)])
def wsX11_sheet : List Cond := .code yX11_sheet cX11_sheet 5 (some .int) :: ([.constantLong RX11 151 (2), .fieldLink RX11 22 "TributePitchesModel" "sheetSize" "[I", .fieldLink RX11 25 "TributePitchesModel" "sheetLane" "[I", .fieldLink RX11 28 "TributePitchesModel" "sheet" "[I", .methodLink RX11 144 yX11_noSheet, .static yX11_noSheet, .initialized RX11, .code yX11_noSheet cX11_noSheet 1 (some .boolean), .constantLong RX11 142 (3), .methodLink RX11 111 yX11_in, .static yX11_in, .code yX11_in cX11_in 6 (some .boolean), .methodLink RX11 148 yX11_refused, .instanceMethod yX11_refused, .selects RX11 yX11_refused yX11_refused, .code yX11_refused cX11_refused 2 (some .int), .fieldLink RX11 102 "TributePitchesModel" "fault" "I", .methodLink RX11 153 yX11_failed, .instanceMethod yX11_failed, .selects RX11 yX11_failed yX11_failed, .code yX11_failed cX11_failed 2 (some .int)] ++ wsX110)
def wsX11_lose : List Cond := .code yX11_lose cX11_lose 3 (some .int) :: ([.fieldLink RX11 22 "TributePitchesModel" "sheetSize" "[I", .methodLink RX11 144 yX11_noSheet, .static yX11_noSheet, .initialized RX11, .code yX11_noSheet cX11_noSheet 1 (some .boolean), .constantLong RX11 142 (3), .methodLink RX11 111 yX11_in, .static yX11_in, .code yX11_in cX11_in 6 (some .boolean)] ++ wsX110)
def wsX11_noCell : List Cond := .code yX11_noCell cX11_noCell 3 (some .int) :: ([.fieldLink RX11 22 "TributePitchesModel" "sheetSize" "[I", .methodLink RX11 111 yX11_in, .static yX11_in, .initialized RX11, .code yX11_in cX11_in 6 (some .boolean)] ++ wsX110)
def wsX11_put : List Cond := .code yX11_put cX11_put 4 (some .int) :: ([.fieldLink RX11 28 "TributePitchesModel" "sheet" "[I", .fieldLink RX11 25 "TributePitchesModel" "sheetLane" "[I", .methodLink RX11 144 yX11_noSheet, .static yX11_noSheet, .initialized RX11, .code yX11_noSheet cX11_noSheet 1 (some .boolean), .constantLong RX11 142 (3), .methodLink RX11 111 yX11_in, .static yX11_in, .code yX11_in cX11_in 6 (some .boolean), .methodLink RX11 148 yX11_refused, .instanceMethod yX11_refused, .selects RX11 yX11_refused yX11_refused, .code yX11_refused cX11_refused 2 (some .int), .fieldLink RX11 102 "TributePitchesModel" "fault" "I", .methodLink RX11 156 yX11_noCell, .instanceMethod yX11_noCell, .selects RX11 yX11_noCell yX11_noCell, .code yX11_noCell cX11_noCell 3 (some .int), .fieldLink RX11 22 "TributePitchesModel" "sheetSize" "[I", .methodLink RX11 153 yX11_failed, .instanceMethod yX11_failed, .selects RX11 yX11_failed yX11_failed, .code yX11_failed cX11_failed 2 (some .int)] ++ wsX110)
def wsX11_cell_r1 : List Cond := [Cond.fieldLink RX11 102 "TributePitchesModel" "fault" "I", Cond.constantLong RX11 151 (2), Cond.fieldLink RX11 22 "TributePitchesModel" "sheetSize" "[I", Cond.fieldLink RX11 25 "TributePitchesModel" "sheetLane" "[I", Cond.fieldLink RX11 28 "TributePitchesModel" "sheet" "[I", Cond.methodLink RX11 144 yX11_noSheet, Cond.static yX11_noSheet, Cond.initialized RX11, Cond.code yX11_noSheet cX11_noSheet 1 (some .boolean), Cond.constantLong RX11 142 (3), Cond.methodLink RX11 111 yX11_in, Cond.static yX11_in, Cond.code yX11_in cX11_in 6 (some .boolean), Cond.methodLink RX11 105 yX11_lost, Cond.static yX11_lost, Cond.code yX11_lost cX11_lost 0 (some .long), Cond.constantLong RX11 100 (-9223372036854775808), Cond.methodLink RX11 160 yX11_failedLong, Cond.instanceMethod yX11_failedLong, Cond.selects RX11 yX11_failedLong yX11_failedLong, Cond.code yX11_failedLong cX11_failedLong 2 (some .long), Cond.methodLink RX11 156 yX11_noCell, Cond.instanceMethod yX11_noCell, Cond.selects RX11 yX11_noCell yX11_noCell]
def wsX11_cell_r2 : List Cond := [Cond.code yX11_noCell cX11_noCell 3 (some .int)]
def wsX11_cell : List Cond := .code yX11_cell cX11_cell 4 (some .long) :: ((wsX11_cell_r1 ++ wsX11_cell_r2) ++ wsX110)
def wsX11_isBeyond : List Cond := .code yX11_isBeyond cX11_isBeyond 3 (some .boolean) :: ([])
def wsX11_copy : List Cond := .code yX11_copy cX11_copy 7 (some .int) :: ([.fieldLink RX11 22 "TributePitchesModel" "sheetSize" "[I", .fieldLink RX11 25 "TributePitchesModel" "sheetLane" "[I", .fieldLink RX11 31 "TributePitchesModel" "hands" "[I", .fieldLink RX11 28 "TributePitchesModel" "sheet" "[I", .methodLink RX11 144 yX11_noSheet, .static yX11_noSheet, .initialized RX11, .code yX11_noSheet cX11_noSheet 1 (some .boolean), .constantLong RX11 142 (3), .methodLink RX11 111 yX11_in, .static yX11_in, .code yX11_in cX11_in 6 (some .boolean), .methodLink RX11 148 yX11_refused, .instanceMethod yX11_refused, .selects RX11 yX11_refused yX11_refused, .code yX11_refused cX11_refused 2 (some .int), .fieldLink RX11 102 "TributePitchesModel" "fault" "I", .methodLink RX11 153 yX11_failed, .instanceMethod yX11_failed, .selects RX11 yX11_failed yX11_failed, .code yX11_failed cX11_failed 2 (some .int), .methodLink RX11 164 yX11_isBeyond, .static yX11_isBeyond, .code yX11_isBeyond cX11_isBeyond 3 (some .boolean)] ++ wsX110)
def wsX11_chart_r1 : List Cond := [Cond.constantLong RX11 168 (47), Cond.constantLong RX11 151 (2), Cond.fieldLink RX11 22 "TributePitchesModel" "sheetSize" "[I", Cond.fieldLink RX11 25 "TributePitchesModel" "sheetLane" "[I", Cond.fieldLink RX11 28 "TributePitchesModel" "sheet" "[I", Cond.fieldLink RX11 93 "TributePitchesModel" "far" "I", Cond.methodLink RX11 144 yX11_noSheet, Cond.static yX11_noSheet, Cond.initialized RX11, Cond.code yX11_noSheet cX11_noSheet 1 (some .boolean), Cond.constantLong RX11 142 (3), Cond.methodLink RX11 111 yX11_in, Cond.static yX11_in, Cond.code yX11_in cX11_in 6 (some .boolean), Cond.methodLink RX11 148 yX11_refused, Cond.instanceMethod yX11_refused, Cond.selects RX11 yX11_refused yX11_refused, Cond.code yX11_refused cX11_refused 2 (some .int), Cond.fieldLink RX11 102 "TributePitchesModel" "fault" "I", Cond.methodLink RX11 153 yX11_failed, Cond.instanceMethod yX11_failed, Cond.selects RX11 yX11_failed yX11_failed, Cond.code yX11_failed cX11_failed 2 (some .int), Cond.methodLink RX11 164 yX11_isBeyond]
def wsX11_chart_r2 : List Cond := [Cond.static yX11_isBeyond, Cond.code yX11_isBeyond cX11_isBeyond 3 (some .boolean), Cond.methodLink RX11 135 yX11_layNew, Cond.instanceMethod yX11_layNew, Cond.selects RX11 yX11_layNew yX11_layNew, Cond.code yX11_layNew cX11_layNew 2 none, Cond.fieldLink RX11 16 "TributePitchesModel" "newLow" "[I", Cond.fieldLink RX11 7 "TributePitchesModel" "low" "[I", Cond.fieldLink RX11 19 "TributePitchesModel" "newHigh" "[I", Cond.fieldLink RX11 13 "TributePitchesModel" "high" "[I", Cond.methodLink RX11 125 yX11_meet, Cond.instanceMethod yX11_meet, Cond.selects RX11 yX11_meet yX11_meet, Cond.code yX11_meet cX11_meet 4 none, Cond.fieldLink RX11 117 "TributePitchesModel" "isChanged" "Z", Cond.methodLink RX11 138 yX11_narrowed, Cond.instanceMethod yX11_narrowed, Cond.selects RX11 yX11_narrowed yX11_narrowed, Cond.code yX11_narrowed cX11_narrowed 4 (some .int), Cond.methodLink RX11 129 yX11_meetNeighbour, Cond.instanceMethod yX11_meetNeighbour, Cond.selects RX11 yX11_meetNeighbour yX11_meetNeighbour, Cond.code yX11_meetNeighbour cX11_meetNeighbour 5 none, Cond.methodLink RX11 121 yX11_isSquare]
def wsX11_chart_r3 : List Cond := [Cond.static yX11_isSquare, Cond.code yX11_isSquare cX11_isSquare 2 (some .boolean), Cond.constantLong RX11 109 (7), Cond.constantLong RX11 115 (5)]
def wsX11_chart : List Cond := .code yX11_chart cX11_chart 8 (some .int) :: ((wsX11_chart_r1 ++ (wsX11_chart_r2 ++ wsX11_chart_r3)) ++ wsX110)
def wsX11_noPitch : List Cond := .code yX11_noPitch cX11_noPitch 2 (some .boolean) :: ([.fieldLink RX11 170 "TributePitchesModel" "pitches" "I", .methodLink RX11 111 yX11_in, .static yX11_in, .initialized RX11, .code yX11_in cX11_in 6 (some .boolean)] ++ wsX110)
def wsX11_isOn : List Cond := .code yX11_isOn cX11_isOn 3 (some .boolean) :: ([.fieldLink RX11 34 "TributePitchesModel" "fromX" "[I", .fieldLink RX11 40 "TributePitchesModel" "toX" "[I", .fieldLink RX11 37 "TributePitchesModel" "fromY" "[I", .fieldLink RX11 43 "TributePitchesModel" "toY" "[I", .methodLink RX11 111 yX11_in, .static yX11_in, .initialized RX11, .code yX11_in cX11_in 6 (some .boolean)] ++ wsX110)
def wsX11_pitch : List Cond := .code yX11_pitch cX11_pitch 7 (some .int) :: ([.constantLong RX11 173 (100), .fieldLink RX11 170 "TributePitchesModel" "pitches" "I", .fieldLink RX11 40 "TributePitchesModel" "toX" "[I", .fieldLink RX11 34 "TributePitchesModel" "fromX" "[I", .fieldLink RX11 43 "TributePitchesModel" "toY" "[I", .fieldLink RX11 37 "TributePitchesModel" "fromY" "[I", .fieldLink RX11 46 "TributePitchesModel" "tonsOf" "[I", .methodLink RX11 121 yX11_isSquare, .static yX11_isSquare, .initialized RX11, .code yX11_isSquare cX11_isSquare 2 (some .boolean), .constantLong RX11 109 (7), .constantLong RX11 115 (5), .methodLink RX11 111 yX11_in, .static yX11_in, .code yX11_in cX11_in 6 (some .boolean)] ++ wsX110)
def wsX11_foretoldOf : List Cond := .code yX11_foretoldOf cX11_foretoldOf 6 (some .long) :: ([.fieldLink RX11 7 "TributePitchesModel" "low" "[I", .fieldLink RX11 13 "TributePitchesModel" "high" "[I", .fieldLink RX11 46 "TributePitchesModel" "tonsOf" "[I", .methodLink RX11 175 yX11_isOn, .instanceMethod yX11_isOn, .selects RX11 yX11_isOn yX11_isOn, .initialized RX11, .code yX11_isOn cX11_isOn 3 (some .boolean), .fieldLink RX11 34 "TributePitchesModel" "fromX" "[I", .fieldLink RX11 40 "TributePitchesModel" "toX" "[I", .fieldLink RX11 37 "TributePitchesModel" "fromY" "[I", .fieldLink RX11 43 "TributePitchesModel" "toY" "[I", .methodLink RX11 111 yX11_in, .static yX11_in, .code yX11_in cX11_in 6 (some .boolean)] ++ wsX110)
def wsX11_foretold_r1 : List Cond := [Cond.methodLink RX11 178 yX11_noPitch, Cond.instanceMethod yX11_noPitch, Cond.selects RX11 yX11_noPitch yX11_noPitch, Cond.initialized RX11, Cond.code yX11_noPitch cX11_noPitch 2 (some .boolean), Cond.fieldLink RX11 170 "TributePitchesModel" "pitches" "I", Cond.methodLink RX11 111 yX11_in, Cond.static yX11_in, Cond.code yX11_in cX11_in 6 (some .boolean), Cond.methodLink RX11 105 yX11_lost, Cond.static yX11_lost, Cond.code yX11_lost cX11_lost 0 (some .long), Cond.constantLong RX11 100 (-9223372036854775808), Cond.methodLink RX11 181 yX11_foretoldOf, Cond.instanceMethod yX11_foretoldOf, Cond.selects RX11 yX11_foretoldOf yX11_foretoldOf, Cond.code yX11_foretoldOf cX11_foretoldOf 6 (some .long), Cond.fieldLink RX11 7 "TributePitchesModel" "low" "[I", Cond.fieldLink RX11 13 "TributePitchesModel" "high" "[I", Cond.fieldLink RX11 46 "TributePitchesModel" "tonsOf" "[I", Cond.methodLink RX11 175 yX11_isOn, Cond.instanceMethod yX11_isOn, Cond.selects RX11 yX11_isOn yX11_isOn, Cond.code yX11_isOn cX11_isOn 3 (some .boolean)]
def wsX11_foretold_r2 : List Cond := [Cond.fieldLink RX11 34 "TributePitchesModel" "fromX" "[I", Cond.fieldLink RX11 40 "TributePitchesModel" "toX" "[I", Cond.fieldLink RX11 37 "TributePitchesModel" "fromY" "[I", Cond.fieldLink RX11 43 "TributePitchesModel" "toY" "[I"]
def wsX11_foretold : List Cond := .code yX11_foretold cX11_foretold 3 (some .long) :: ((wsX11_foretold_r1 ++ wsX11_foretold_r2) ++ wsX110)
def wsX11_noGang : List Cond := .code yX11_noGang cX11_noGang 2 (some .boolean) :: ([.fieldLink RX11 185 "TributePitchesModel" "gangs" "I", .methodLink RX11 111 yX11_in, .static yX11_in, .initialized RX11, .code yX11_in cX11_in 6 (some .boolean)] ++ wsX110)
def wsX11_gang : List Cond := .code yX11_gang cX11_gang 2 (some .int) :: ([.constantLong RX11 151 (2), .fieldLink RX11 185 "TributePitchesModel" "gangs" "I", .fieldLink RX11 49 "TributePitchesModel" "sort" "[I", .methodLink RX11 111 yX11_in, .static yX11_in, .initialized RX11, .code yX11_in cX11_in 6 (some .boolean)] ++ wsX110)
def wsX11_takeOf : List Cond := .code yX11_takeOf cX11_takeOf 3 (some .int) :: ([.fieldLink RX11 188 "TributePitchesModel" "takes" "I", .fieldLink RX11 59 "TributePitchesModel" "pitchOf" "[I", .fieldLink RX11 65 "TributePitchesModel" "isSettled" "[Z"] ++ wsX110)
def wsX11_auction : List Cond := .code yX11_auction cX11_auction 3 (some .int) :: ([.constantLong RX11 191 (240), .fieldLink RX11 97 "TributePitchesModel" "sold" "I", .fieldLink RX11 196 "TributePitchesModel" "latest" "I", .fieldLink RX11 199 "TributePitchesModel" "bids" "I", .fieldLink RX11 202 "TributePitchesModel" "bidder" "I", .methodLink RX11 178 yX11_noPitch, .instanceMethod yX11_noPitch, .selects RX11 yX11_noPitch yX11_noPitch, .initialized RX11, .code yX11_noPitch cX11_noPitch 2 (some .boolean), .fieldLink RX11 170 "TributePitchesModel" "pitches" "I", .methodLink RX11 111 yX11_in, .static yX11_in, .code yX11_in cX11_in 6 (some .boolean), .methodLink RX11 193 yX11_takeOf, .instanceMethod yX11_takeOf, .selects RX11 yX11_takeOf yX11_takeOf, .code yX11_takeOf cX11_takeOf 3 (some .int), .fieldLink RX11 188 "TributePitchesModel" "takes" "I", .fieldLink RX11 59 "TributePitchesModel" "pitchOf" "[I", .fieldLink RX11 65 "TributePitchesModel" "isSettled" "[Z"] ++ wsX110)
def wsX11_letTo : List Cond := .code yX11_letTo cX11_letTo 4 (some .int) :: ([.fieldLink RX11 188 "TributePitchesModel" "takes" "I", .fieldLink RX11 56 "TributePitchesModel" "gangOf" "[I", .fieldLink RX11 65 "TributePitchesModel" "isSettled" "[Z"] ++ wsX110)
def wsX11_bid : List Cond := .code yX11_bid cX11_bid 3 (some .int) :: ([.fieldLink RX11 97 "TributePitchesModel" "sold" "I", .fieldLink RX11 199 "TributePitchesModel" "bids" "I", .fieldLink RX11 196 "TributePitchesModel" "latest" "I", .fieldLink RX11 202 "TributePitchesModel" "bidder" "I", .methodLink RX11 205 yX11_noGang, .instanceMethod yX11_noGang, .selects RX11 yX11_noGang yX11_noGang, .initialized RX11, .code yX11_noGang cX11_noGang 2 (some .boolean), .fieldLink RX11 185 "TributePitchesModel" "gangs" "I", .methodLink RX11 111 yX11_in, .static yX11_in, .code yX11_in cX11_in 6 (some .boolean), .methodLink RX11 208 yX11_letTo, .instanceMethod yX11_letTo, .selects RX11 yX11_letTo yX11_letTo, .code yX11_letTo cX11_letTo 4 (some .int), .fieldLink RX11 188 "TributePitchesModel" "takes" "I", .fieldLink RX11 56 "TributePitchesModel" "gangOf" "[I", .fieldLink RX11 65 "TributePitchesModel" "isSettled" "[Z"] ++ wsX110)
def wsX11_strike_r1 : List Cond := [Cond.fieldLink RX11 97 "TributePitchesModel" "sold" "I", Cond.fieldLink RX11 199 "TributePitchesModel" "bids" "I", Cond.fieldLink RX11 188 "TributePitchesModel" "takes" "I", Cond.fieldLink RX11 56 "TributePitchesModel" "gangOf" "[I", Cond.fieldLink RX11 202 "TributePitchesModel" "bidder" "I", Cond.fieldLink RX11 59 "TributePitchesModel" "pitchOf" "[I", Cond.fieldLink RX11 62 "TributePitchesModel" "shareOf" "[I", Cond.fieldLink RX11 196 "TributePitchesModel" "latest" "I", Cond.fieldLink RX11 69 "TributePitchesModel" "least" "[J", Cond.fieldLink RX11 72 "TributePitchesModel" "greatest" "[J", Cond.methodLink RX11 181 yX11_foretoldOf, Cond.instanceMethod yX11_foretoldOf, Cond.selects RX11 yX11_foretoldOf yX11_foretoldOf, Cond.initialized RX11, Cond.code yX11_foretoldOf cX11_foretoldOf 6 (some .long), Cond.fieldLink RX11 7 "TributePitchesModel" "low" "[I", Cond.fieldLink RX11 13 "TributePitchesModel" "high" "[I", Cond.fieldLink RX11 46 "TributePitchesModel" "tonsOf" "[I", Cond.methodLink RX11 175 yX11_isOn, Cond.instanceMethod yX11_isOn, Cond.selects RX11 yX11_isOn yX11_isOn, Cond.code yX11_isOn cX11_isOn 3 (some .boolean), Cond.fieldLink RX11 34 "TributePitchesModel" "fromX" "[I", Cond.fieldLink RX11 40 "TributePitchesModel" "toX" "[I"]
def wsX11_strike_r2 : List Cond := [Cond.fieldLink RX11 37 "TributePitchesModel" "fromY" "[I", Cond.fieldLink RX11 43 "TributePitchesModel" "toY" "[I", Cond.methodLink RX11 111 yX11_in, Cond.static yX11_in, Cond.code yX11_in cX11_in 6 (some .boolean)]
def wsX11_strike : List Cond := .code yX11_strike cX11_strike 1 (some .int) :: ((wsX11_strike_r1 ++ wsX11_strike_r2) ++ wsX110)
def wsX11_takesOn : List Cond := .code yX11_takesOn cX11_takesOn 4 (some .int) :: ([.fieldLink RX11 188 "TributePitchesModel" "takes" "I", .fieldLink RX11 59 "TributePitchesModel" "pitchOf" "[I"] ++ wsX110)
def wsX11_about_r1 : List Cond := [Cond.fieldLink RX11 34 "TributePitchesModel" "fromX" "[I", Cond.fieldLink RX11 37 "TributePitchesModel" "fromY" "[I", Cond.fieldLink RX11 40 "TributePitchesModel" "toX" "[I", Cond.fieldLink RX11 43 "TributePitchesModel" "toY" "[I", Cond.fieldLink RX11 46 "TributePitchesModel" "tonsOf" "[I", Cond.methodLink RX11 178 yX11_noPitch, Cond.instanceMethod yX11_noPitch, Cond.selects RX11 yX11_noPitch yX11_noPitch, Cond.initialized RX11, Cond.code yX11_noPitch cX11_noPitch 2 (some .boolean), Cond.fieldLink RX11 170 "TributePitchesModel" "pitches" "I", Cond.methodLink RX11 111 yX11_in, Cond.static yX11_in, Cond.code yX11_in cX11_in 6 (some .boolean), Cond.methodLink RX11 193 yX11_takeOf, Cond.instanceMethod yX11_takeOf, Cond.selects RX11 yX11_takeOf yX11_takeOf, Cond.code yX11_takeOf cX11_takeOf 3 (some .int), Cond.fieldLink RX11 188 "TributePitchesModel" "takes" "I", Cond.fieldLink RX11 59 "TributePitchesModel" "pitchOf" "[I", Cond.fieldLink RX11 65 "TributePitchesModel" "isSettled" "[Z", Cond.methodLink RX11 211 yX11_takesOn, Cond.instanceMethod yX11_takesOn, Cond.selects RX11 yX11_takesOn yX11_takesOn]
def wsX11_about_r2 : List Cond := [Cond.code yX11_takesOn cX11_takesOn 4 (some .int)]
def wsX11_about : List Cond := .code yX11_about cX11_about 3 (some .int) :: ((wsX11_about_r1 ++ wsX11_about_r2) ++ wsX110)
def wsX11_noTake : List Cond := .code yX11_noTake cX11_noTake 2 (some .boolean) :: ([.fieldLink RX11 188 "TributePitchesModel" "takes" "I", .methodLink RX11 111 yX11_in, .static yX11_in, .initialized RX11, .code yX11_in cX11_in 6 (some .boolean)] ++ wsX110)
def wsX11_parcel : List Cond := .code yX11_parcel cX11_parcel 4 (some .int) :: ([.constantLong RX11 133 (1000), .fieldLink RX11 65 "TributePitchesModel" "isSettled" "[Z", .fieldLink RX11 217 "TributePitchesModel" "parcels" "I", .fieldLink RX11 84 "TributePitchesModel" "parcelTake" "[I", .fieldLink RX11 87 "TributePitchesModel" "parcelTons" "[I", .fieldLink RX11 90 "TributePitchesModel" "parcelGood" "[I", .methodLink RX11 214 yX11_noTake, .instanceMethod yX11_noTake, .selects RX11 yX11_noTake yX11_noTake, .initialized RX11, .code yX11_noTake cX11_noTake 2 (some .boolean), .fieldLink RX11 188 "TributePitchesModel" "takes" "I", .methodLink RX11 111 yX11_in, .static yX11_in, .code yX11_in cX11_in 6 (some .boolean)] ++ wsX110)
def wsX11_spend : List Cond := .code yX11_spend cX11_spend 4 (some .long) :: ([.constantLong RX11 220 (100000), .fieldLink RX11 65 "TributePitchesModel" "isSettled" "[Z", .fieldLink RX11 75 "TributePitchesModel" "costs" "[J", .fieldLink RX11 78 "TributePitchesModel" "ahead" "[J", .methodLink RX11 214 yX11_noTake, .instanceMethod yX11_noTake, .selects RX11 yX11_noTake yX11_noTake, .initialized RX11, .code yX11_noTake cX11_noTake 2 (some .boolean), .fieldLink RX11 188 "TributePitchesModel" "takes" "I", .methodLink RX11 111 yX11_in, .static yX11_in, .code yX11_in cX11_in 6 (some .boolean), .methodLink RX11 105 yX11_lost, .static yX11_lost, .code yX11_lost cX11_lost 0 (some .long), .constantLong RX11 100 (-9223372036854775808)] ++ wsX110)
def wsX11_worthOf : List Cond := .code yX11_worthOf cX11_worthOf 5 (some .long) :: ([.fieldLink RX11 217 "TributePitchesModel" "parcels" "I", .fieldLink RX11 84 "TributePitchesModel" "parcelTake" "[I", .fieldLink RX11 87 "TributePitchesModel" "parcelTons" "[I", .fieldLink RX11 90 "TributePitchesModel" "parcelGood" "[I"] ++ wsX110)
def wsX11_settle_r1 : List Cond := [Cond.fieldLink RX11 65 "TributePitchesModel" "isSettled" "[Z", Cond.fieldLink RX11 56 "TributePitchesModel" "gangOf" "[I", Cond.fieldLink RX11 49 "TributePitchesModel" "sort" "[I", Cond.fieldLink RX11 52 "TributePitchesModel" "debt" "[J", Cond.constantLong RX11 151 (2), Cond.fieldLink RX11 62 "TributePitchesModel" "shareOf" "[I", Cond.constantLong RX11 191 (240), Cond.fieldLink RX11 75 "TributePitchesModel" "costs" "[J", Cond.fieldLink RX11 78 "TributePitchesModel" "ahead" "[J", Cond.fieldLink RX11 81 "TributePitchesModel" "pay" "[J", Cond.methodLink RX11 214 yX11_noTake, Cond.instanceMethod yX11_noTake, Cond.selects RX11 yX11_noTake yX11_noTake, Cond.initialized RX11, Cond.code yX11_noTake cX11_noTake 2 (some .boolean), Cond.fieldLink RX11 188 "TributePitchesModel" "takes" "I", Cond.methodLink RX11 111 yX11_in, Cond.static yX11_in, Cond.code yX11_in cX11_in 6 (some .boolean), Cond.methodLink RX11 105 yX11_lost, Cond.static yX11_lost, Cond.code yX11_lost cX11_lost 0 (some .long), Cond.constantLong RX11 100 (-9223372036854775808), Cond.methodLink RX11 222 yX11_worthOf]
def wsX11_settle_r2 : List Cond := [Cond.instanceMethod yX11_worthOf, Cond.selects RX11 yX11_worthOf yX11_worthOf, Cond.code yX11_worthOf cX11_worthOf 5 (some .long), Cond.fieldLink RX11 217 "TributePitchesModel" "parcels" "I", Cond.fieldLink RX11 84 "TributePitchesModel" "parcelTake" "[I", Cond.fieldLink RX11 87 "TributePitchesModel" "parcelTons" "[I", Cond.fieldLink RX11 90 "TributePitchesModel" "parcelGood" "[I"]
def wsX11_settle : List Cond := .code yX11_settle cX11_settle 7 (some .long) :: ((wsX11_settle_r1 ++ wsX11_settle_r2) ++ wsX110)
def wsX11_parcelsOf : List Cond := .code yX11_parcelsOf cX11_parcelsOf 4 (some .int) :: ([.fieldLink RX11 217 "TributePitchesModel" "parcels" "I", .fieldLink RX11 84 "TributePitchesModel" "parcelTake" "[I"] ++ wsX110)
def wsX11_taken : List Cond := .code yX11_taken cX11_taken 3 (some .int) :: ([.fieldLink RX11 56 "TributePitchesModel" "gangOf" "[I", .fieldLink RX11 59 "TributePitchesModel" "pitchOf" "[I", .fieldLink RX11 62 "TributePitchesModel" "shareOf" "[I", .fieldLink RX11 65 "TributePitchesModel" "isSettled" "[Z", .methodLink RX11 214 yX11_noTake, .instanceMethod yX11_noTake, .selects RX11 yX11_noTake yX11_noTake, .initialized RX11, .code yX11_noTake cX11_noTake 2 (some .boolean), .fieldLink RX11 188 "TributePitchesModel" "takes" "I", .methodLink RX11 111 yX11_in, .static yX11_in, .code yX11_in cX11_in 6 (some .boolean), .methodLink RX11 225 yX11_parcelsOf, .instanceMethod yX11_parcelsOf, .selects RX11 yX11_parcelsOf yX11_parcelsOf, .code yX11_parcelsOf cX11_parcelsOf 4 (some .int), .fieldLink RX11 217 "TributePitchesModel" "parcels" "I", .fieldLink RX11 84 "TributePitchesModel" "parcelTake" "[I"] ++ wsX110)
def wsX11_money_r1 : List Cond := [Cond.fieldLink RX11 75 "TributePitchesModel" "costs" "[J", Cond.fieldLink RX11 78 "TributePitchesModel" "ahead" "[J", Cond.fieldLink RX11 81 "TributePitchesModel" "pay" "[J", Cond.fieldLink RX11 69 "TributePitchesModel" "least" "[J", Cond.fieldLink RX11 72 "TributePitchesModel" "greatest" "[J", Cond.methodLink RX11 214 yX11_noTake, Cond.instanceMethod yX11_noTake, Cond.selects RX11 yX11_noTake yX11_noTake, Cond.initialized RX11, Cond.code yX11_noTake cX11_noTake 2 (some .boolean), Cond.fieldLink RX11 188 "TributePitchesModel" "takes" "I", Cond.methodLink RX11 111 yX11_in, Cond.static yX11_in, Cond.code yX11_in cX11_in 6 (some .boolean), Cond.methodLink RX11 105 yX11_lost, Cond.static yX11_lost, Cond.code yX11_lost cX11_lost 0 (some .long), Cond.constantLong RX11 100 (-9223372036854775808), Cond.methodLink RX11 222 yX11_worthOf, Cond.instanceMethod yX11_worthOf, Cond.selects RX11 yX11_worthOf yX11_worthOf, Cond.code yX11_worthOf cX11_worthOf 5 (some .long), Cond.fieldLink RX11 217 "TributePitchesModel" "parcels" "I", Cond.fieldLink RX11 84 "TributePitchesModel" "parcelTake" "[I"]
def wsX11_money_r2 : List Cond := [Cond.fieldLink RX11 87 "TributePitchesModel" "parcelTons" "[I", Cond.fieldLink RX11 90 "TributePitchesModel" "parcelGood" "[I"]
def wsX11_money : List Cond := .code yX11_money cX11_money 3 (some .long) :: ((wsX11_money_r1 ++ wsX11_money_r2) ++ wsX110)
def wsX11_debt : List Cond := .code yX11_debt cX11_debt 2 (some .long) :: ([.fieldLink RX11 52 "TributePitchesModel" "debt" "[J", .methodLink RX11 205 yX11_noGang, .instanceMethod yX11_noGang, .selects RX11 yX11_noGang yX11_noGang, .initialized RX11, .code yX11_noGang cX11_noGang 2 (some .boolean), .fieldLink RX11 185 "TributePitchesModel" "gangs" "I", .methodLink RX11 111 yX11_in, .static yX11_in, .code yX11_in cX11_in 6 (some .boolean), .methodLink RX11 105 yX11_lost, .static yX11_lost, .code yX11_lost cX11_lost 0 (some .long), .constantLong RX11 100 (-9223372036854775808)] ++ wsX110)
def wsX11_isSuspect : List Cond := .code yX11_isSuspect cX11_isSuspect 5 (some .boolean) :: ([.fieldLink RX11 59 "TributePitchesModel" "pitchOf" "[I", .fieldLink RX11 84 "TributePitchesModel" "parcelTake" "[I", .fieldLink RX11 13 "TributePitchesModel" "high" "[I", .fieldLink RX11 90 "TributePitchesModel" "parcelGood" "[I", .methodLink RX11 175 yX11_isOn, .instanceMethod yX11_isOn, .selects RX11 yX11_isOn yX11_isOn, .initialized RX11, .code yX11_isOn cX11_isOn 3 (some .boolean), .fieldLink RX11 34 "TributePitchesModel" "fromX" "[I", .fieldLink RX11 40 "TributePitchesModel" "toX" "[I", .fieldLink RX11 37 "TributePitchesModel" "fromY" "[I", .fieldLink RX11 43 "TributePitchesModel" "toY" "[I", .methodLink RX11 111 yX11_in, .static yX11_in, .code yX11_in cX11_in 6 (some .boolean)] ++ wsX110)
def wsX11_suspects : List Cond := .code yX11_suspects cX11_suspects 3 (some .int) :: ([.fieldLink RX11 217 "TributePitchesModel" "parcels" "I", .methodLink RX11 228 yX11_isSuspect, .instanceMethod yX11_isSuspect, .selects RX11 yX11_isSuspect yX11_isSuspect, .initialized RX11, .code yX11_isSuspect cX11_isSuspect 5 (some .boolean), .fieldLink RX11 59 "TributePitchesModel" "pitchOf" "[I", .fieldLink RX11 84 "TributePitchesModel" "parcelTake" "[I", .fieldLink RX11 13 "TributePitchesModel" "high" "[I", .fieldLink RX11 90 "TributePitchesModel" "parcelGood" "[I", .methodLink RX11 175 yX11_isOn, .instanceMethod yX11_isOn, .selects RX11 yX11_isOn yX11_isOn, .code yX11_isOn cX11_isOn 3 (some .boolean), .fieldLink RX11 34 "TributePitchesModel" "fromX" "[I", .fieldLink RX11 40 "TributePitchesModel" "toX" "[I", .fieldLink RX11 37 "TributePitchesModel" "fromY" "[I", .fieldLink RX11 43 "TributePitchesModel" "toY" "[I", .methodLink RX11 111 yX11_in, .static yX11_in, .code yX11_in cX11_in 6 (some .boolean)] ++ wsX110)
def wsX11_suspect : List Cond := .code yX11_suspect cX11_suspect 4 (some .int) :: ([.fieldLink RX11 217 "TributePitchesModel" "parcels" "I", .methodLink RX11 228 yX11_isSuspect, .instanceMethod yX11_isSuspect, .selects RX11 yX11_isSuspect yX11_isSuspect, .initialized RX11, .code yX11_isSuspect cX11_isSuspect 5 (some .boolean), .fieldLink RX11 59 "TributePitchesModel" "pitchOf" "[I", .fieldLink RX11 84 "TributePitchesModel" "parcelTake" "[I", .fieldLink RX11 13 "TributePitchesModel" "high" "[I", .fieldLink RX11 90 "TributePitchesModel" "parcelGood" "[I", .methodLink RX11 175 yX11_isOn, .instanceMethod yX11_isOn, .selects RX11 yX11_isOn yX11_isOn, .code yX11_isOn cX11_isOn 3 (some .boolean), .fieldLink RX11 34 "TributePitchesModel" "fromX" "[I", .fieldLink RX11 40 "TributePitchesModel" "toX" "[I", .fieldLink RX11 37 "TributePitchesModel" "fromY" "[I", .fieldLink RX11 43 "TributePitchesModel" "toY" "[I", .methodLink RX11 111 yX11_in, .static yX11_in, .code yX11_in cX11_in 6 (some .boolean)] ++ wsX110)
def wsX11_common : List Cond := .code yX11_common cX11_common 10 (some .long) :: ([])
def wsX11_skill_r1 : List Cond := [Cond.fieldLink RX11 188 "TributePitchesModel" "takes" "I", Cond.fieldLink RX11 69 "TributePitchesModel" "least" "[J", Cond.fieldLink RX11 72 "TributePitchesModel" "greatest" "[J", Cond.fieldLink RX11 56 "TributePitchesModel" "gangOf" "[I", Cond.fieldLink RX11 65 "TributePitchesModel" "isSettled" "[Z", Cond.constantLong RX11 151 (2), Cond.methodLink RX11 205 yX11_noGang, Cond.instanceMethod yX11_noGang, Cond.selects RX11 yX11_noGang yX11_noGang, Cond.initialized RX11, Cond.code yX11_noGang cX11_noGang 2 (some .boolean), Cond.fieldLink RX11 185 "TributePitchesModel" "gangs" "I", Cond.methodLink RX11 111 yX11_in, Cond.static yX11_in, Cond.code yX11_in cX11_in 6 (some .boolean), Cond.methodLink RX11 105 yX11_lost, Cond.static yX11_lost, Cond.code yX11_lost cX11_lost 0 (some .long), Cond.constantLong RX11 100 (-9223372036854775808), Cond.methodLink RX11 222 yX11_worthOf, Cond.instanceMethod yX11_worthOf, Cond.selects RX11 yX11_worthOf yX11_worthOf, Cond.code yX11_worthOf cX11_worthOf 5 (some .long), Cond.fieldLink RX11 217 "TributePitchesModel" "parcels" "I"]
def wsX11_skill_r2 : List Cond := [Cond.fieldLink RX11 84 "TributePitchesModel" "parcelTake" "[I", Cond.fieldLink RX11 87 "TributePitchesModel" "parcelTons" "[I", Cond.fieldLink RX11 90 "TributePitchesModel" "parcelGood" "[I", Cond.methodLink RX11 231 yX11_common, Cond.static yX11_common, Cond.code yX11_common cX11_common 10 (some .long)]
def wsX11_skill : List Cond := .code yX11_skill cX11_skill 10 (some .long) :: ((wsX11_skill_r1 ++ wsX11_skill_r2) ++ wsX110)
def wsX11_traced : List Cond := .code yX11_traced cX11_traced 2 none :: ([.fieldLink RX11 235 "TributePitchesModel" "trace" "I"] ++ wsX110)
def wsX11_takesBy : List Cond := .code yX11_takesBy cX11_takesBy 4 (some .int) :: ([.fieldLink RX11 188 "TributePitchesModel" "takes" "I", .fieldLink RX11 56 "TributePitchesModel" "gangOf" "[I"] ++ wsX110)
def wsX11_tell : List Cond := .code yX11_tell cX11_tell 2 (some .int) :: ([.fieldLink RX11 49 "TributePitchesModel" "sort" "[I", .methodLink RX11 205 yX11_noGang, .instanceMethod yX11_noGang, .selects RX11 yX11_noGang yX11_noGang, .initialized RX11, .code yX11_noGang cX11_noGang 2 (some .boolean), .fieldLink RX11 185 "TributePitchesModel" "gangs" "I", .methodLink RX11 111 yX11_in, .static yX11_in, .code yX11_in cX11_in 6 (some .boolean), .methodLink RX11 238 yX11_traced, .instanceMethod yX11_traced, .selects RX11 yX11_traced yX11_traced, .code yX11_traced cX11_traced 2 none, .fieldLink RX11 235 "TributePitchesModel" "trace" "I", .methodLink RX11 242 yX11_takesBy, .instanceMethod yX11_takesBy, .selects RX11 yX11_takesBy yX11_takesBy, .code yX11_takesBy cX11_takesBy 4 (some .int), .fieldLink RX11 188 "TributePitchesModel" "takes" "I", .fieldLink RX11 56 "TributePitchesModel" "gangOf" "[I"] ++ wsX110)
def wsX11_greet : List Cond := .code yX11_greet cX11_greet 2 (some .int) :: ([.fieldLink RX11 49 "TributePitchesModel" "sort" "[I", .methodLink RX11 205 yX11_noGang, .instanceMethod yX11_noGang, .selects RX11 yX11_noGang yX11_noGang, .initialized RX11, .code yX11_noGang cX11_noGang 2 (some .boolean), .fieldLink RX11 185 "TributePitchesModel" "gangs" "I", .methodLink RX11 111 yX11_in, .static yX11_in, .code yX11_in cX11_in 6 (some .boolean), .methodLink RX11 238 yX11_traced, .instanceMethod yX11_traced, .selects RX11 yX11_traced yX11_traced, .code yX11_traced cX11_traced 2 none, .fieldLink RX11 235 "TributePitchesModel" "trace" "I"] ++ wsX110)
def wsX11_as : List Cond := .code yX11_as cX11_as 3 (some .int) :: ([.constantLong RX11 151 (2), .fieldLink RX11 49 "TributePitchesModel" "sort" "[I", .methodLink RX11 205 yX11_noGang, .instanceMethod yX11_noGang, .selects RX11 yX11_noGang yX11_noGang, .initialized RX11, .code yX11_noGang cX11_noGang 2 (some .boolean), .fieldLink RX11 185 "TributePitchesModel" "gangs" "I", .methodLink RX11 111 yX11_in, .static yX11_in, .code yX11_in cX11_in 6 (some .boolean), .methodLink RX11 148 yX11_refused, .instanceMethod yX11_refused, .selects RX11 yX11_refused yX11_refused, .code yX11_refused cX11_refused 2 (some .int), .fieldLink RX11 102 "TributePitchesModel" "fault" "I", .methodLink RX11 153 yX11_failed, .instanceMethod yX11_failed, .selects RX11 yX11_failed yX11_failed, .code yX11_failed cX11_failed 2 (some .int)] ++ wsX110)
def wsX11_trace : List Cond := .code yX11_trace cX11_trace 1 (some .int) :: ([.fieldLink RX11 235 "TributePitchesModel" "trace" "I"] ++ wsX110)
def wsX11_fault : List Cond := .code yX11_fault cX11_fault 1 (some .int) :: ([.fieldLink RX11 102 "TributePitchesModel" "fault" "I"] ++ wsX110)
def wsX11_told : List Cond := .code yX11_told cX11_told 2 (some .int) :: ([.fieldLink RX11 170 "TributePitchesModel" "pitches" "I", .fieldLink RX11 185 "TributePitchesModel" "gangs" "I", .fieldLink RX11 188 "TributePitchesModel" "takes" "I", .fieldLink RX11 217 "TributePitchesModel" "parcels" "I", .fieldLink RX11 93 "TributePitchesModel" "far" "I", .fieldLink RX11 97 "TributePitchesModel" "sold" "I", .fieldLink RX11 199 "TributePitchesModel" "bids" "I", .fieldLink RX11 196 "TributePitchesModel" "latest" "I"] ++ wsX110)
def wsJ9_max_7cf53 : List Cond := .code yJ9_max_7cf53 cJ9_max_7cf53 2 (some .int) :: ([])
def wsJ9_max_f86c9 : List Cond := .code yJ9_max_f86c9 cJ9_max_f86c9 4 (some .long) :: ([])
def wsJ9_min_7cf53 : List Cond := .code yJ9_min_7cf53 cJ9_min_7cf53 2 (some .int) :: ([])
def wsL_law_r1 : List Cond := [Cond.classLink RL 7 RX10, Cond.instantiable RX10 13, Cond.initialized RX10, Cond.classLink RL 10 RX11, Cond.instantiable RX11 39, Cond.initialized RX11, Cond.methodLink RL 9 yX10_init, Cond.instanceMethod yX10_init, Cond.code yX10_init cX10_init 1 none, Cond.methodLink RX10 3 objectInit, Cond.instanceMethod objectInit, Cond.code objectInit ⟨#[0xb1]⟩ 1 none, Cond.classLink RX10 9 RX3, Cond.instantiable RX3 5, Cond.initialized RX3, Cond.fieldLink RX10 12 "TributePitches" "lode" "LTributePitches$Lode;", Cond.classLink RX10 18 RX6, Cond.fieldLink RX10 20 "TributePitches" "pitches" "[LTributePitches$Pitch;", Cond.classLink RX10 24 RX2, Cond.fieldLink RX10 26 "TributePitches" "gangs" "[LTributePitches$Gang;", Cond.classLink RX10 30 RX8, Cond.fieldLink RX10 32 "TributePitches" "takes" "[LTributePitches$Take;", Cond.classLink RX10 36 RX5, Cond.fieldLink RX10 38 "TributePitches" "parcels" "[LTributePitches$Parcel;"]
def wsL_law_r2 : List Cond := [Cond.classLink RX10 42 RX7, Cond.instantiable RX7 3, Cond.initialized RX7, Cond.fieldLink RX10 45 "TributePitches" "sheets" "[LTributePitches$Sheet;", Cond.classLink RX10 49 RX9, Cond.instantiable RX9 1, Cond.initialized RX9, Cond.fieldLink RX10 52 "TributePitches" "steps" "LTributePitches$Trace;", Cond.fieldLink RX10 56 "TributePitches" "latestFault" "I", Cond.methodLink RX10 11 yX3_init, Cond.instanceMethod yX3_init, Cond.code yX3_init cX3_init 1 none, Cond.methodLink RX3 5 objectInit, Cond.arrayClass .int, Cond.fieldLink RX3 11 "TributePitches$Lode" "lows" "[I", Cond.fieldLink RX3 15 "TributePitches$Lode" "highs" "[I", Cond.fieldLink RX3 18 "TributePitches$Lode" "triedLows" "[I", Cond.fieldLink RX3 21 "TributePitches$Lode" "triedHighs" "[I", Cond.fieldLink RX3 24 "TributePitches$Lode" "law" "I", Cond.methodLink RX3 28 yJ7_fill_53178, Cond.static yJ7_fill_53178, Cond.initialized RJ7, Cond.code yJ7_fill_53178 cJ7_fill_53178 4 none, Cond.instanceMethod yX7_init]
def wsL_law_r3 : List Cond := [Cond.code yX7_init cX7_init 1 none, Cond.methodLink RX7 3 objectInit, Cond.fieldLink RX7 11 "TributePitches$Sheet" "cells" "[I", Cond.fieldLink RX7 15 "TributePitches$Sheet" "lane" "I", Cond.instanceMethod yX9_init, Cond.code yX9_init cX9_init 1 none, Cond.methodLink RX9 1 objectInit, Cond.methodLink RL 12 yX11_init, Cond.instanceMethod yX11_init, Cond.code yX11_init cX11_init 2 none, Cond.methodLink RX11 1 objectInit, Cond.fieldLink RX11 7 "TributePitchesModel" "low" "[I", Cond.fieldLink RX11 13 "TributePitchesModel" "high" "[I", Cond.fieldLink RX11 16 "TributePitchesModel" "newLow" "[I", Cond.fieldLink RX11 19 "TributePitchesModel" "newHigh" "[I", Cond.fieldLink RX11 22 "TributePitchesModel" "sheetSize" "[I", Cond.fieldLink RX11 25 "TributePitchesModel" "sheetLane" "[I", Cond.fieldLink RX11 28 "TributePitchesModel" "sheet" "[I", Cond.fieldLink RX11 31 "TributePitchesModel" "hands" "[I", Cond.fieldLink RX11 34 "TributePitchesModel" "fromX" "[I", Cond.fieldLink RX11 37 "TributePitchesModel" "fromY" "[I", Cond.fieldLink RX11 40 "TributePitchesModel" "toX" "[I", Cond.fieldLink RX11 43 "TributePitchesModel" "toY" "[I", Cond.fieldLink RX11 46 "TributePitchesModel" "tonsOf" "[I"]
def wsL_law_r4 : List Cond := [Cond.fieldLink RX11 49 "TributePitchesModel" "sort" "[I", Cond.arrayClass .long, Cond.fieldLink RX11 52 "TributePitchesModel" "debt" "[J", Cond.fieldLink RX11 56 "TributePitchesModel" "gangOf" "[I", Cond.fieldLink RX11 59 "TributePitchesModel" "pitchOf" "[I", Cond.fieldLink RX11 62 "TributePitchesModel" "shareOf" "[I", Cond.arrayClass .boolean, Cond.fieldLink RX11 65 "TributePitchesModel" "isSettled" "[Z", Cond.fieldLink RX11 69 "TributePitchesModel" "least" "[J", Cond.fieldLink RX11 72 "TributePitchesModel" "greatest" "[J", Cond.fieldLink RX11 75 "TributePitchesModel" "costs" "[J", Cond.fieldLink RX11 78 "TributePitchesModel" "ahead" "[J", Cond.fieldLink RX11 81 "TributePitchesModel" "pay" "[J", Cond.fieldLink RX11 84 "TributePitchesModel" "parcelTake" "[I", Cond.fieldLink RX11 87 "TributePitchesModel" "parcelTons" "[I", Cond.fieldLink RX11 90 "TributePitchesModel" "parcelGood" "[I", Cond.fieldLink RX11 93 "TributePitchesModel" "far" "I", Cond.fieldLink RX11 97 "TributePitchesModel" "sold" "I", Cond.methodLink RL 13 yX10_find, Cond.instanceMethod yX10_find, Cond.selects RX10 yX10_find yX10_find, Cond.code yX10_find cX10_find 5 (some .int), Cond.fieldLink RX10 79 "TributePitches$Lode" "law" "I", Cond.methodLink RX10 60 yX3_hasSquare]
def wsL_law_r5 : List Cond := [Cond.static yX3_hasSquare, Cond.code yX3_hasSquare cX3_hasSquare 2 (some .boolean), Cond.static yX10_isWithin, Cond.code yX10_isWithin cX10_isWithin 3 (some .boolean), Cond.methodLink RX10 64 yX10_isWithin, Cond.methodLink RX10 68 yX3_beginTrial, Cond.instanceMethod yX3_beginTrial, Cond.selects RX3 yX3_beginTrial yX3_beginTrial, Cond.code yX3_beginTrial cX3_beginTrial 1 none, Cond.methodLink RX3 38 arraycopyName, Cond.native arraycopyName, Cond.static arraycopyName, Cond.initialized "java/lang/System", Cond.methodLink RX10 71 yX3_numberOf, Cond.static yX3_numberOf, Cond.code yX3_numberOf cX3_numberOf 2 (some .int), Cond.methodLink RX10 75 yX3_tryCommon, Cond.instanceMethod yX3_tryCommon, Cond.selects RX3 yX3_tryCommon yX3_tryCommon, Cond.code yX3_tryCommon cX3_tryCommon 4 none, Cond.methodLink RX3 44 Lib.Math.max.name, Cond.static Lib.Math.max.name, Cond.initialized "java/lang/Math", Cond.code Lib.Math.max.name Lib.Math.max.code 2 (some .int)]
def wsL_law_r6 : List Cond := [Cond.methodLink RX3 50 Lib.Math.min.name, Cond.static Lib.Math.min.name, Cond.code Lib.Math.min.name Lib.Math.min.code 2 (some .int), Cond.methodLink RX10 82 yX3_endTrial, Cond.instanceMethod yX3_endTrial, Cond.selects RX3 yX3_endTrial yX3_endTrial, Cond.code yX3_endTrial cX3_endTrial 4 (some .int), Cond.methodLink RX3 53 yX3_narrowTrial, Cond.instanceMethod yX3_narrowTrial, Cond.selects RX3 yX3_narrowTrial yX3_narrowTrial, Cond.code yX3_narrowTrial cX3_narrowTrial 3 none, Cond.methodLink RX3 57 yX3_tryNeighbour, Cond.instanceMethod yX3_tryNeighbour, Cond.selects RX3 yX3_tryNeighbour yX3_tryNeighbour, Cond.code yX3_tryNeighbour cX3_tryNeighbour 4 none, Cond.methodLink RX3 61 yX3_tryCommon, Cond.methodLink RL 17 yX11_find, Cond.instanceMethod yX11_find, Cond.selects RX11 yX11_find yX11_find, Cond.code yX11_find cX11_find 5 (some .int), Cond.constantLong RX11 133 (1000), Cond.methodLink RX11 121 yX11_isSquare, Cond.static yX11_isSquare, Cond.code yX11_isSquare cX11_isSquare 2 (some .boolean)]
def wsL_law_r7 : List Cond := [Cond.constantLong RX11 109 (7), Cond.constantLong RX11 115 (5), Cond.methodLink RX11 111 yX11_in, Cond.static yX11_in, Cond.code yX11_in cX11_in 6 (some .boolean), Cond.methodLink RX11 135 yX11_layNew, Cond.instanceMethod yX11_layNew, Cond.selects RX11 yX11_layNew yX11_layNew, Cond.code yX11_layNew cX11_layNew 2 none, Cond.methodLink RX11 125 yX11_meet, Cond.instanceMethod yX11_meet, Cond.selects RX11 yX11_meet yX11_meet, Cond.code yX11_meet cX11_meet 4 none, Cond.fieldLink RX11 117 "TributePitchesModel" "isChanged" "Z", Cond.methodLink RX11 138 yX11_narrowed, Cond.instanceMethod yX11_narrowed, Cond.selects RX11 yX11_narrowed yX11_narrowed, Cond.code yX11_narrowed cX11_narrowed 4 (some .int), Cond.methodLink RX11 129 yX11_meetNeighbour, Cond.instanceMethod yX11_meetNeighbour, Cond.selects RX11 yX11_meetNeighbour yX11_meetNeighbour, Cond.code yX11_meetNeighbour cX11_meetNeighbour 5 none, Cond.methodLink RL 18 yX10_rise, Cond.instanceMethod yX10_rise]
def wsL_law_r8 : List Cond := [Cond.selects RX10 yX10_rise yX10_rise, Cond.code yX10_rise cX10_rise 2 (some .int), Cond.methodLink RL 22 yX11_rise, Cond.instanceMethod yX11_rise, Cond.selects RX11 yX11_rise yX11_rise, Cond.code yX11_rise cX11_rise 2 (some .int), Cond.methodLink RL 23 yX10_good, Cond.instanceMethod yX10_good, Cond.selects RX10 yX10_good yX10_good, Cond.code yX10_good cX10_good 5 (some .int), Cond.fieldLink RX10 86 "TributePitches$Lode" "lows" "[I", Cond.fieldLink RX10 90 "TributePitches$Lode" "highs" "[I", Cond.methodLink RL 27 yX11_good, Cond.instanceMethod yX11_good, Cond.selects RX11 yX11_good yX11_good, Cond.code yX11_good cX11_good 4 (some .int), Cond.methodLink RL 28 yX10_chart, Cond.instanceMethod yX10_chart, Cond.selects RX10 yX10_chart yX10_chart, Cond.code yX10_chart cX10_chart 10 (some .int), Cond.fieldLink RX10 111 "TributePitches$Sheet" "cells" "[I", Cond.methodLink RX10 93 yX10_sheetAt, Cond.instanceMethod yX10_sheetAt, Cond.selects RX10 yX10_sheetAt yX10_sheetAt]
def wsL_law_r9 : List Cond := [Cond.code yX10_sheetAt cX10_sheetAt 2 (some (.object "TributePitches$Sheet")), Cond.methodLink RX10 97 yX7_isLane, Cond.static yX7_isLane, Cond.code yX7_isLane cX7_isLane 1 (some .boolean), Cond.methodLink RX10 101 yX10_chartFault, Cond.static yX10_chartFault, Cond.code yX10_chartFault cX10_chartFault 6 (some .int), Cond.methodLink RX10 114 yX7_faultAs, Cond.instanceMethod yX7_faultAs, Cond.selects RX7 yX7_faultAs yX7_faultAs, Cond.code yX7_faultAs cX7_faultAs 2 (some .int), Cond.methodLink RX7 32 yX7_hasNothing, Cond.instanceMethod yX7_hasNothing, Cond.selects RX7 yX7_hasNothing yX7_hasNothing, Cond.code yX7_hasNothing cX7_hasNothing 1 (some .boolean), Cond.methodLink RX10 117 yX7_holds, Cond.instanceMethod yX7_holds, Cond.selects RX7 yX7_holds yX7_holds, Cond.code yX7_holds cX7_holds 3 (some .boolean), Cond.fieldLink RX7 29 "TributePitches$Sheet" "length" "I", Cond.methodLink RX10 105 yX10_faulted, Cond.instanceMethod yX10_faulted, Cond.selects RX10 yX10_faulted yX10_faulted, Cond.code yX10_faulted cX10_faulted 2 (some .int)]
def wsL_law_r10 : List Cond := [Cond.methodLink RX10 108 yX7_hasAbove, Cond.instanceMethod yX7_hasAbove, Cond.selects RX7 yX7_hasAbove yX7_hasAbove, Cond.code yX7_hasAbove cX7_hasAbove 5 (some .boolean), Cond.methodLink RL 32 yX11_chart, Cond.instanceMethod yX11_chart, Cond.selects RX11 yX11_chart yX11_chart, Cond.code yX11_chart cX11_chart 8 (some .int), Cond.constantLong RX11 168 (47), Cond.constantLong RX11 151 (2), Cond.methodLink RX11 144 yX11_noSheet, Cond.static yX11_noSheet, Cond.code yX11_noSheet cX11_noSheet 1 (some .boolean), Cond.constantLong RX11 142 (3), Cond.methodLink RX11 148 yX11_refused, Cond.instanceMethod yX11_refused, Cond.selects RX11 yX11_refused yX11_refused, Cond.code yX11_refused cX11_refused 2 (some .int), Cond.fieldLink RX11 102 "TributePitchesModel" "fault" "I", Cond.methodLink RX11 153 yX11_failed, Cond.instanceMethod yX11_failed, Cond.selects RX11 yX11_failed yX11_failed, Cond.code yX11_failed cX11_failed 2 (some .int), Cond.methodLink RX11 164 yX11_isBeyond]
def wsL_law_r11 : List Cond := [Cond.static yX11_isBeyond, Cond.code yX11_isBeyond cX11_isBeyond 3 (some .boolean), Cond.methodLink RL 33 yX10_pitch, Cond.instanceMethod yX10_pitch, Cond.selects RX10 yX10_pitch yX10_pitch, Cond.code yX10_pitch cX10_pitch 6 (some .int), Cond.fieldLink RX10 124 "TributePitches" "pitchCount" "I", Cond.instantiable RX6 8, Cond.initialized RX6, Cond.methodLink RX10 120 yX10_isAnyPitched, Cond.instanceMethod yX10_isAnyPitched, Cond.selects RX10 yX10_isAnyPitched yX10_isAnyPitched, Cond.code yX10_isAnyPitched cX10_isAnyPitched 6 (some .boolean), Cond.methodLink RX10 130 yX6_meets, Cond.instanceMethod yX6_meets, Cond.selects RX6 yX6_meets yX6_meets, Cond.code yX6_meets cX6_meets 5 (some .boolean), Cond.fieldLink RX6 13 "TributePitches$Pitch" "x" "I", Cond.fieldLink RX6 19 "TributePitches$Pitch" "x2" "I", Cond.fieldLink RX6 16 "TributePitches$Pitch" "y" "I", Cond.fieldLink RX6 22 "TributePitches$Pitch" "y2" "I", Cond.methodLink RX10 127 yX6_init, Cond.instanceMethod yX6_init, Cond.code yX6_init cX6_init 7 none]
def wsL_law_r12 : List Cond := [Cond.methodLink RX6 1 objectInit, Cond.fieldLink RX6 7 "TributePitches$Pitch" "number" "I", Cond.fieldLink RX6 25 "TributePitches$Pitch" "tons" "I", Cond.methodLink RL 36 yX11_pitch, Cond.instanceMethod yX11_pitch, Cond.selects RX11 yX11_pitch yX11_pitch, Cond.code yX11_pitch cX11_pitch 7 (some .int), Cond.constantLong RX11 173 (100), Cond.fieldLink RX11 170 "TributePitchesModel" "pitches" "I", Cond.methodLink RL 37 yX10_foretold, Cond.instanceMethod yX10_foretold, Cond.selects RX10 yX10_foretold yX10_foretold, Cond.code yX10_foretold cX10_foretold 4 (some .long), Cond.constantLong RX10 137 (-9223372036854775808), Cond.methodLink RX10 133 yX10_pitchAt, Cond.instanceMethod yX10_pitchAt, Cond.selects RX10 yX10_pitchAt yX10_pitchAt, Cond.code yX10_pitchAt cX10_pitchAt 2 (some (.object "TributePitches$Pitch")), Cond.methodLink RX10 139 yX6_foretoldBy, Cond.instanceMethod yX6_foretoldBy, Cond.selects RX6 yX6_foretoldBy yX6_foretoldBy, Cond.code yX6_foretoldBy cX6_foretoldBy 6 (some .long), Cond.methodLink RX6 28 yX3_numberOf, Cond.methodLink RL 41 yX11_foretold]
def wsL_law_r13 : List Cond := [Cond.instanceMethod yX11_foretold, Cond.selects RX11 yX11_foretold yX11_foretold, Cond.code yX11_foretold cX11_foretold 3 (some .long), Cond.methodLink RX11 178 yX11_noPitch, Cond.instanceMethod yX11_noPitch, Cond.selects RX11 yX11_noPitch yX11_noPitch, Cond.code yX11_noPitch cX11_noPitch 2 (some .boolean), Cond.methodLink RX11 105 yX11_lost, Cond.static yX11_lost, Cond.code yX11_lost cX11_lost 0 (some .long), Cond.constantLong RX11 100 (-9223372036854775808), Cond.methodLink RX11 181 yX11_foretoldOf, Cond.instanceMethod yX11_foretoldOf, Cond.selects RX11 yX11_foretoldOf yX11_foretoldOf, Cond.code yX11_foretoldOf cX11_foretoldOf 6 (some .long), Cond.methodLink RX11 175 yX11_isOn, Cond.instanceMethod yX11_isOn, Cond.selects RX11 yX11_isOn yX11_isOn, Cond.code yX11_isOn cX11_isOn 3 (some .boolean), Cond.methodLink RL 42 yX10_gang, Cond.instanceMethod yX10_gang, Cond.selects RX10 yX10_gang yX10_gang, Cond.code yX10_gang cX10_gang 2 (some .int), Cond.fieldLink RX10 143 "TributePitches" "gangCount" "I"]
def wsL_law_r14 : List Cond := [Cond.methodLink RX10 146 yX10_newGang, Cond.static yX10_newGang, Cond.code yX10_newGang cX10_newGang 2 (some (.object "TributePitches$Gang")), Cond.classLink RX10 150 RX4, Cond.instantiable RX4 4, Cond.initialized RX4, Cond.classLink RX10 155 RX1, Cond.instantiable RX1 4, Cond.initialized RX1, Cond.instantiable RX2 4, Cond.initialized RX2, Cond.methodLink RX10 152 yX4_init, Cond.instanceMethod yX4_init, Cond.code yX4_init cX4_init 2 none, Cond.methodLink RX4 1 yX1_init, Cond.instanceMethod yX1_init, Cond.code yX1_init cX1_init 2 none, Cond.methodLink RX1 1 yX2_init, Cond.instanceMethod yX2_init, Cond.code yX2_init cX2_init 2 none, Cond.methodLink RX2 3 objectInit, Cond.fieldLink RX2 9 "TributePitches$Gang" "number" "I", Cond.methodLink RX10 157 yX1_init, Cond.methodLink RX10 158 yX2_init]
def wsL_law_r15 : List Cond := [Cond.methodLink RL 45 yX11_gang, Cond.instanceMethod yX11_gang, Cond.selects RX11 yX11_gang yX11_gang, Cond.code yX11_gang cX11_gang 2 (some .int), Cond.fieldLink RX11 185 "TributePitchesModel" "gangs" "I", Cond.methodLink RL 46 yX10_auction, Cond.instanceMethod yX10_auction, Cond.selects RX10 yX10_auction yX10_auction, Cond.code yX10_auction cX10_auction 4 (some .int), Cond.fieldLink RX10 159 "TributePitches$Pitch" "take" "LTributePitches$Take;", Cond.fieldLink RX10 163 "TributePitches" "current" "LTributePitches$Auction;", Cond.classLink RX10 167 RX0, Cond.instantiable RX0 4, Cond.initialized RX0, Cond.methodLink RX10 169 yX0_init, Cond.instanceMethod yX0_init, Cond.code yX0_init cX0_init 3 none, Cond.methodLink RX0 1 objectInit, Cond.fieldLink RX0 7 "TributePitches$Auction" "pitch" "LTributePitches$Pitch;", Cond.fieldLink RX0 13 "TributePitches$Auction" "share" "I", Cond.methodLink RL 50 yX11_auction, Cond.instanceMethod yX11_auction, Cond.selects RX11 yX11_auction yX11_auction, Cond.code yX11_auction cX11_auction 3 (some .int)]
def wsL_law_r16 : List Cond := [Cond.constantLong RX11 191 (240), Cond.fieldLink RX11 196 "TributePitchesModel" "latest" "I", Cond.fieldLink RX11 199 "TributePitchesModel" "bids" "I", Cond.fieldLink RX11 202 "TributePitchesModel" "bidder" "I", Cond.methodLink RX11 193 yX11_takeOf, Cond.instanceMethod yX11_takeOf, Cond.selects RX11 yX11_takeOf yX11_takeOf, Cond.code yX11_takeOf cX11_takeOf 3 (some .int), Cond.fieldLink RX11 188 "TributePitchesModel" "takes" "I", Cond.methodLink RL 51 yX10_bid, Cond.instanceMethod yX10_bid, Cond.selects RX10 yX10_bid yX10_bid, Cond.code yX10_bid cX10_bid 4 (some .int), Cond.fieldLink RX10 180 "TributePitches$Auction" "bidder" "LTributePitches$Gang;", Cond.fieldLink RX10 184 "TributePitches$Gang" "letPitches" "I", Cond.fieldLink RX10 187 "TributePitches$Auction" "bids" "I", Cond.fieldLink RX10 190 "TributePitches$Auction" "share" "I", Cond.methodLink RX10 172 yX10_gangAt, Cond.instanceMethod yX10_gangAt, Cond.selects RX10 yX10_gangAt yX10_gangAt, Cond.code yX10_gangAt cX10_gangAt 2 (some (.object "TributePitches$Gang")), Cond.methodLink RX10 176 yX0_mostShare, Cond.instanceMethod yX0_mostShare, Cond.selects RX0 yX0_mostShare yX0_mostShare]
def wsL_law_r17 : List Cond := [Cond.code yX0_mostShare cX0_mostShare 1 (some .int), Cond.fieldLink RX0 17 "TributePitches$Auction" "bids" "I", Cond.methodLink RL 54 yX11_bid, Cond.instanceMethod yX11_bid, Cond.selects RX11 yX11_bid yX11_bid, Cond.code yX11_bid cX11_bid 3 (some .int), Cond.methodLink RX11 205 yX11_noGang, Cond.instanceMethod yX11_noGang, Cond.selects RX11 yX11_noGang yX11_noGang, Cond.code yX11_noGang cX11_noGang 2 (some .boolean), Cond.methodLink RX11 208 yX11_letTo, Cond.instanceMethod yX11_letTo, Cond.selects RX11 yX11_letTo yX11_letTo, Cond.code yX11_letTo cX11_letTo 4 (some .int), Cond.methodLink RL 55 yX10_strike, Cond.instanceMethod yX10_strike, Cond.selects RX10 yX10_strike yX10_strike, Cond.code yX10_strike cX10_strike 4 (some .int), Cond.fieldLink RX10 193 "TributePitches$Auction" "pitch" "LTributePitches$Pitch;", Cond.fieldLink RX10 197 "TributePitches" "takeCount" "I", Cond.instantiable RX8 12, Cond.initialized RX8, Cond.fieldLink RX10 203 "TributePitches$Take" "least" "J", Cond.fieldLink RX10 207 "TributePitches$Take" "greatest" "J"]
def wsL_law_r18 : List Cond := [Cond.methodLink RX10 200 yX8_init, Cond.instanceMethod yX8_init, Cond.code yX8_init cX8_init 5 none, Cond.methodLink RX8 3 objectInit, Cond.fieldLink RX8 9 "TributePitches$Take" "number" "I", Cond.fieldLink RX8 15 "TributePitches$Take" "gang" "LTributePitches$Gang;", Cond.fieldLink RX8 19 "TributePitches$Take" "pitch" "LTributePitches$Pitch;", Cond.fieldLink RX8 23 "TributePitches$Take" "share" "I", Cond.methodLink RX10 210 yX8_begin, Cond.instanceMethod yX8_begin, Cond.selects RX8 yX8_begin yX8_begin, Cond.code yX8_begin cX8_begin 1 none, Cond.fieldLink RX8 26 "TributePitches$Pitch" "take" "LTributePitches$Take;", Cond.fieldLink RX8 32 "TributePitches$Pitch" "takesHad" "I", Cond.fieldLink RX8 35 "TributePitches$Gang" "takesHad" "I", Cond.fieldLink RX8 38 "TributePitches$Gang" "letPitches" "I", Cond.methodLink RL 59 yX11_strike, Cond.instanceMethod yX11_strike, Cond.selects RX11 yX11_strike yX11_strike, Cond.code yX11_strike cX11_strike 1 (some .int), Cond.methodLink RL 60 yX10_about, Cond.instanceMethod yX10_about, Cond.selects RX10 yX10_about yX10_about, Cond.code yX10_about cX10_about 4 (some .int)]
def wsL_law_r19 : List Cond := [Cond.fieldLink RX10 213 "TributePitches$Pitch" "x" "I", Cond.fieldLink RX10 216 "TributePitches$Pitch" "y" "I", Cond.fieldLink RX10 219 "TributePitches$Pitch" "x2" "I", Cond.fieldLink RX10 222 "TributePitches$Pitch" "y2" "I", Cond.fieldLink RX10 225 "TributePitches$Pitch" "tons" "I", Cond.fieldLink RX10 228 "TributePitches$Take" "number" "I", Cond.fieldLink RX10 231 "TributePitches$Pitch" "takesHad" "I", Cond.methodLink RL 63 yX11_about, Cond.instanceMethod yX11_about, Cond.selects RX11 yX11_about yX11_about, Cond.code yX11_about cX11_about 3 (some .int), Cond.methodLink RX11 211 yX11_takesOn, Cond.instanceMethod yX11_takesOn, Cond.selects RX11 yX11_takesOn yX11_takesOn, Cond.code yX11_takesOn cX11_takesOn 4 (some .int), Cond.methodLink RL 64 yX10_parcel, Cond.instanceMethod yX10_parcel, Cond.selects RX10 yX10_parcel yX10_parcel, Cond.code yX10_parcel cX10_parcel 5 (some .int), Cond.fieldLink RX10 238 "TributePitches$Take" "settled" "Z", Cond.fieldLink RX10 242 "TributePitches" "parcelCount" "I", Cond.instantiable RX5 2, Cond.initialized RX5, Cond.fieldLink RX10 245 "TributePitches$Take" "pitch" "LTributePitches$Pitch;"]
def wsL_law_r20 : List Cond := [Cond.fieldLink RX10 247 "TributePitches$Take" "parcels" "I", Cond.fieldLink RX10 249 "TributePitches$Take" "worths" "J", Cond.methodLink RX10 234 yX10_takeAt, Cond.instanceMethod yX10_takeAt, Cond.selects RX10 yX10_takeAt yX10_takeAt, Cond.code yX10_takeAt cX10_takeAt 2 (some (.object "TributePitches$Take")), Cond.methodLink RX10 246 yX5_init, Cond.instanceMethod yX5_init, Cond.code yX5_init cX5_init 3 none, Cond.methodLink RX5 1 objectInit, Cond.fieldLink RX5 7 "TributePitches$Parcel" "pitch" "LTributePitches$Pitch;", Cond.fieldLink RX5 13 "TributePitches$Parcel" "goodness" "I", Cond.methodLink RL 67 yX11_parcel, Cond.instanceMethod yX11_parcel, Cond.selects RX11 yX11_parcel yX11_parcel, Cond.code yX11_parcel cX11_parcel 4 (some .int), Cond.fieldLink RX11 217 "TributePitchesModel" "parcels" "I", Cond.methodLink RX11 214 yX11_noTake, Cond.instanceMethod yX11_noTake, Cond.selects RX11 yX11_noTake yX11_noTake, Cond.code yX11_noTake cX11_noTake 2 (some .boolean), Cond.methodLink RL 68 yX10_spend, Cond.instanceMethod yX10_spend, Cond.selects RX10 yX10_spend yX10_spend]
def wsL_law_r21 : List Cond := [Cond.code yX10_spend cX10_spend 5 (some .long), Cond.constant RX10 252 (100000), Cond.fieldLink RX10 253 "TributePitches$Take" "costs" "J", Cond.fieldLink RX10 256 "TributePitches$Take" "ahead" "J", Cond.methodLink RL 72 yX11_spend, Cond.instanceMethod yX11_spend, Cond.selects RX11 yX11_spend yX11_spend, Cond.code yX11_spend cX11_spend 4 (some .long), Cond.constantLong RX11 220 (100000), Cond.methodLink RL 73 yX10_settle, Cond.instanceMethod yX10_settle, Cond.selects RX10 yX10_settle yX10_settle, Cond.code yX10_settle cX10_settle 3 (some .long), Cond.fieldLink RX10 262 "TributePitches$Take" "pay" "J", Cond.methodLink RX10 259 yX8_end, Cond.instanceMethod yX8_end, Cond.selects RX8 yX8_end yX8_end, Cond.code yX8_end cX8_end 5 none, Cond.fieldLink RX8 45 "TributePitches$Take" "worths" "J", Cond.constantLong RX8 49 (240), Cond.fieldLink RX8 51 "TributePitches$Take" "costs" "J", Cond.fieldLink RX8 58 "TributePitches$Take" "ahead" "J", Cond.methodLink RX8 61 Lib.MathLoose.max_long.x, Cond.static Lib.MathLoose.max_long.x]
def wsL_law_r22 : List Cond := [Cond.code Lib.MathLoose.max_long.x Lib.MathLoose.max_long.code 4 (some .long), Cond.fieldLink RX8 67 "TributePitches$Take" "pay" "J", Cond.fieldLink RX8 70 "TributePitches$Gang" "owed" "J", Cond.fieldLink RX8 73 "TributePitches$Take" "settled" "Z", Cond.methodLink RX8 41 ⟨"TributePitches$Gang", "debtTaken", "()J"⟩, Cond.sameMethod "TributePitches$Gang" "TributePitches$Gang" "debtTaken" "()J", Cond.selects RX1 ⟨"TributePitches$Gang", "debtTaken", "()J"⟩ yX2_debtTaken, Cond.instanceMethod yX2_debtTaken, Cond.code yX2_debtTaken cX2_debtTaken 1 (some .long), Cond.fieldLink RX2 15 "TributePitches$Gang" "owed" "J", Cond.methodLink RX8 41 yX2_debtTaken, Cond.selects RX2 yX2_debtTaken yX2_debtTaken, Cond.instanceMethod ⟨"TributePitches$Gang", "debtTaken", "()J"⟩, Cond.selects RX4 ⟨"TributePitches$Gang", "debtTaken", "()J"⟩ yX4_debtTaken, Cond.instanceMethod yX4_debtTaken, Cond.code yX4_debtTaken cX4_debtTaken 1 (some .long), Cond.fieldLink RX4 7 "TributePitches$OldHands" "owed" "J", Cond.sameField "TributePitches$OldHands" "TributePitches$Gang" "owed" "J", Cond.constantLong RX4 13 (2), Cond.methodLink RX8 54 ⟨"TributePitches$Gang", "costsBorne", "(J)J"⟩, Cond.sameMethod "TributePitches$Gang" "TributePitches$Gang" "costsBorne" "(J)J", Cond.instanceMethod ⟨"TributePitches$Gang", "costsBorne", "(J)J"⟩, Cond.selects RX1 ⟨"TributePitches$Gang", "costsBorne", "(J)J"⟩ yX1_costsBorne, Cond.instanceMethod yX1_costsBorne]
def wsL_law_r23 : List Cond := [Cond.code yX1_costsBorne cX1_costsBorne 3 (some .long), Cond.constantLong RX1 7 (2), Cond.code yX2_costsBorne cX2_costsBorne 3 (some .long), Cond.methodLink RX8 54 yX2_costsBorne, Cond.instanceMethod yX2_costsBorne, Cond.selects RX2 yX2_costsBorne yX2_costsBorne, Cond.selects RX4 ⟨"TributePitches$Gang", "costsBorne", "(J)J"⟩ yX1_costsBorne, Cond.methodLink RL 77 yX11_settle, Cond.instanceMethod yX11_settle, Cond.selects RX11 yX11_settle yX11_settle, Cond.code yX11_settle cX11_settle 7 (some .long), Cond.methodLink RX11 222 yX11_worthOf, Cond.instanceMethod yX11_worthOf, Cond.selects RX11 yX11_worthOf yX11_worthOf, Cond.code yX11_worthOf cX11_worthOf 5 (some .long), Cond.methodLink RL 78 yX10_taken, Cond.instanceMethod yX10_taken, Cond.selects RX10 yX10_taken yX10_taken, Cond.code yX10_taken cX10_taken 4 (some .int), Cond.fieldLink RX10 265 "TributePitches$Take" "gang" "LTributePitches$Gang;", Cond.fieldLink RX10 268 "TributePitches$Gang" "number" "I", Cond.fieldLink RX10 269 "TributePitches$Pitch" "number" "I", Cond.fieldLink RX10 270 "TributePitches$Take" "share" "I", Cond.methodLink RL 81 yX11_taken]
def wsL_law_r24 : List Cond := [Cond.instanceMethod yX11_taken, Cond.selects RX11 yX11_taken yX11_taken, Cond.code yX11_taken cX11_taken 3 (some .int), Cond.methodLink RX11 225 yX11_parcelsOf, Cond.instanceMethod yX11_parcelsOf, Cond.selects RX11 yX11_parcelsOf yX11_parcelsOf, Cond.code yX11_parcelsOf cX11_parcelsOf 4 (some .int), Cond.methodLink RL 82 yX10_money, Cond.instanceMethod yX10_money, Cond.selects RX10 yX10_money yX10_money, Cond.code yX10_money cX10_money 4 (some .long), Cond.methodLink RL 85 yX11_money, Cond.instanceMethod yX11_money, Cond.selects RX11 yX11_money yX11_money, Cond.code yX11_money cX11_money 3 (some .long), Cond.methodLink RL 86 yX10_debt, Cond.instanceMethod yX10_debt, Cond.selects RX10 yX10_debt yX10_debt, Cond.code yX10_debt cX10_debt 3 (some .long), Cond.fieldLink RX10 271 "TributePitches$Gang" "owed" "J", Cond.methodLink RL 89 yX11_debt, Cond.instanceMethod yX11_debt, Cond.selects RX11 yX11_debt yX11_debt, Cond.code yX11_debt cX11_debt 2 (some .long)]
def wsL_law_r25 : List Cond := [Cond.methodLink RL 90 yX10_suspects, Cond.instanceMethod yX10_suspects, Cond.selects RX10 yX10_suspects yX10_suspects, Cond.code yX10_suspects cX10_suspects 3 (some .int), Cond.methodLink RX10 274 yX5_isSuspect, Cond.instanceMethod yX5_isSuspect, Cond.selects RX5 yX5_isSuspect yX5_isSuspect, Cond.code yX5_isSuspect cX5_isSuspect 2 (some .boolean), Cond.fieldLink RX5 17 "TributePitches$Lode" "highs" "[I", Cond.methodLink RX5 23 yX6_greatestOf, Cond.instanceMethod yX6_greatestOf, Cond.selects RX6 yX6_greatestOf yX6_greatestOf, Cond.code yX6_greatestOf cX6_greatestOf 5 (some .int), Cond.methodLink RX6 34 Lib.Math.max.name, Cond.methodLink RL 93 yX11_suspects, Cond.instanceMethod yX11_suspects, Cond.selects RX11 yX11_suspects yX11_suspects, Cond.code yX11_suspects cX11_suspects 3 (some .int), Cond.methodLink RX11 228 yX11_isSuspect, Cond.instanceMethod yX11_isSuspect, Cond.selects RX11 yX11_isSuspect yX11_isSuspect, Cond.code yX11_isSuspect cX11_isSuspect 5 (some .boolean), Cond.methodLink RL 94 yX10_suspect, Cond.instanceMethod yX10_suspect]
def wsL_law_r26 : List Cond := [Cond.selects RX10 yX10_suspect yX10_suspect, Cond.code yX10_suspect cX10_suspect 4 (some .int), Cond.methodLink RL 97 yX11_suspect, Cond.instanceMethod yX11_suspect, Cond.selects RX11 yX11_suspect yX11_suspect, Cond.code yX11_suspect cX11_suspect 4 (some .int), Cond.methodLink RL 98 yX10_skill, Cond.instanceMethod yX10_skill, Cond.selects RX10 yX10_skill yX10_skill, Cond.code yX10_skill cX10_skill 12 (some .long), Cond.constantLong RX10 278 (2), Cond.methodLink RX10 280 yX10_commonDivisor, Cond.static yX10_commonDivisor, Cond.code yX10_commonDivisor cX10_commonDivisor 11 (some .long), Cond.methodLink RL 101 yX11_skill, Cond.instanceMethod yX11_skill, Cond.selects RX11 yX11_skill yX11_skill, Cond.code yX11_skill cX11_skill 10 (some .long), Cond.methodLink RX11 231 yX11_common, Cond.static yX11_common, Cond.code yX11_common cX11_common 10 (some .long), Cond.methodLink RL 102 yX10_sheet, Cond.instanceMethod yX10_sheet, Cond.selects RX10 yX10_sheet yX10_sheet]
def wsL_law_r27 : List Cond := [Cond.code yX10_sheet cX10_sheet 5 (some .int), Cond.methodLink RX10 284 yX7_renew, Cond.instanceMethod yX7_renew, Cond.selects RX7 yX7_renew yX7_renew, Cond.code yX7_renew cX7_renew 3 none, Cond.methodLink RX7 23 yJ7_fill_53178, Cond.methodLink RL 105 yX11_sheet, Cond.instanceMethod yX11_sheet, Cond.selects RX11 yX11_sheet yX11_sheet, Cond.code yX11_sheet cX11_sheet 5 (some .int), Cond.methodLink RL 106 yX10_lose, Cond.instanceMethod yX10_lose, Cond.selects RX10 yX10_lose yX10_lose, Cond.code yX10_lose cX10_lose 3 (some .int), Cond.methodLink RX10 288 yX7_hasNothing, Cond.methodLink RL 109 yX11_lose, Cond.instanceMethod yX11_lose, Cond.selects RX11 yX11_lose yX11_lose, Cond.code yX11_lose cX11_lose 3 (some .int), Cond.methodLink RL 110 yX10_put, Cond.instanceMethod yX10_put, Cond.selects RX10 yX10_put yX10_put, Cond.code yX10_put cX10_put 5 (some .int), Cond.methodLink RX10 292 yX7_cut]
def wsL_law_r28 : List Cond := [Cond.instanceMethod yX7_cut, Cond.selects RX7 yX7_cut yX7_cut, Cond.code yX7_cut cX7_cut 2 (some .int), Cond.methodLink RL 113 yX11_put, Cond.instanceMethod yX11_put, Cond.selects RX11 yX11_put yX11_put, Cond.code yX11_put cX11_put 4 (some .int), Cond.methodLink RX11 156 yX11_noCell, Cond.instanceMethod yX11_noCell, Cond.selects RX11 yX11_noCell yX11_noCell, Cond.code yX11_noCell cX11_noCell 3 (some .int), Cond.methodLink RL 114 yX10_cell, Cond.instanceMethod yX10_cell, Cond.selects RX10 yX10_cell yX10_cell, Cond.code yX10_cell cX10_cell 5 (some .long), Cond.methodLink RL 117 yX11_cell, Cond.instanceMethod yX11_cell, Cond.selects RX11 yX11_cell yX11_cell, Cond.code yX11_cell cX11_cell 4 (some .long), Cond.methodLink RX11 160 yX11_failedLong, Cond.instanceMethod yX11_failedLong, Cond.selects RX11 yX11_failedLong yX11_failedLong, Cond.code yX11_failedLong cX11_failedLong 2 (some .long), Cond.methodLink RL 118 yX10_copy]
def wsL_law_r29 : List Cond := [Cond.instanceMethod yX10_copy, Cond.selects RX10 yX10_copy yX10_copy, Cond.code yX10_copy cX10_copy 8 (some .int), Cond.fieldLink RX10 295 "TributePitches$Sheet" "lane" "I", Cond.methodLink RX10 298 arraycopyName, Cond.methodLink RL 121 yX11_copy, Cond.instanceMethod yX11_copy, Cond.selects RX11 yX11_copy yX11_copy, Cond.code yX11_copy cX11_copy 7 (some .int), Cond.methodLink RL 122 yX10_tell, Cond.instanceMethod yX10_tell, Cond.selects RX10 yX10_tell yX10_tell, Cond.code yX10_tell cX10_tell 3 (some .int), Cond.methodLink RX10 304 ⟨"TributePitches$Gang", "telling", "(LTributePitches$Trace;)I"⟩, Cond.sameMethod "TributePitches$Gang" "TributePitches$Gang" "telling" "(LTributePitches$Trace;)I", Cond.instanceMethod ⟨"TributePitches$Gang", "telling", "(LTributePitches$Trace;)I"⟩, Cond.selects RX1 ⟨"TributePitches$Gang", "telling", "(LTributePitches$Trace;)I"⟩ yX1_telling, Cond.instanceMethod yX1_telling, Cond.code yX1_telling cX1_telling 2 (some .int), Cond.methodLink RX1 9 yX9_leave, Cond.instanceMethod yX9_leave, Cond.selects RX9 yX9_leave yX9_leave, Cond.code yX9_leave cX9_leave 2 none, Cond.fieldLink RX9 7 "TributePitches$Trace" "number" "I"]
def wsL_law_r30 : List Cond := [Cond.methodLink RX1 14 ⟨"TributePitches$Family", "tellingOfAnyGang", "(LTributePitches$Trace;)I"⟩, Cond.sameMethod "TributePitches$Family" "TributePitches$Gang" "tellingOfAnyGang" "(LTributePitches$Trace;)I", Cond.selects RX1 ⟨"TributePitches$Family", "tellingOfAnyGang", "(LTributePitches$Trace;)I"⟩ yX2_tellingOfAnyGang, Cond.instanceMethod yX2_tellingOfAnyGang, Cond.code yX2_tellingOfAnyGang cX2_tellingOfAnyGang 2 (some .int), Cond.fieldLink RX2 29 "TributePitches$Gang" "takesHad" "I", Cond.methodLink RX2 23 yX9_leave, Cond.selects RX4 ⟨"TributePitches$Family", "tellingOfAnyGang", "(LTributePitches$Trace;)I"⟩ yX2_tellingOfAnyGang, Cond.code yX2_telling cX2_telling 2 (some .int), Cond.methodLink RX10 304 yX2_telling, Cond.instanceMethod yX2_telling, Cond.selects RX2 yX2_telling yX2_telling, Cond.methodLink RX2 19 ⟨"TributePitches$Gang", "tellingOfAnyGang", "(LTributePitches$Trace;)I"⟩, Cond.sameMethod "TributePitches$Gang" "TributePitches$Gang" "tellingOfAnyGang" "(LTributePitches$Trace;)I", Cond.selects RX1 ⟨"TributePitches$Gang", "tellingOfAnyGang", "(LTributePitches$Trace;)I"⟩ yX2_tellingOfAnyGang, Cond.methodLink RX2 19 yX2_tellingOfAnyGang, Cond.selects RX2 yX2_tellingOfAnyGang yX2_tellingOfAnyGang, Cond.selects RX4 ⟨"TributePitches$Gang", "tellingOfAnyGang", "(LTributePitches$Trace;)I"⟩ yX2_tellingOfAnyGang, Cond.selects RX4 ⟨"TributePitches$Gang", "telling", "(LTributePitches$Trace;)I"⟩ yX4_telling, Cond.instanceMethod yX4_telling, Cond.code yX4_telling cX4_telling 2 (some .int), Cond.methodLink RX4 15 yX9_leave, Cond.methodLink RX4 20 ⟨"TributePitches$OldHands", "tellingOfAnyGang", "(LTributePitches$Trace;)I"⟩, Cond.sameMethod "TributePitches$OldHands" "TributePitches$Gang" "tellingOfAnyGang" "(LTributePitches$Trace;)I"]
def wsL_law_r31 : List Cond := [Cond.selects RX4 ⟨"TributePitches$OldHands", "tellingOfAnyGang", "(LTributePitches$Trace;)I"⟩ yX2_tellingOfAnyGang, Cond.methodLink RL 125 yX11_tell, Cond.instanceMethod yX11_tell, Cond.selects RX11 yX11_tell yX11_tell, Cond.code yX11_tell cX11_tell 2 (some .int), Cond.methodLink RX11 238 yX11_traced, Cond.instanceMethod yX11_traced, Cond.selects RX11 yX11_traced yX11_traced, Cond.code yX11_traced cX11_traced 2 none, Cond.fieldLink RX11 235 "TributePitchesModel" "trace" "I", Cond.methodLink RX11 242 yX11_takesBy, Cond.instanceMethod yX11_takesBy, Cond.selects RX11 yX11_takesBy yX11_takesBy, Cond.code yX11_takesBy cX11_takesBy 4 (some .int), Cond.methodLink RL 126 yX10_greet, Cond.instanceMethod yX10_greet, Cond.selects RX10 yX10_greet yX10_greet, Cond.code yX10_greet cX10_greet 3 (some .int), Cond.methodLink RX10 308 ⟨"TributePitches$Gang", "greeting", "(LTributePitches$Trace;)I"⟩, Cond.sameMethod "TributePitches$Gang" "TributePitches$Gang" "greeting" "(LTributePitches$Trace;)I", Cond.instanceMethod ⟨"TributePitches$Gang", "greeting", "(LTributePitches$Trace;)I"⟩, Cond.selects RX1 ⟨"TributePitches$Gang", "greeting", "(LTributePitches$Trace;)I"⟩ yX1_greeting, Cond.instanceMethod yX1_greeting, Cond.code yX1_greeting cX1_greeting 2 (some .int)]
def wsL_law_r32 : List Cond := [Cond.code yX2_greeting cX2_greeting 2 (some .int), Cond.methodLink RX10 308 yX2_greeting, Cond.instanceMethod yX2_greeting, Cond.selects RX2 yX2_greeting yX2_greeting, Cond.selects RX4 ⟨"TributePitches$Gang", "greeting", "(LTributePitches$Trace;)I"⟩ yX4_greeting, Cond.instanceMethod yX4_greeting, Cond.code yX4_greeting cX4_greeting 2 (some .int), Cond.methodLink RX4 24 yX1_greeting, Cond.sameMethod "TributePitches$Family" "TributePitches$Family" "greeting" "(LTributePitches$Trace;)I", Cond.superclass RX4 RX1, Cond.methodLink RL 129 yX11_greet, Cond.instanceMethod yX11_greet, Cond.selects RX11 yX11_greet yX11_greet, Cond.code yX11_greet cX11_greet 2 (some .int), Cond.methodLink RL 130 yX10_as, Cond.instanceMethod yX10_as, Cond.selects RX10 yX10_as yX10_as, Cond.code yX10_as cX10_as 4 (some .int), Cond.methodLink RX10 311 yX10_isOfKind, Cond.static yX10_isOfKind, Cond.code yX10_isOfKind cX10_isOfKind 2 (some .boolean), Cond.classLink RX10 150 "TributePitches$OldHands", Cond.classLink RX10 155 "TributePitches$Family", Cond.methodLink RL 133 yX11_as]
def wsL_law_r33 : List Cond := [Cond.instanceMethod yX11_as, Cond.selects RX11 yX11_as yX11_as, Cond.code yX11_as cX11_as 3 (some .int), Cond.methodLink RL 134 yX10_trace, Cond.instanceMethod yX10_trace, Cond.selects RX10 yX10_trace yX10_trace, Cond.code yX10_trace cX10_trace 1 (some .int), Cond.fieldLink RX10 315 "TributePitches$Trace" "number" "I", Cond.methodLink RL 137 yX11_trace, Cond.instanceMethod yX11_trace, Cond.selects RX11 yX11_trace yX11_trace, Cond.code yX11_trace cX11_trace 1 (some .int), Cond.methodLink RL 138 yX10_fault, Cond.instanceMethod yX10_fault, Cond.selects RX10 yX10_fault yX10_fault, Cond.code yX10_fault cX10_fault 1 (some .int), Cond.methodLink RL 141 yX11_fault, Cond.instanceMethod yX11_fault, Cond.selects RX11 yX11_fault yX11_fault, Cond.code yX11_fault cX11_fault 1 (some .int), Cond.methodLink RL 142 yX10_told, Cond.instanceMethod yX10_told, Cond.selects RX10 yX10_told yX10_told, Cond.code yX10_told cX10_told 2 (some .int)]
def wsL_law_r34 : List Cond := [Cond.methodLink RL 145 yX11_told, Cond.instanceMethod yX11_told, Cond.selects RX11 yX11_told yX11_told, Cond.code yX11_told cX11_told 2 (some .int)]
def wsL_law : List Cond := (wsL_law_r1 ++ (wsL_law_r2 ++ (wsL_law_r3 ++ (wsL_law_r4 ++ (wsL_law_r5 ++ (wsL_law_r6 ++ (wsL_law_r7 ++ (wsL_law_r8 ++ (wsL_law_r9 ++ (wsL_law_r10 ++ (wsL_law_r11 ++ (wsL_law_r12 ++ (wsL_law_r13 ++ (wsL_law_r14 ++ (wsL_law_r15 ++ (wsL_law_r16 ++ (wsL_law_r17 ++ (wsL_law_r18 ++ (wsL_law_r19 ++ (wsL_law_r20 ++ (wsL_law_r21 ++ (wsL_law_r22 ++ (wsL_law_r23 ++ (wsL_law_r24 ++ (wsL_law_r25 ++ (wsL_law_r26 ++ (wsL_law_r27 ++ (wsL_law_r28 ++ (wsL_law_r29 ++ (wsL_law_r30 ++ (wsL_law_r31 ++ (wsL_law_r32 ++ (wsL_law_r33 ++ wsL_law_r34))))))))))))))))))))))))))))))))) ++ wsX100 ++ wsX110 ++ wsX30 ++ wsX70 ++ wsX90 ++ wsX60 ++ wsX40 ++ wsX10 ++ wsX20 ++ wsX00 ++ wsX80 ++ wsX50 ++ ([] : List Cond)
end
section
theorem in_by {big : List Cond} (ws : List Cond) (ps : List Nat) (hp : ws = ps.filterMap (fun i => big[i]?)) : ∀ w ∈ ws, w ∈ big := by
  intro w hw
  rw [hp] at hw
  obtain ⟨i, -, hi⟩ := List.mem_filterMap.mp hw
  first | exact List.mem_of_getElem? hi | exact List.getElem?_mem hi
set_option maxRecDepth 20000 in
theorem wsL_law_r1_in : ∀ w ∈ wsL_law_r1, w ∈ lw_tbl := in_by _ [45, 46, 30, 659, 660, 35, 47, 48, 49, 50, 51, 52, 53, 54, 31, 121, 83, 122, 85, 123, 87, 124, 89, 125] (by decide +kernel)
set_option maxRecDepth 20000 in
theorem wsL_law_r2_in : ∀ w ∈ wsL_law_r2, w ∈ lw_tbl := in_by _ [91, 93, 33, 126, 110, 111, 34, 127, 133, 55, 56, 57, 58, 82, 62, 64, 67, 68, 69, 59, 60, 32, 61, 95] (by decide +kernel)
set_option maxRecDepth 20000 in
theorem wsL_law_r3_in : ∀ w ∈ wsL_law_r3, w ∈ lw_tbl := in_by _ [96, 97, 98, 100, 113, 114, 115, 661, 662, 663, 664, 667, 668, 669, 670, 672, 673, 674, 675, 677, 678, 679, 680, 681] (by decide +kernel)
set_option maxRecDepth 20000 in
theorem wsL_law_r4_in : ∀ w ∈ wsL_law_r4, w ∈ lw_tbl := in_by _ [683, 783, 684, 690, 691, 692, 784, 693, 694, 695, 696, 697, 698, 700, 701, 702, 666, 685, 161, 162, 163, 164, 70, 165] (by decide +kernel)
set_option maxRecDepth 20000 in
theorem wsL_law_r5_in : ∀ w ∈ wsL_law_r5, w ∈ lw_tbl := in_by _ [166, 167, 169, 170, 171, 172, 173, 174, 175, 176, 178, 177, 36, 179, 180, 181, 182, 183, 184, 185, 186, 187, 37, 188] (by decide +kernel)
set_option maxRecDepth 20000 in
theorem wsL_law_r6_in : ∀ w ∈ wsL_law_r6, w ∈ lw_tbl := in_by _ [189, 190, 191, 192, 193, 194, 195, 196, 198, 0, 199, 200, 202, 1, 203, 204, 785, 786, 787, 788, 797, 789, 790, 791] (by decide +kernel)
set_option maxRecDepth 20000 in
theorem wsL_law_r7_in : ∀ w ∈ wsL_law_r7, w ∈ lw_tbl := in_by _ [792, 796, 793, 794, 795, 798, 800, 8, 801, 802, 804, 9, 805, 671, 806, 808, 10, 809, 810, 812, 11, 813, 205, 206] (by decide +kernel)
set_option maxRecDepth 20000 in
theorem wsL_law_r8_in : ∀ w ∈ wsL_law_r8, w ∈ lw_tbl := in_by _ [207, 208, 814, 815, 816, 817, 209, 210, 211, 212, 63, 66, 818, 819, 820, 821, 213, 214, 215, 216, 99, 217, 219, 2] (by decide +kernel)
set_option maxRecDepth 20000 in
theorem wsL_law_r9_in : ∀ w ∈ wsL_law_r9, w ∈ lw_tbl := in_by _ [220, 221, 222, 223, 225, 226, 227, 228, 229, 230, 231, 232, 233, 234, 235, 236, 237, 238, 239, 102, 240, 242, 3, 243] (by decide +kernel)
set_option maxRecDepth 20000 in
theorem wsL_law_r10_in : ∀ w ∈ wsL_law_r10, w ∈ lw_tbl := in_by _ [244, 245, 246, 247, 870, 871, 872, 873, 874, 834, 826, 827, 828, 829, 830, 832, 12, 833, 665, 835, 837, 13, 838, 867] (by decide +kernel)
set_option maxRecDepth 20000 in
theorem wsL_law_r11_in : ∀ w ∈ wsL_law_r11, w ∈ lw_tbl := in_by _ [868, 869, 248, 249, 250, 251, 128, 260, 38, 252, 254, 4, 255, 256, 257, 258, 259, 267, 271, 269, 273, 261, 262, 263] (by decide +kernel)
set_option maxRecDepth 20000 in
theorem wsL_law_r12_in : ∀ w ∈ wsL_law_r12, w ∈ lw_tbl := in_by _ [264, 265, 275, 875, 876, 877, 878, 879, 676, 298, 299, 300, 301, 306, 302, 304, 5, 305, 307, 308, 309, 310, 311, 880] (by decide +kernel)
set_option maxRecDepth 20000 in
theorem wsL_law_r13_in : ∀ w ∈ wsL_law_r13, w ∈ lw_tbl := in_by _ [881, 882, 883, 884, 886, 16, 887, 855, 856, 857, 858, 888, 890, 17, 891, 892, 894, 18, 895, 312, 313, 314, 315, 129] (by decide +kernel)
set_option maxRecDepth 20000 in
theorem wsL_law_r14_in : ∀ w ∈ wsL_law_r14, w ∈ lw_tbl := in_by _ [316, 317, 318, 319, 320, 41, 351, 352, 40, 359, 39, 321, 322, 323, 324, 325, 326, 327, 328, 329, 330, 331, 353, 360] (by decide +kernel)
set_option maxRecDepth 20000 in
theorem wsL_law_r15_in : ∀ w ∈ wsL_law_r15, w ∈ lw_tbl := in_by _ [896, 897, 898, 899, 682, 366, 367, 368, 369, 280, 132, 370, 371, 42, 372, 373, 374, 375, 376, 378, 900, 901, 902, 903] (by decide +kernel)
set_option maxRecDepth 20000 in
theorem wsL_law_r16_in : ∀ w ∈ wsL_law_r16, w ∈ lw_tbl := in_by _ [904, 686, 687, 688, 905, 907, 19, 908, 689, 392, 393, 394, 395, 382, 336, 381, 379, 396, 398, 6, 399, 400, 401, 402] (by decide +kernel)
set_option maxRecDepth 20000 in
theorem wsL_law_r17_in : ∀ w ∈ wsL_law_r17, w ∈ lw_tbl := in_by _ [403, 380, 909, 910, 911, 912, 913, 915, 20, 916, 917, 919, 21, 920, 404, 405, 406, 407, 377, 130, 408, 43, 421, 422] (by decide +kernel)
set_option maxRecDepth 20000 in
theorem wsL_law_r18_in : ∀ w ∈ wsL_law_r18, w ∈ lw_tbl := in_by _ [409, 410, 411, 412, 413, 417, 419, 415, 459, 460, 461, 462, 279, 277, 333, 335, 921, 922, 923, 924, 463, 464, 465, 466] (by decide +kernel)
set_option maxRecDepth 20000 in
theorem wsL_law_r19_in : ∀ w ∈ wsL_law_r19, w ∈ lw_tbl := in_by _ [268, 270, 272, 274, 276, 414, 278, 925, 926, 927, 928, 929, 931, 22, 932, 467, 468, 469, 470, 433, 131, 475, 44, 420] (by decide +kernel)
set_option maxRecDepth 20000 in
theorem wsL_law_r20_in : ∀ w ∈ wsL_law_r20, w ∈ lw_tbl := in_by _ [431, 424, 471, 473, 7, 474, 476, 477, 478, 479, 480, 481, 933, 934, 935, 936, 699, 937, 939, 23, 940, 487, 488, 489] (by decide +kernel)
set_option maxRecDepth 20000 in
theorem wsL_law_r21_in : ∀ w ∈ wsL_law_r21, w ∈ lw_tbl := in_by _ [490, 491, 426, 428, 941, 942, 943, 944, 945, 492, 493, 494, 495, 430, 496, 497, 498, 499, 423, 510, 425, 427, 521, 522] (by decide +kernel)
set_option maxRecDepth 20000 in
theorem wsL_law_r22_in : ∀ w ∈ wsL_law_r22, w ∈ lw_tbl := in_by _ [523, 429, 340, 432, 500, 503, 504, 501, 509, 339, 500, 502, 501, 505, 506, 507, 337, 338, 508, 511, 514, 512, 515, 516] (by decide +kernel)
set_option maxRecDepth 20000 in
theorem wsL_law_r23_in : ∀ w ∈ wsL_law_r23, w ∈ lw_tbl := in_by _ [517, 518, 520, 511, 512, 513, 519, 946, 947, 948, 949, 950, 952, 24, 953, 524, 525, 526, 527, 418, 332, 266, 416, 954] (by decide +kernel)
set_option maxRecDepth 20000 in
theorem wsL_law_r24_in : ∀ w ∈ wsL_law_r24, w ∈ lw_tbl := in_by _ [955, 956, 957, 958, 960, 25, 961, 528, 529, 530, 531, 962, 963, 964, 965, 532, 533, 534, 535, 341, 966, 967, 968, 969] (by decide +kernel)
set_option maxRecDepth 20000 in
theorem wsL_law_r25_in : ∀ w ∈ wsL_law_r25, w ∈ lw_tbl := in_by _ [536, 537, 538, 539, 540, 541, 542, 543, 65, 544, 545, 546, 547, 548, 970, 971, 972, 973, 974, 976, 26, 977, 549, 550] (by decide +kernel)
set_option maxRecDepth 20000 in
theorem wsL_law_r26_in : ∀ w ∈ wsL_law_r26, w ∈ lw_tbl := in_by _ [551, 552, 978, 979, 980, 981, 553, 554, 555, 556, 557, 558, 559, 560, 982, 983, 984, 985, 986, 987, 988, 561, 562, 563] (by decide +kernel)
set_option maxRecDepth 20000 in
theorem wsL_law_r27_in : ∀ w ∈ wsL_law_r27, w ∈ lw_tbl := in_by _ [564, 565, 566, 567, 568, 569, 822, 823, 824, 825, 570, 571, 572, 573, 574, 839, 840, 841, 842, 575, 576, 577, 578, 579] (by decide +kernel)
set_option maxRecDepth 20000 in
theorem wsL_law_r28_in : ∀ w ∈ wsL_law_r28, w ∈ lw_tbl := in_by _ [580, 581, 582, 843, 844, 845, 846, 847, 849, 14, 850, 583, 584, 585, 586, 851, 852, 853, 854, 859, 861, 15, 862, 587] (by decide +kernel)
set_option maxRecDepth 20000 in
theorem wsL_law_r29_in : ∀ w ∈ wsL_law_r29, w ∈ lw_tbl := in_by _ [588, 589, 590, 101, 591, 863, 864, 865, 866, 592, 593, 594, 595, 596, 599, 597, 600, 601, 602, 603, 604, 605, 606, 116] (by decide +kernel)
set_option maxRecDepth 20000 in
theorem wsL_law_r30_in : ∀ w ∈ wsL_law_r30, w ∈ lw_tbl := in_by _ [607, 608, 610, 612, 613, 334, 614, 611, 622, 596, 597, 598, 623, 1021, 1022, 623, 1023, 1024, 615, 616, 617, 618, 619, 620] (by decide +kernel)
set_option maxRecDepth 20000 in
theorem wsL_law_r31_in : ∀ w ∈ wsL_law_r31, w ∈ lw_tbl := in_by _ [621, 989, 990, 991, 992, 993, 995, 27, 996, 703, 997, 999, 28, 1000, 624, 625, 626, 627, 628, 631, 629, 632, 633, 634] (by decide +kernel)
set_option maxRecDepth 20000 in
theorem wsL_law_r32_in : ∀ w ∈ wsL_law_r32, w ∈ lw_tbl := in_by _ [639, 628, 629, 630, 635, 636, 637, 638, 1025, 350, 1001, 1002, 1003, 1004, 640, 641, 642, 643, 644, 645, 646, 319, 351, 1005] (by decide +kernel)
set_option maxRecDepth 20000 in
theorem wsL_law_r33_in : ∀ w ∈ wsL_law_r33, w ∈ lw_tbl := in_by _ [1006, 1007, 1008, 647, 648, 649, 650, 117, 1009, 1010, 1011, 1012, 651, 652, 653, 654, 1013, 1014, 1015, 1016, 655, 656, 657, 658] (by decide +kernel)
set_option maxRecDepth 20000 in
theorem wsL_law_r34_in : ∀ w ∈ wsL_law_r34, w ∈ lw_tbl := in_by _ [1017, 1018, 1019, 1020] (by decide +kernel)
set_option maxRecDepth 20000 in
theorem wsX100_in : ∀ w ∈ wsX100, w ∈ lw_tbl := in_by _ [134, 136, 138, 140, 142, 144, 146, 148, 150, 152, 154, 156, 158] (by decide +kernel)
set_option maxRecDepth 20000 in
theorem wsX110_in : ∀ w ∈ wsX110, w ∈ lw_tbl := in_by _ [704, 706, 708, 710, 712, 714, 716, 718, 720, 722, 724, 726, 728, 730, 732, 734, 736, 738, 740, 742, 744, 746, 748, 750, 752, 754, 756, 758, 760, 762, 764, 766, 768, 770, 772, 774, 776, 778, 780] (by decide +kernel)
set_option maxRecDepth 20000 in
theorem wsX30_in : ∀ w ∈ wsX30, w ∈ lw_tbl := in_by _ [71, 73, 75, 77, 79] (by decide +kernel)
set_option maxRecDepth 20000 in
theorem wsX70_in : ∀ w ∈ wsX70, w ∈ lw_tbl := in_by _ [103, 105, 107] (by decide +kernel)
set_option maxRecDepth 20000 in
theorem wsX90_in : ∀ w ∈ wsX90, w ∈ lw_tbl := in_by _ [118] (by decide +kernel)
set_option maxRecDepth 20000 in
theorem wsX60_in : ∀ w ∈ wsX60, w ∈ lw_tbl := in_by _ [281, 283, 285, 287, 289, 291, 293, 295] (by decide +kernel)
set_option maxRecDepth 20000 in
theorem wsX40_in : ∀ w ∈ wsX40, w ∈ lw_tbl := in_by _ [342, 344, 346, 348] (by decide +kernel)
set_option maxRecDepth 20000 in
theorem wsX10_in : ∀ w ∈ wsX10, w ∈ lw_tbl := in_by _ [354, 355, 356, 357] (by decide +kernel)
set_option maxRecDepth 20000 in
theorem wsX20_in : ∀ w ∈ wsX20, w ∈ lw_tbl := in_by _ [361, 362, 363, 364] (by decide +kernel)
set_option maxRecDepth 20000 in
theorem wsX00_in : ∀ w ∈ wsX00, w ∈ lw_tbl := in_by _ [383, 385, 387, 389] (by decide +kernel)
set_option maxRecDepth 20000 in
theorem wsX80_in : ∀ w ∈ wsX80, w ∈ lw_tbl := in_by _ [434, 436, 438, 440, 442, 444, 446, 448, 450, 452, 454, 456] (by decide +kernel)
set_option maxRecDepth 20000 in
theorem wsX50_in : ∀ w ∈ wsX50, w ∈ lw_tbl := in_by _ [482, 484] (by decide +kernel)
theorem wsL_law_in : ∀ w ∈ wsL_law, w ∈ lw_tbl := List.forall_mem_append.mpr ⟨(List.forall_mem_append.mpr ⟨(List.forall_mem_append.mpr ⟨(List.forall_mem_append.mpr ⟨(List.forall_mem_append.mpr ⟨(List.forall_mem_append.mpr ⟨(List.forall_mem_append.mpr ⟨(List.forall_mem_append.mpr ⟨(List.forall_mem_append.mpr ⟨(List.forall_mem_append.mpr ⟨(List.forall_mem_append.mpr ⟨(List.forall_mem_append.mpr ⟨(List.forall_mem_append.mpr ⟨(List.forall_mem_append.mpr ⟨wsL_law_r1_in, (List.forall_mem_append.mpr ⟨wsL_law_r2_in, (List.forall_mem_append.mpr ⟨wsL_law_r3_in, (List.forall_mem_append.mpr ⟨wsL_law_r4_in, (List.forall_mem_append.mpr ⟨wsL_law_r5_in, (List.forall_mem_append.mpr ⟨wsL_law_r6_in, (List.forall_mem_append.mpr ⟨wsL_law_r7_in, (List.forall_mem_append.mpr ⟨wsL_law_r8_in, (List.forall_mem_append.mpr ⟨wsL_law_r9_in, (List.forall_mem_append.mpr ⟨wsL_law_r10_in, (List.forall_mem_append.mpr ⟨wsL_law_r11_in, (List.forall_mem_append.mpr ⟨wsL_law_r12_in, (List.forall_mem_append.mpr ⟨wsL_law_r13_in, (List.forall_mem_append.mpr ⟨wsL_law_r14_in, (List.forall_mem_append.mpr ⟨wsL_law_r15_in, (List.forall_mem_append.mpr ⟨wsL_law_r16_in, (List.forall_mem_append.mpr ⟨wsL_law_r17_in, (List.forall_mem_append.mpr ⟨wsL_law_r18_in, (List.forall_mem_append.mpr ⟨wsL_law_r19_in, (List.forall_mem_append.mpr ⟨wsL_law_r20_in, (List.forall_mem_append.mpr ⟨wsL_law_r21_in, (List.forall_mem_append.mpr ⟨wsL_law_r22_in, (List.forall_mem_append.mpr ⟨wsL_law_r23_in, (List.forall_mem_append.mpr ⟨wsL_law_r24_in, (List.forall_mem_append.mpr ⟨wsL_law_r25_in, (List.forall_mem_append.mpr ⟨wsL_law_r26_in, (List.forall_mem_append.mpr ⟨wsL_law_r27_in, (List.forall_mem_append.mpr ⟨wsL_law_r28_in, (List.forall_mem_append.mpr ⟨wsL_law_r29_in, (List.forall_mem_append.mpr ⟨wsL_law_r30_in, (List.forall_mem_append.mpr ⟨wsL_law_r31_in, (List.forall_mem_append.mpr ⟨wsL_law_r32_in, (List.forall_mem_append.mpr ⟨wsL_law_r33_in, wsL_law_r34_in⟩)⟩)⟩)⟩)⟩)⟩)⟩)⟩)⟩)⟩)⟩)⟩)⟩)⟩)⟩)⟩)⟩)⟩)⟩)⟩)⟩)⟩)⟩)⟩)⟩)⟩)⟩)⟩)⟩)⟩)⟩)⟩)⟩), wsX100_in⟩), wsX110_in⟩), wsX30_in⟩), wsX70_in⟩), wsX90_in⟩), wsX60_in⟩), wsX40_in⟩), wsX10_in⟩), wsX20_in⟩), wsX00_in⟩), wsX80_in⟩), wsX50_in⟩), fun _ h => absurd h List.not_mem_nil⟩
theorem inlX0 : ∀ w ∈ wsX00, w ∈ wsL_law := fun _ h => List.mem_append_left _ (List.mem_append_left _ (List.mem_append_left _ (List.mem_append_right _ h)))
theorem inX0 : ∀ w ∈ wsX00, w ∈ lw_tbl := fun w h => wsL_law_in w (inlX0 w h)
theorem inlX1 : ∀ w ∈ wsX10, w ∈ wsL_law := fun _ h => List.mem_append_left _ (List.mem_append_left _ (List.mem_append_left _ (List.mem_append_left _ (List.mem_append_left _ (List.mem_append_right _ h)))))
theorem inX1 : ∀ w ∈ wsX10, w ∈ lw_tbl := fun w h => wsL_law_in w (inlX1 w h)
theorem inlX2 : ∀ w ∈ wsX20, w ∈ wsL_law := fun _ h => List.mem_append_left _ (List.mem_append_left _ (List.mem_append_left _ (List.mem_append_left _ (List.mem_append_right _ h))))
theorem inX2 : ∀ w ∈ wsX20, w ∈ lw_tbl := fun w h => wsL_law_in w (inlX2 w h)
theorem inlX3 : ∀ w ∈ wsX30, w ∈ wsL_law := fun _ h => List.mem_append_left _ (List.mem_append_left _ (List.mem_append_left _ (List.mem_append_left _ (List.mem_append_left _ (List.mem_append_left _ (List.mem_append_left _ (List.mem_append_left _ (List.mem_append_left _ (List.mem_append_left _ (List.mem_append_right _ h))))))))))
theorem inX3 : ∀ w ∈ wsX30, w ∈ lw_tbl := fun w h => wsL_law_in w (inlX3 w h)
theorem inlX4 : ∀ w ∈ wsX40, w ∈ wsL_law := fun _ h => List.mem_append_left _ (List.mem_append_left _ (List.mem_append_left _ (List.mem_append_left _ (List.mem_append_left _ (List.mem_append_left _ (List.mem_append_right _ h))))))
theorem inX4 : ∀ w ∈ wsX40, w ∈ lw_tbl := fun w h => wsL_law_in w (inlX4 w h)
theorem inlX5 : ∀ w ∈ wsX50, w ∈ wsL_law := fun _ h => List.mem_append_left _ (List.mem_append_right _ h)
theorem inX5 : ∀ w ∈ wsX50, w ∈ lw_tbl := fun w h => wsL_law_in w (inlX5 w h)
theorem inlX6 : ∀ w ∈ wsX60, w ∈ wsL_law := fun _ h => List.mem_append_left _ (List.mem_append_left _ (List.mem_append_left _ (List.mem_append_left _ (List.mem_append_left _ (List.mem_append_left _ (List.mem_append_left _ (List.mem_append_right _ h)))))))
theorem inX6 : ∀ w ∈ wsX60, w ∈ lw_tbl := fun w h => wsL_law_in w (inlX6 w h)
theorem inlX7 : ∀ w ∈ wsX70, w ∈ wsL_law := fun _ h => List.mem_append_left _ (List.mem_append_left _ (List.mem_append_left _ (List.mem_append_left _ (List.mem_append_left _ (List.mem_append_left _ (List.mem_append_left _ (List.mem_append_left _ (List.mem_append_left _ (List.mem_append_right _ h)))))))))
theorem inX7 : ∀ w ∈ wsX70, w ∈ lw_tbl := fun w h => wsL_law_in w (inlX7 w h)
theorem inlX8 : ∀ w ∈ wsX80, w ∈ wsL_law := fun _ h => List.mem_append_left _ (List.mem_append_left _ (List.mem_append_right _ h))
theorem inX8 : ∀ w ∈ wsX80, w ∈ lw_tbl := fun w h => wsL_law_in w (inlX8 w h)
theorem inlX9 : ∀ w ∈ wsX90, w ∈ wsL_law := fun _ h => List.mem_append_left _ (List.mem_append_left _ (List.mem_append_left _ (List.mem_append_left _ (List.mem_append_left _ (List.mem_append_left _ (List.mem_append_left _ (List.mem_append_left _ (List.mem_append_right _ h))))))))
theorem inX9 : ∀ w ∈ wsX90, w ∈ lw_tbl := fun w h => wsL_law_in w (inlX9 w h)
theorem inlX10 : ∀ w ∈ wsX100, w ∈ wsL_law := fun _ h => List.mem_append_left _ (List.mem_append_left _ (List.mem_append_left _ (List.mem_append_left _ (List.mem_append_left _ (List.mem_append_left _ (List.mem_append_left _ (List.mem_append_left _ (List.mem_append_left _ (List.mem_append_left _ (List.mem_append_left _ (List.mem_append_left _ (List.mem_append_right _ h))))))))))))
theorem inX10 : ∀ w ∈ wsX100, w ∈ lw_tbl := fun w h => wsL_law_in w (inlX10 w h)
theorem inlX11 : ∀ w ∈ wsX110, w ∈ wsL_law := fun _ h => List.mem_append_left _ (List.mem_append_left _ (List.mem_append_left _ (List.mem_append_left _ (List.mem_append_left _ (List.mem_append_left _ (List.mem_append_left _ (List.mem_append_left _ (List.mem_append_left _ (List.mem_append_left _ (List.mem_append_left _ (List.mem_append_right _ h)))))))))))
theorem inX11 : ∀ w ∈ wsX110, w ∈ lw_tbl := fun w h => wsL_law_in w (inlX11 w h)
theorem inJ9 : ∀ w ∈ wsJ90, w ∈ lw_tbl := by decide +kernel
theorem inJ10 : ∀ w ∈ wsJ100, w ∈ lw_tbl := by decide +kernel
theorem inJ7 : ∀ w ∈ wsJ70, w ∈ lw_tbl := by decide +kernel
theorem dX0_init_0 : decode cX0_init 0 = .ok (.aload_n 0, 1) := by decide +kernel
theorem dX0_init_1 : decode cX0_init 1 = .ok (.invokespecial 1, 3) := by decide +kernel
theorem dX0_init_4 : decode cX0_init 4 = .ok (.aload_n 0, 1) := by decide +kernel
theorem dX0_init_5 : decode cX0_init 5 = .ok (.aload_n 1, 1) := by decide +kernel
theorem dX0_init_6 : decode cX0_init 6 = .ok (.putfield 7, 3) := by decide +kernel
theorem dX0_init_9 : decode cX0_init 9 = .ok (.aload_n 0, 1) := by decide +kernel
theorem dX0_init_10 : decode cX0_init 10 = .ok (.iload_n 2, 1) := by decide +kernel
theorem dX0_init_11 : decode cX0_init 11 = .ok (.putfield 13, 3) := by decide +kernel
theorem dX0_init_14 : decode cX0_init 14 = .ok (.return_, 1) := by decide +kernel
theorem dX0_mostShare_0 : decode cX0_mostShare 0 = .ok (.aload_n 0, 1) := by decide +kernel
theorem dX0_mostShare_1 : decode cX0_mostShare 1 = .ok (.getfield 17, 3) := by decide +kernel
theorem dX0_mostShare_4 : decode cX0_mostShare 4 = .ok (.ifCond .ne 10, 3) := by decide +kernel
theorem dX0_mostShare_7 : decode cX0_mostShare 7 = .ok (.aload_n 0, 1) := by decide +kernel
theorem dX0_mostShare_8 : decode cX0_mostShare 8 = .ok (.getfield 13, 3) := by decide +kernel
theorem dX0_mostShare_11 : decode cX0_mostShare 11 = .ok (.goto 9, 3) := by decide +kernel
theorem dX0_mostShare_14 : decode cX0_mostShare 14 = .ok (.aload_n 0, 1) := by decide +kernel
theorem dX0_mostShare_15 : decode cX0_mostShare 15 = .ok (.getfield 13, 3) := by decide +kernel
theorem dX0_mostShare_18 : decode cX0_mostShare 18 = .ok (.iconst 1, 1) := by decide +kernel
theorem dX0_mostShare_19 : decode cX0_mostShare 19 = .ok (.isub, 1) := by decide +kernel
theorem dX0_mostShare_20 : decode cX0_mostShare 20 = .ok (.ireturn, 1) := by decide +kernel
set_option maxRecDepth 20000 in
theorem ggX1_init_X2_init : GoodIn wsX1_init wsX2_init := goodIn_r _ [4, 5, 6, 7, 8, 9, 10, 11, 12, 13, 14, 15, 16, 17, 18, 19, 20] (by decide +kernel) (by decide +kernel)
set_option maxRecDepth 20000 in
theorem gX1_init_X2_init : GoodIn wsX1_init (wsX2_init) := ggX1_init_X2_init
theorem dX1_init_0 : decode cX1_init 0 = .ok (.aload_n 0, 1) := by decide +kernel
theorem dX1_init_1 : decode cX1_init 1 = .ok (.iload_n 1, 1) := by decide +kernel
theorem dX1_init_2 : decode cX1_init 2 = .ok (.invokespecial 1, 3) := by decide +kernel
theorem dX1_init_5 : decode cX1_init 5 = .ok (.return_, 1) := by decide +kernel
theorem dX1_costsBorne_0 : decode cX1_costsBorne 0 = .ok (.lload_n 1, 1) := by decide +kernel
theorem dX1_costsBorne_1 : decode cX1_costsBorne 1 = .ok (.ldc2_w 7, 3) := by decide +kernel
theorem dX1_costsBorne_4 : decode cX1_costsBorne 4 = .ok (.ldiv, 1) := by decide +kernel
theorem dX1_costsBorne_5 : decode cX1_costsBorne 5 = .ok (.lreturn, 1) := by decide +kernel
set_option maxRecDepth 20000 in
theorem ggX1_telling_X9_leave : GoodIn wsX1_telling wsX9_leave := goodIn_r _ [5, 6, 16] (by decide +kernel) (by decide +kernel)
set_option maxRecDepth 20000 in
theorem gX1_telling_X9_leave : GoodIn wsX1_telling (wsV RX1 9 RX9 yX9_leave wsX9_leave) := goodIn_app (goodIn_of _ (by decide +kernel)) ggX1_telling_X9_leave
set_option maxRecDepth 20000 in
theorem ggX1_telling_X2_tellingOfAnyGang : GoodIn wsX1_telling wsX2_tellingOfAnyGang := goodIn_r _ [12, 13, 14, 2, 3, 4, 5, 6, 17, 18, 19, 20, 21, 22, 23, 24, 25, 26, 27, 28, 16] (by decide +kernel) (by decide +kernel)
set_option maxRecDepth 20000 in
theorem gX1_telling_X2_tellingOfAnyGang_u14X1 : GoodIn wsX1_telling (va_wsU RX1 14 RX1 "TributePitches$Gang" ⟨"TributePitches$Family", "tellingOfAnyGang", "(LTributePitches$Trace;)I"⟩ yX2_tellingOfAnyGang wsX2_tellingOfAnyGang) := goodIn_app (goodIn_of _ (by decide +kernel)) ggX1_telling_X2_tellingOfAnyGang
set_option maxRecDepth 20000 in
theorem gX1_telling_X2_tellingOfAnyGang_u14X4 : GoodIn wsX1_telling (va_wsU RX1 14 RX4 "TributePitches$Gang" ⟨"TributePitches$Family", "tellingOfAnyGang", "(LTributePitches$Trace;)I"⟩ yX2_tellingOfAnyGang wsX2_tellingOfAnyGang) := goodIn_app (goodIn_of _ (by decide +kernel)) ggX1_telling_X2_tellingOfAnyGang
theorem dX1_telling_0 : decode cX1_telling 0 = .ok (.aload_n 1, 1) := by decide +kernel
theorem dX1_telling_1 : decode cX1_telling 1 = .ok (.iconst 2, 1) := by decide +kernel
theorem dX1_telling_2 : decode cX1_telling 2 = .ok (.invokevirtual 9, 3) := by decide +kernel
theorem dX1_telling_5 : decode cX1_telling 5 = .ok (.bipush 10, 2) := by decide +kernel
theorem dX1_telling_7 : decode cX1_telling 7 = .ok (.aload_n 0, 1) := by decide +kernel
theorem dX1_telling_8 : decode cX1_telling 8 = .ok (.aload_n 1, 1) := by decide +kernel
theorem dX1_telling_9 : decode cX1_telling 9 = .ok (.invokevirtual 14, 3) := by decide +kernel
theorem dX1_telling_12 : decode cX1_telling 12 = .ok (.iadd, 1) := by decide +kernel
theorem dX1_telling_13 : decode cX1_telling 13 = .ok (.ireturn, 1) := by decide +kernel
set_option maxRecDepth 20000 in
theorem ggX1_greeting_X9_leave : GoodIn wsX1_greeting wsX9_leave := goodIn_r _ [5, 6, 7] (by decide +kernel) (by decide +kernel)
set_option maxRecDepth 20000 in
theorem gX1_greeting_X9_leave : GoodIn wsX1_greeting (wsV RX1 9 RX9 yX9_leave wsX9_leave) := goodIn_app (goodIn_of _ (by decide +kernel)) ggX1_greeting_X9_leave
theorem dX1_greeting_0 : decode cX1_greeting 0 = .ok (.aload_n 1, 1) := by decide +kernel
theorem dX1_greeting_1 : decode cX1_greeting 1 = .ok (.iconst 5, 1) := by decide +kernel
theorem dX1_greeting_2 : decode cX1_greeting 2 = .ok (.invokevirtual 9, 3) := by decide +kernel
theorem dX1_greeting_5 : decode cX1_greeting 5 = .ok (.bipush 6, 2) := by decide +kernel
theorem dX1_greeting_7 : decode cX1_greeting 7 = .ok (.ireturn, 1) := by decide +kernel
theorem dX2_init_0 : decode cX2_init 0 = .ok (.aload_n 0, 1) := by decide +kernel
theorem dX2_init_1 : decode cX2_init 1 = .ok (.invokespecial 3, 3) := by decide +kernel
theorem dX2_init_4 : decode cX2_init 4 = .ok (.aload_n 0, 1) := by decide +kernel
theorem dX2_init_5 : decode cX2_init 5 = .ok (.iload_n 1, 1) := by decide +kernel
theorem dX2_init_6 : decode cX2_init 6 = .ok (.putfield 9, 3) := by decide +kernel
theorem dX2_init_9 : decode cX2_init 9 = .ok (.return_, 1) := by decide +kernel
theorem dX2_costsBorne_0 : decode cX2_costsBorne 0 = .ok (.lload_n 1, 1) := by decide +kernel
theorem dX2_costsBorne_1 : decode cX2_costsBorne 1 = .ok (.lreturn, 1) := by decide +kernel
theorem dX2_debtTaken_0 : decode cX2_debtTaken 0 = .ok (.aload_n 0, 1) := by decide +kernel
theorem dX2_debtTaken_1 : decode cX2_debtTaken 1 = .ok (.getfield 15, 3) := by decide +kernel
theorem dX2_debtTaken_4 : decode cX2_debtTaken 4 = .ok (.lreturn, 1) := by decide +kernel
set_option maxRecDepth 20000 in
theorem ggX2_telling_X2_tellingOfAnyGang : GoodIn wsX2_telling wsX2_tellingOfAnyGang := goodIn_r _ [6, 7, 8, 9, 10, 11, 12, 13, 17, 18, 19, 20, 21, 22, 23, 24, 25, 26, 27, 28, 29] (by decide +kernel) (by decide +kernel)
set_option maxRecDepth 20000 in
theorem gX2_telling_X2_tellingOfAnyGang_u19X1 : GoodIn wsX2_telling (va_wsU RX2 19 RX1 "TributePitches$Gang" ⟨"TributePitches$Gang", "tellingOfAnyGang", "(LTributePitches$Trace;)I"⟩ yX2_tellingOfAnyGang wsX2_tellingOfAnyGang) := goodIn_app (goodIn_of _ (by decide +kernel)) ggX2_telling_X2_tellingOfAnyGang
set_option maxRecDepth 20000 in
theorem gX2_telling_X2_tellingOfAnyGang : GoodIn wsX2_telling (wsV RX2 19 RX2 yX2_tellingOfAnyGang wsX2_tellingOfAnyGang) := goodIn_app (goodIn_of _ (by decide +kernel)) ggX2_telling_X2_tellingOfAnyGang
set_option maxRecDepth 20000 in
theorem gX2_telling_X2_tellingOfAnyGang_u19X4 : GoodIn wsX2_telling (va_wsU RX2 19 RX4 "TributePitches$Gang" ⟨"TributePitches$Gang", "tellingOfAnyGang", "(LTributePitches$Trace;)I"⟩ yX2_tellingOfAnyGang wsX2_tellingOfAnyGang) := goodIn_app (goodIn_of _ (by decide +kernel)) ggX2_telling_X2_tellingOfAnyGang
theorem dX2_telling_0 : decode cX2_telling 0 = .ok (.aload_n 0, 1) := by decide +kernel
theorem dX2_telling_1 : decode cX2_telling 1 = .ok (.aload_n 1, 1) := by decide +kernel
theorem dX2_telling_2 : decode cX2_telling 2 = .ok (.invokevirtual 19, 3) := by decide +kernel
theorem dX2_telling_5 : decode cX2_telling 5 = .ok (.ireturn, 1) := by decide +kernel
set_option maxRecDepth 20000 in
theorem ggX2_tellingOfAnyGang_X9_leave : GoodIn wsX2_tellingOfAnyGang wsX9_leave := goodIn_r _ [6, 7, 20] (by decide +kernel) (by decide +kernel)
set_option maxRecDepth 20000 in
theorem gX2_tellingOfAnyGang_X9_leave : GoodIn wsX2_tellingOfAnyGang (wsV RX2 23 RX9 yX9_leave wsX9_leave) := goodIn_app (goodIn_of _ (by decide +kernel)) ggX2_tellingOfAnyGang_X9_leave
theorem dX2_tellingOfAnyGang_0 : decode cX2_tellingOfAnyGang 0 = .ok (.aload_n 1, 1) := by decide +kernel
theorem dX2_tellingOfAnyGang_1 : decode cX2_tellingOfAnyGang 1 = .ok (.iconst 1, 1) := by decide +kernel
theorem dX2_tellingOfAnyGang_2 : decode cX2_tellingOfAnyGang 2 = .ok (.invokevirtual 23, 3) := by decide +kernel
theorem dX2_tellingOfAnyGang_5 : decode cX2_tellingOfAnyGang 5 = .ok (.aload_n 0, 1) := by decide +kernel
theorem dX2_tellingOfAnyGang_6 : decode cX2_tellingOfAnyGang 6 = .ok (.getfield 29, 3) := by decide +kernel
theorem dX2_tellingOfAnyGang_9 : decode cX2_tellingOfAnyGang 9 = .ok (.ireturn, 1) := by decide +kernel
set_option maxRecDepth 20000 in
theorem ggX2_greeting_X9_leave : GoodIn wsX2_greeting wsX9_leave := goodIn_r _ [6, 7, 20] (by decide +kernel) (by decide +kernel)
set_option maxRecDepth 20000 in
theorem gX2_greeting_X9_leave : GoodIn wsX2_greeting (wsV RX2 23 RX9 yX9_leave wsX9_leave) := goodIn_app (goodIn_of _ (by decide +kernel)) ggX2_greeting_X9_leave
theorem dX2_greeting_0 : decode cX2_greeting 0 = .ok (.aload_n 1, 1) := by decide +kernel
theorem dX2_greeting_1 : decode cX2_greeting 1 = .ok (.iconst 4, 1) := by decide +kernel
theorem dX2_greeting_2 : decode cX2_greeting 2 = .ok (.invokevirtual 23, 3) := by decide +kernel
theorem dX2_greeting_5 : decode cX2_greeting 5 = .ok (.bipush 10, 2) := by decide +kernel
theorem dX2_greeting_7 : decode cX2_greeting 7 = .ok (.aload_n 0, 1) := by decide +kernel
theorem dX2_greeting_8 : decode cX2_greeting 8 = .ok (.getfield 9, 3) := by decide +kernel
theorem dX2_greeting_11 : decode cX2_greeting 11 = .ok (.imul, 1) := by decide +kernel
theorem dX2_greeting_12 : decode cX2_greeting 12 = .ok (.iconst 0, 1) := by decide +kernel
theorem dX2_greeting_13 : decode cX2_greeting 13 = .ok (.iadd, 1) := by decide +kernel
theorem dX2_greeting_14 : decode cX2_greeting 14 = .ok (.ireturn, 1) := by decide +kernel
set_option maxRecDepth 20000 in
theorem ggX3_init_J7_fill_53178 : GoodIn wsX3_init wsJ7_fill_53178 := goodIn_r _ [13] (by decide +kernel) (by decide +kernel)
set_option maxRecDepth 20000 in
theorem gX3_init_J7_fill_53178 : GoodIn wsX3_init (va_wsS RX3 28 yJ7_fill_53178 wsJ7_fill_53178) := goodIn_app (goodIn_of _ (by decide +kernel)) ggX3_init_J7_fill_53178
theorem dX3_init_0 : decode cX3_init 0 = .ok (.aload_n 0, 1) := by decide +kernel
theorem dX3_init_1 : decode cX3_init 1 = .ok (.invokespecial 5, 3) := by decide +kernel
theorem dX3_init_4 : decode cX3_init 4 = .ok (.aload_n 0, 1) := by decide +kernel
theorem dX3_init_5 : decode cX3_init 5 = .ok (.bipush 48, 2) := by decide +kernel
theorem dX3_init_7 : decode cX3_init 7 = .ok (.newarray .int, 2) := by decide +kernel
theorem dX3_init_9 : decode cX3_init 9 = .ok (.putfield 11, 3) := by decide +kernel
theorem dX3_init_12 : decode cX3_init 12 = .ok (.aload_n 0, 1) := by decide +kernel
theorem dX3_init_13 : decode cX3_init 13 = .ok (.bipush 48, 2) := by decide +kernel
theorem dX3_init_15 : decode cX3_init 15 = .ok (.newarray .int, 2) := by decide +kernel
theorem dX3_init_17 : decode cX3_init 17 = .ok (.putfield 15, 3) := by decide +kernel
theorem dX3_init_20 : decode cX3_init 20 = .ok (.aload_n 0, 1) := by decide +kernel
theorem dX3_init_21 : decode cX3_init 21 = .ok (.bipush 48, 2) := by decide +kernel
theorem dX3_init_23 : decode cX3_init 23 = .ok (.newarray .int, 2) := by decide +kernel
theorem dX3_init_25 : decode cX3_init 25 = .ok (.putfield 18, 3) := by decide +kernel
theorem dX3_init_28 : decode cX3_init 28 = .ok (.aload_n 0, 1) := by decide +kernel
theorem dX3_init_29 : decode cX3_init 29 = .ok (.bipush 48, 2) := by decide +kernel
theorem dX3_init_31 : decode cX3_init 31 = .ok (.newarray .int, 2) := by decide +kernel
theorem dX3_init_33 : decode cX3_init 33 = .ok (.putfield 21, 3) := by decide +kernel
theorem dX3_init_36 : decode cX3_init 36 = .ok (.aload_n 0, 1) := by decide +kernel
theorem dX3_init_37 : decode cX3_init 37 = .ok (.sipush 1000, 3) := by decide +kernel
theorem dX3_init_40 : decode cX3_init 40 = .ok (.putfield 24, 3) := by decide +kernel
theorem dX3_init_43 : decode cX3_init 43 = .ok (.aload_n 0, 1) := by decide +kernel
theorem dX3_init_44 : decode cX3_init 44 = .ok (.getfield 15, 3) := by decide +kernel
theorem dX3_init_47 : decode cX3_init 47 = .ok (.sipush 1000, 3) := by decide +kernel
theorem dX3_init_50 : decode cX3_init 50 = .ok (.invokestatic 28, 3) := by decide +kernel
theorem dX3_init_53 : decode cX3_init 53 = .ok (.return_, 1) := by decide +kernel
set_option maxRecDepth 20000 in
theorem ggX3_hasSquare_X10_isWithin : GoodIn wsX3_hasSquare wsX10_isWithin := goodIn_r _ [3] (by decide +kernel) (by decide +kernel)
set_option maxRecDepth 20000 in
theorem gX3_hasSquare_X10_isWithin_n34 : GoodIn wsX3_hasSquare (wsX10_isWithin) := ggX3_hasSquare_X10_isWithin
theorem dX3_hasSquare_0 : decode cX3_hasSquare 0 = .ok (.iload_n 0, 1) := by decide +kernel
theorem dX3_hasSquare_1 : decode cX3_hasSquare 1 = .ok (.iconst 0, 1) := by decide +kernel
theorem dX3_hasSquare_2 : decode cX3_hasSquare 2 = .ok (.bipush 7, 2) := by decide +kernel
theorem dX3_hasSquare_4 : decode cX3_hasSquare 4 = .ok (.invokestatic 34, 3) := by decide +kernel
theorem dX3_hasSquare_7 : decode cX3_hasSquare 7 = .ok (.ifCond .eq 16, 3) := by decide +kernel
theorem dX3_hasSquare_10 : decode cX3_hasSquare 10 = .ok (.iload_n 1, 1) := by decide +kernel
theorem dX3_hasSquare_11 : decode cX3_hasSquare 11 = .ok (.iconst 0, 1) := by decide +kernel
theorem dX3_hasSquare_12 : decode cX3_hasSquare 12 = .ok (.iconst 5, 1) := by decide +kernel
theorem dX3_hasSquare_13 : decode cX3_hasSquare 13 = .ok (.invokestatic 34, 3) := by decide +kernel
theorem dX3_hasSquare_16 : decode cX3_hasSquare 16 = .ok (.ifCond .eq 7, 3) := by decide +kernel
theorem dX3_hasSquare_19 : decode cX3_hasSquare 19 = .ok (.iconst 1, 1) := by decide +kernel
theorem dX3_hasSquare_20 : decode cX3_hasSquare 20 = .ok (.goto 4, 3) := by decide +kernel
theorem dX3_hasSquare_23 : decode cX3_hasSquare 23 = .ok (.iconst 0, 1) := by decide +kernel
theorem dX3_hasSquare_24 : decode cX3_hasSquare 24 = .ok (.ireturn, 1) := by decide +kernel
theorem dX3_numberOf_0 : decode cX3_numberOf 0 = .ok (.bipush 8, 2) := by decide +kernel
theorem dX3_numberOf_2 : decode cX3_numberOf 2 = .ok (.iload_n 1, 1) := by decide +kernel
theorem dX3_numberOf_3 : decode cX3_numberOf 3 = .ok (.imul, 1) := by decide +kernel
theorem dX3_numberOf_4 : decode cX3_numberOf 4 = .ok (.iload_n 0, 1) := by decide +kernel
theorem dX3_numberOf_5 : decode cX3_numberOf 5 = .ok (.iadd, 1) := by decide +kernel
theorem dX3_numberOf_6 : decode cX3_numberOf 6 = .ok (.ireturn, 1) := by decide +kernel
theorem dX3_beginTrial_0 : decode cX3_beginTrial 0 = .ok (.aload_n 0, 1) := by decide +kernel
theorem dX3_beginTrial_1 : decode cX3_beginTrial 1 = .ok (.getfield 11, 3) := by decide +kernel
theorem dX3_beginTrial_4 : decode cX3_beginTrial 4 = .ok (.iconst 0, 1) := by decide +kernel
theorem dX3_beginTrial_5 : decode cX3_beginTrial 5 = .ok (.aload_n 0, 1) := by decide +kernel
theorem dX3_beginTrial_6 : decode cX3_beginTrial 6 = .ok (.getfield 18, 3) := by decide +kernel
theorem dX3_beginTrial_9 : decode cX3_beginTrial 9 = .ok (.iconst 0, 1) := by decide +kernel
theorem dX3_beginTrial_10 : decode cX3_beginTrial 10 = .ok (.bipush 48, 2) := by decide +kernel
theorem dX3_beginTrial_12 : decode cX3_beginTrial 12 = .ok (.invokestatic 38, 3) := by decide +kernel
theorem dX3_beginTrial_15 : decode cX3_beginTrial 15 = .ok (.aload_n 0, 1) := by decide +kernel
theorem dX3_beginTrial_16 : decode cX3_beginTrial 16 = .ok (.getfield 15, 3) := by decide +kernel
theorem dX3_beginTrial_19 : decode cX3_beginTrial 19 = .ok (.iconst 0, 1) := by decide +kernel
theorem dX3_beginTrial_20 : decode cX3_beginTrial 20 = .ok (.aload_n 0, 1) := by decide +kernel
theorem dX3_beginTrial_21 : decode cX3_beginTrial 21 = .ok (.getfield 21, 3) := by decide +kernel
theorem dX3_beginTrial_24 : decode cX3_beginTrial 24 = .ok (.iconst 0, 1) := by decide +kernel
theorem dX3_beginTrial_25 : decode cX3_beginTrial 25 = .ok (.bipush 48, 2) := by decide +kernel
theorem dX3_beginTrial_27 : decode cX3_beginTrial 27 = .ok (.invokestatic 38, 3) := by decide +kernel
theorem dX3_beginTrial_30 : decode cX3_beginTrial 30 = .ok (.return_, 1) := by decide +kernel
theorem dX3_tryCommon_0 : decode cX3_tryCommon 0 = .ok (.aload_n 0, 1) := by decide +kernel
theorem dX3_tryCommon_1 : decode cX3_tryCommon 1 = .ok (.getfield 18, 3) := by decide +kernel
theorem dX3_tryCommon_4 : decode cX3_tryCommon 4 = .ok (.iload_n 1, 1) := by decide +kernel
theorem dX3_tryCommon_5 : decode cX3_tryCommon 5 = .ok (.aload_n 0, 1) := by decide +kernel
theorem dX3_tryCommon_6 : decode cX3_tryCommon 6 = .ok (.getfield 18, 3) := by decide +kernel
theorem dX3_tryCommon_9 : decode cX3_tryCommon 9 = .ok (.iload_n 1, 1) := by decide +kernel
theorem dX3_tryCommon_10 : decode cX3_tryCommon 10 = .ok (.iaload, 1) := by decide +kernel
theorem dX3_tryCommon_11 : decode cX3_tryCommon 11 = .ok (.iload_n 2, 1) := by decide +kernel
theorem dX3_tryCommon_12 : decode cX3_tryCommon 12 = .ok (.invokestatic 44, 3) := by decide +kernel
theorem dX3_tryCommon_15 : decode cX3_tryCommon 15 = .ok (.iastore, 1) := by decide +kernel
theorem dX3_tryCommon_16 : decode cX3_tryCommon 16 = .ok (.aload_n 0, 1) := by decide +kernel
theorem dX3_tryCommon_17 : decode cX3_tryCommon 17 = .ok (.getfield 21, 3) := by decide +kernel
theorem dX3_tryCommon_20 : decode cX3_tryCommon 20 = .ok (.iload_n 1, 1) := by decide +kernel
theorem dX3_tryCommon_21 : decode cX3_tryCommon 21 = .ok (.aload_n 0, 1) := by decide +kernel
theorem dX3_tryCommon_22 : decode cX3_tryCommon 22 = .ok (.getfield 21, 3) := by decide +kernel
theorem dX3_tryCommon_25 : decode cX3_tryCommon 25 = .ok (.iload_n 1, 1) := by decide +kernel
theorem dX3_tryCommon_26 : decode cX3_tryCommon 26 = .ok (.iaload, 1) := by decide +kernel
theorem dX3_tryCommon_27 : decode cX3_tryCommon 27 = .ok (.iload_n 3, 1) := by decide +kernel
theorem dX3_tryCommon_28 : decode cX3_tryCommon 28 = .ok (.invokestatic 50, 3) := by decide +kernel
theorem dX3_tryCommon_31 : decode cX3_tryCommon 31 = .ok (.iastore, 1) := by decide +kernel
theorem dX3_tryCommon_32 : decode cX3_tryCommon 32 = .ok (.return_, 1) := by decide +kernel
set_option maxRecDepth 20000 in
theorem ggX3_endTrial_X3_narrowTrial : GoodIn wsX3_endTrial wsX3_narrowTrial := goodIn_r _ [14, 15, 16, 17, 13, 18, 1, 2, 19, 20, 21, 22, 23, 24, 25, 26, 27, 28, 29, 30, 31, 32, 33, 34] (by decide +kernel) (by decide +kernel)
set_option maxRecDepth 20000 in
theorem gX3_endTrial_X3_narrowTrial : GoodIn wsX3_endTrial (wsV RX3 53 RX3 yX3_narrowTrial wsX3_narrowTrial) := goodIn_app (goodIn_of _ (by decide +kernel)) ggX3_endTrial_X3_narrowTrial
theorem dX3_endTrial_0 : decode cX3_endTrial 0 = .ok (.aload_n 0, 1) := by decide +kernel
theorem dX3_endTrial_1 : decode cX3_endTrial 1 = .ok (.iload_n 1, 1) := by decide +kernel
theorem dX3_endTrial_2 : decode cX3_endTrial 2 = .ok (.invokevirtual 53, 3) := by decide +kernel
theorem dX3_endTrial_5 : decode cX3_endTrial 5 = .ok (.iconst 0, 1) := by decide +kernel
theorem dX3_endTrial_6 : decode cX3_endTrial 6 = .ok (.istore_n 2, 1) := by decide +kernel
theorem dX3_endTrial_7 : decode cX3_endTrial 7 = .ok (.iconst 0, 1) := by decide +kernel
theorem dX3_endTrial_8 : decode cX3_endTrial 8 = .ok (.istore_n 3, 1) := by decide +kernel
theorem dX3_endTrial_9 : decode cX3_endTrial 9 = .ok (.iload_n 3, 1) := by decide +kernel
theorem dX3_endTrial_10 : decode cX3_endTrial 10 = .ok (.bipush 48, 2) := by decide +kernel
theorem dX3_endTrial_12 : decode cX3_endTrial 12 = .ok (.if_icmp .ge 60, 3) := by decide +kernel
theorem dX3_endTrial_15 : decode cX3_endTrial 15 = .ok (.aload_n 0, 1) := by decide +kernel
theorem dX3_endTrial_16 : decode cX3_endTrial 16 = .ok (.getfield 18, 3) := by decide +kernel
theorem dX3_endTrial_19 : decode cX3_endTrial 19 = .ok (.iload_n 3, 1) := by decide +kernel
theorem dX3_endTrial_20 : decode cX3_endTrial 20 = .ok (.iaload, 1) := by decide +kernel
theorem dX3_endTrial_21 : decode cX3_endTrial 21 = .ok (.aload_n 0, 1) := by decide +kernel
theorem dX3_endTrial_22 : decode cX3_endTrial 22 = .ok (.getfield 21, 3) := by decide +kernel
theorem dX3_endTrial_25 : decode cX3_endTrial 25 = .ok (.iload_n 3, 1) := by decide +kernel
theorem dX3_endTrial_26 : decode cX3_endTrial 26 = .ok (.iaload, 1) := by decide +kernel
theorem dX3_endTrial_27 : decode cX3_endTrial 27 = .ok (.if_icmp .le 6, 3) := by decide +kernel
theorem dX3_endTrial_30 : decode cX3_endTrial 30 = .ok (.bipush (-3), 2) := by decide +kernel
theorem dX3_endTrial_32 : decode cX3_endTrial 32 = .ok (.ireturn, 1) := by decide +kernel
theorem dX3_endTrial_33 : decode cX3_endTrial 33 = .ok (.aload_n 0, 1) := by decide +kernel
theorem dX3_endTrial_34 : decode cX3_endTrial 34 = .ok (.getfield 18, 3) := by decide +kernel
theorem dX3_endTrial_37 : decode cX3_endTrial 37 = .ok (.iload_n 3, 1) := by decide +kernel
theorem dX3_endTrial_38 : decode cX3_endTrial 38 = .ok (.iaload, 1) := by decide +kernel
theorem dX3_endTrial_39 : decode cX3_endTrial 39 = .ok (.aload_n 0, 1) := by decide +kernel
theorem dX3_endTrial_40 : decode cX3_endTrial 40 = .ok (.getfield 11, 3) := by decide +kernel
theorem dX3_endTrial_43 : decode cX3_endTrial 43 = .ok (.iload_n 3, 1) := by decide +kernel
theorem dX3_endTrial_44 : decode cX3_endTrial 44 = .ok (.iaload, 1) := by decide +kernel
theorem dX3_endTrial_45 : decode cX3_endTrial 45 = .ok (.if_icmp .ne 18, 3) := by decide +kernel
theorem dX3_endTrial_48 : decode cX3_endTrial 48 = .ok (.aload_n 0, 1) := by decide +kernel
theorem dX3_endTrial_49 : decode cX3_endTrial 49 = .ok (.getfield 21, 3) := by decide +kernel
theorem dX3_endTrial_52 : decode cX3_endTrial 52 = .ok (.iload_n 3, 1) := by decide +kernel
theorem dX3_endTrial_53 : decode cX3_endTrial 53 = .ok (.iaload, 1) := by decide +kernel
theorem dX3_endTrial_54 : decode cX3_endTrial 54 = .ok (.aload_n 0, 1) := by decide +kernel
theorem dX3_endTrial_55 : decode cX3_endTrial 55 = .ok (.getfield 15, 3) := by decide +kernel
theorem dX3_endTrial_58 : decode cX3_endTrial 58 = .ok (.iload_n 3, 1) := by decide +kernel
theorem dX3_endTrial_59 : decode cX3_endTrial 59 = .ok (.iaload, 1) := by decide +kernel
theorem dX3_endTrial_60 : decode cX3_endTrial 60 = .ok (.if_icmp .eq 6, 3) := by decide +kernel
theorem dX3_endTrial_63 : decode cX3_endTrial 63 = .ok (.iinc 2 1, 3) := by decide +kernel
theorem dX3_endTrial_66 : decode cX3_endTrial 66 = .ok (.iinc 3 1, 3) := by decide +kernel
theorem dX3_endTrial_69 : decode cX3_endTrial 69 = .ok (.goto (-60), 3) := by decide +kernel
theorem dX3_endTrial_72 : decode cX3_endTrial 72 = .ok (.aload_n 0, 1) := by decide +kernel
theorem dX3_endTrial_73 : decode cX3_endTrial 73 = .ok (.getfield 18, 3) := by decide +kernel
theorem dX3_endTrial_76 : decode cX3_endTrial 76 = .ok (.iconst 0, 1) := by decide +kernel
theorem dX3_endTrial_77 : decode cX3_endTrial 77 = .ok (.aload_n 0, 1) := by decide +kernel
theorem dX3_endTrial_78 : decode cX3_endTrial 78 = .ok (.getfield 11, 3) := by decide +kernel
theorem dX3_endTrial_81 : decode cX3_endTrial 81 = .ok (.iconst 0, 1) := by decide +kernel
theorem dX3_endTrial_82 : decode cX3_endTrial 82 = .ok (.bipush 48, 2) := by decide +kernel
theorem dX3_endTrial_84 : decode cX3_endTrial 84 = .ok (.invokestatic 38, 3) := by decide +kernel
theorem dX3_endTrial_87 : decode cX3_endTrial 87 = .ok (.aload_n 0, 1) := by decide +kernel
theorem dX3_endTrial_88 : decode cX3_endTrial 88 = .ok (.getfield 21, 3) := by decide +kernel
theorem dX3_endTrial_91 : decode cX3_endTrial 91 = .ok (.iconst 0, 1) := by decide +kernel
theorem dX3_endTrial_92 : decode cX3_endTrial 92 = .ok (.aload_n 0, 1) := by decide +kernel
theorem dX3_endTrial_93 : decode cX3_endTrial 93 = .ok (.getfield 15, 3) := by decide +kernel
theorem dX3_endTrial_96 : decode cX3_endTrial 96 = .ok (.iconst 0, 1) := by decide +kernel
theorem dX3_endTrial_97 : decode cX3_endTrial 97 = .ok (.bipush 48, 2) := by decide +kernel
theorem dX3_endTrial_99 : decode cX3_endTrial 99 = .ok (.invokestatic 38, 3) := by decide +kernel
theorem dX3_endTrial_102 : decode cX3_endTrial 102 = .ok (.aload_n 0, 1) := by decide +kernel
theorem dX3_endTrial_103 : decode cX3_endTrial 103 = .ok (.iload_n 1, 1) := by decide +kernel
theorem dX3_endTrial_104 : decode cX3_endTrial 104 = .ok (.putfield 24, 3) := by decide +kernel
theorem dX3_endTrial_107 : decode cX3_endTrial 107 = .ok (.iload_n 2, 1) := by decide +kernel
theorem dX3_endTrial_108 : decode cX3_endTrial 108 = .ok (.ireturn, 1) := by decide +kernel
set_option maxRecDepth 20000 in
theorem ggX3_narrowTrial_X3_tryNeighbour : GoodIn wsX3_narrowTrial wsX3_tryNeighbour := goodIn_r _ [5, 6, 7, 8, 9, 10, 4, 11, 12, 13, 14, 15, 16, 17, 18, 19, 20, 21, 22, 23] (by decide +kernel) (by decide +kernel)
set_option maxRecDepth 20000 in
theorem gX3_narrowTrial_X3_tryNeighbour : GoodIn wsX3_narrowTrial (wsV RX3 57 RX3 yX3_tryNeighbour wsX3_tryNeighbour) := goodIn_app (goodIn_of _ (by decide +kernel)) ggX3_narrowTrial_X3_tryNeighbour
theorem dX3_narrowTrial_0 : decode cX3_narrowTrial 0 = .ok (.iconst 0, 1) := by decide +kernel
theorem dX3_narrowTrial_1 : decode cX3_narrowTrial 1 = .ok (.istore_n 2, 1) := by decide +kernel
theorem dX3_narrowTrial_2 : decode cX3_narrowTrial 2 = .ok (.iload_n 2, 1) := by decide +kernel
theorem dX3_narrowTrial_3 : decode cX3_narrowTrial 3 = .ok (.bipush 48, 2) := by decide +kernel
theorem dX3_narrowTrial_5 : decode cX3_narrowTrial 5 = .ok (.if_icmp .ge 41, 3) := by decide +kernel
theorem dX3_narrowTrial_8 : decode cX3_narrowTrial 8 = .ok (.iload_n 2, 1) := by decide +kernel
theorem dX3_narrowTrial_9 : decode cX3_narrowTrial 9 = .ok (.bipush 8, 2) := by decide +kernel
theorem dX3_narrowTrial_11 : decode cX3_narrowTrial 11 = .ok (.irem, 1) := by decide +kernel
theorem dX3_narrowTrial_12 : decode cX3_narrowTrial 12 = .ok (.ifCond .le 12, 3) := by decide +kernel
theorem dX3_narrowTrial_15 : decode cX3_narrowTrial 15 = .ok (.aload_n 0, 1) := by decide +kernel
theorem dX3_narrowTrial_16 : decode cX3_narrowTrial 16 = .ok (.iload_n 2, 1) := by decide +kernel
theorem dX3_narrowTrial_17 : decode cX3_narrowTrial 17 = .ok (.iload_n 2, 1) := by decide +kernel
theorem dX3_narrowTrial_18 : decode cX3_narrowTrial 18 = .ok (.iconst 1, 1) := by decide +kernel
theorem dX3_narrowTrial_19 : decode cX3_narrowTrial 19 = .ok (.isub, 1) := by decide +kernel
theorem dX3_narrowTrial_20 : decode cX3_narrowTrial 20 = .ok (.iload_n 1, 1) := by decide +kernel
theorem dX3_narrowTrial_21 : decode cX3_narrowTrial 21 = .ok (.invokevirtual 57, 3) := by decide +kernel
theorem dX3_narrowTrial_24 : decode cX3_narrowTrial 24 = .ok (.iload_n 2, 1) := by decide +kernel
theorem dX3_narrowTrial_25 : decode cX3_narrowTrial 25 = .ok (.bipush 8, 2) := by decide +kernel
theorem dX3_narrowTrial_27 : decode cX3_narrowTrial 27 = .ok (.if_icmp .lt 13, 3) := by decide +kernel
theorem dX3_narrowTrial_30 : decode cX3_narrowTrial 30 = .ok (.aload_n 0, 1) := by decide +kernel
theorem dX3_narrowTrial_31 : decode cX3_narrowTrial 31 = .ok (.iload_n 2, 1) := by decide +kernel
theorem dX3_narrowTrial_32 : decode cX3_narrowTrial 32 = .ok (.iload_n 2, 1) := by decide +kernel
theorem dX3_narrowTrial_33 : decode cX3_narrowTrial 33 = .ok (.bipush 8, 2) := by decide +kernel
theorem dX3_narrowTrial_35 : decode cX3_narrowTrial 35 = .ok (.isub, 1) := by decide +kernel
theorem dX3_narrowTrial_36 : decode cX3_narrowTrial 36 = .ok (.iload_n 1, 1) := by decide +kernel
theorem dX3_narrowTrial_37 : decode cX3_narrowTrial 37 = .ok (.invokevirtual 57, 3) := by decide +kernel
theorem dX3_narrowTrial_40 : decode cX3_narrowTrial 40 = .ok (.iinc 2 1, 3) := by decide +kernel
theorem dX3_narrowTrial_43 : decode cX3_narrowTrial 43 = .ok (.goto (-41), 3) := by decide +kernel
theorem dX3_narrowTrial_46 : decode cX3_narrowTrial 46 = .ok (.bipush 47, 2) := by decide +kernel
theorem dX3_narrowTrial_48 : decode cX3_narrowTrial 48 = .ok (.istore_n 2, 1) := by decide +kernel
theorem dX3_narrowTrial_49 : decode cX3_narrowTrial 49 = .ok (.iload_n 2, 1) := by decide +kernel
theorem dX3_narrowTrial_50 : decode cX3_narrowTrial 50 = .ok (.ifCond .lt 43, 3) := by decide +kernel
theorem dX3_narrowTrial_53 : decode cX3_narrowTrial 53 = .ok (.iload_n 2, 1) := by decide +kernel
theorem dX3_narrowTrial_54 : decode cX3_narrowTrial 54 = .ok (.bipush 8, 2) := by decide +kernel
theorem dX3_narrowTrial_56 : decode cX3_narrowTrial 56 = .ok (.irem, 1) := by decide +kernel
theorem dX3_narrowTrial_57 : decode cX3_narrowTrial 57 = .ok (.bipush 7, 2) := by decide +kernel
theorem dX3_narrowTrial_59 : decode cX3_narrowTrial 59 = .ok (.if_icmp .ge 12, 3) := by decide +kernel
theorem dX3_narrowTrial_62 : decode cX3_narrowTrial 62 = .ok (.aload_n 0, 1) := by decide +kernel
theorem dX3_narrowTrial_63 : decode cX3_narrowTrial 63 = .ok (.iload_n 2, 1) := by decide +kernel
theorem dX3_narrowTrial_64 : decode cX3_narrowTrial 64 = .ok (.iload_n 2, 1) := by decide +kernel
theorem dX3_narrowTrial_65 : decode cX3_narrowTrial 65 = .ok (.iconst 1, 1) := by decide +kernel
theorem dX3_narrowTrial_66 : decode cX3_narrowTrial 66 = .ok (.iadd, 1) := by decide +kernel
theorem dX3_narrowTrial_67 : decode cX3_narrowTrial 67 = .ok (.iload_n 1, 1) := by decide +kernel
theorem dX3_narrowTrial_68 : decode cX3_narrowTrial 68 = .ok (.invokevirtual 57, 3) := by decide +kernel
theorem dX3_narrowTrial_71 : decode cX3_narrowTrial 71 = .ok (.iload_n 2, 1) := by decide +kernel
theorem dX3_narrowTrial_72 : decode cX3_narrowTrial 72 = .ok (.bipush 40, 2) := by decide +kernel
theorem dX3_narrowTrial_74 : decode cX3_narrowTrial 74 = .ok (.if_icmp .ge 13, 3) := by decide +kernel
theorem dX3_narrowTrial_77 : decode cX3_narrowTrial 77 = .ok (.aload_n 0, 1) := by decide +kernel
theorem dX3_narrowTrial_78 : decode cX3_narrowTrial 78 = .ok (.iload_n 2, 1) := by decide +kernel
theorem dX3_narrowTrial_79 : decode cX3_narrowTrial 79 = .ok (.iload_n 2, 1) := by decide +kernel
theorem dX3_narrowTrial_80 : decode cX3_narrowTrial 80 = .ok (.bipush 8, 2) := by decide +kernel
theorem dX3_narrowTrial_82 : decode cX3_narrowTrial 82 = .ok (.iadd, 1) := by decide +kernel
theorem dX3_narrowTrial_83 : decode cX3_narrowTrial 83 = .ok (.iload_n 1, 1) := by decide +kernel
theorem dX3_narrowTrial_84 : decode cX3_narrowTrial 84 = .ok (.invokevirtual 57, 3) := by decide +kernel
theorem dX3_narrowTrial_87 : decode cX3_narrowTrial 87 = .ok (.iinc 2 (-1), 3) := by decide +kernel
theorem dX3_narrowTrial_90 : decode cX3_narrowTrial 90 = .ok (.goto (-41), 3) := by decide +kernel
theorem dX3_narrowTrial_93 : decode cX3_narrowTrial 93 = .ok (.return_, 1) := by decide +kernel
set_option maxRecDepth 20000 in
theorem ggX3_tryNeighbour_X3_tryCommon : GoodIn wsX3_tryNeighbour wsX3_tryCommon := goodIn_r _ [7, 1, 8, 9, 10, 11, 2, 12, 13, 14, 15, 16, 17, 18, 19] (by decide +kernel) (by decide +kernel)
set_option maxRecDepth 20000 in
theorem gX3_tryNeighbour_X3_tryCommon : GoodIn wsX3_tryNeighbour (wsV RX3 61 RX3 yX3_tryCommon wsX3_tryCommon) := goodIn_app (goodIn_of _ (by decide +kernel)) ggX3_tryNeighbour_X3_tryCommon
theorem dX3_tryNeighbour_0 : decode cX3_tryNeighbour 0 = .ok (.aload_n 0, 1) := by decide +kernel
theorem dX3_tryNeighbour_1 : decode cX3_tryNeighbour 1 = .ok (.iload_n 1, 1) := by decide +kernel
theorem dX3_tryNeighbour_2 : decode cX3_tryNeighbour 2 = .ok (.aload_n 0, 1) := by decide +kernel
theorem dX3_tryNeighbour_3 : decode cX3_tryNeighbour 3 = .ok (.getfield 18, 3) := by decide +kernel
theorem dX3_tryNeighbour_6 : decode cX3_tryNeighbour 6 = .ok (.iload_n 2, 1) := by decide +kernel
theorem dX3_tryNeighbour_7 : decode cX3_tryNeighbour 7 = .ok (.iaload, 1) := by decide +kernel
theorem dX3_tryNeighbour_8 : decode cX3_tryNeighbour 8 = .ok (.iload_n 3, 1) := by decide +kernel
theorem dX3_tryNeighbour_9 : decode cX3_tryNeighbour 9 = .ok (.isub, 1) := by decide +kernel
theorem dX3_tryNeighbour_10 : decode cX3_tryNeighbour 10 = .ok (.aload_n 0, 1) := by decide +kernel
theorem dX3_tryNeighbour_11 : decode cX3_tryNeighbour 11 = .ok (.getfield 21, 3) := by decide +kernel
theorem dX3_tryNeighbour_14 : decode cX3_tryNeighbour 14 = .ok (.iload_n 2, 1) := by decide +kernel
theorem dX3_tryNeighbour_15 : decode cX3_tryNeighbour 15 = .ok (.iaload, 1) := by decide +kernel
theorem dX3_tryNeighbour_16 : decode cX3_tryNeighbour 16 = .ok (.iload_n 3, 1) := by decide +kernel
theorem dX3_tryNeighbour_17 : decode cX3_tryNeighbour 17 = .ok (.iadd, 1) := by decide +kernel
theorem dX3_tryNeighbour_18 : decode cX3_tryNeighbour 18 = .ok (.invokevirtual 61, 3) := by decide +kernel
theorem dX3_tryNeighbour_21 : decode cX3_tryNeighbour 21 = .ok (.return_, 1) := by decide +kernel
set_option maxRecDepth 20000 in
theorem ggX4_init_X1_init : GoodIn wsX4_init wsX1_init := goodIn_r _ [4, 5, 6, 7, 8, 9, 10, 11, 12, 13, 14, 15, 16, 17, 18, 19, 20, 21, 22, 23, 24] (by decide +kernel) (by decide +kernel)
set_option maxRecDepth 20000 in
theorem gX4_init_X1_init : GoodIn wsX4_init (wsX1_init) := ggX4_init_X1_init
theorem dX4_init_0 : decode cX4_init 0 = .ok (.aload_n 0, 1) := by decide +kernel
theorem dX4_init_1 : decode cX4_init 1 = .ok (.iload_n 1, 1) := by decide +kernel
theorem dX4_init_2 : decode cX4_init 2 = .ok (.invokespecial 1, 3) := by decide +kernel
theorem dX4_init_5 : decode cX4_init 5 = .ok (.return_, 1) := by decide +kernel
theorem dX4_debtTaken_0 : decode cX4_debtTaken 0 = .ok (.aload_n 0, 1) := by decide +kernel
theorem dX4_debtTaken_1 : decode cX4_debtTaken 1 = .ok (.getfield 7, 3) := by decide +kernel
theorem dX4_debtTaken_4 : decode cX4_debtTaken 4 = .ok (.ldc2_w 13, 3) := by decide +kernel
theorem dX4_debtTaken_7 : decode cX4_debtTaken 7 = .ok (.ldiv, 1) := by decide +kernel
theorem dX4_debtTaken_8 : decode cX4_debtTaken 8 = .ok (.lreturn, 1) := by decide +kernel
set_option maxRecDepth 20000 in
theorem ggX4_telling_X9_leave : GoodIn wsX4_telling wsX9_leave := goodIn_r _ [5, 6, 15] (by decide +kernel) (by decide +kernel)
set_option maxRecDepth 20000 in
theorem gX4_telling_X9_leave : GoodIn wsX4_telling (wsV RX4 15 RX9 yX9_leave wsX9_leave) := goodIn_app (goodIn_of _ (by decide +kernel)) ggX4_telling_X9_leave
set_option maxRecDepth 20000 in
theorem ggX4_telling_X2_tellingOfAnyGang : GoodIn wsX4_telling wsX2_tellingOfAnyGang := goodIn_r _ [12, 13, 14, 2, 3, 4, 5, 6, 16, 17, 18, 19, 20, 21, 22, 23, 24, 25, 26, 27, 15] (by decide +kernel) (by decide +kernel)
set_option maxRecDepth 20000 in
theorem gX4_telling_X2_tellingOfAnyGang_u20X4 : GoodIn wsX4_telling (va_wsU RX4 20 RX4 "TributePitches$Gang" ⟨"TributePitches$OldHands", "tellingOfAnyGang", "(LTributePitches$Trace;)I"⟩ yX2_tellingOfAnyGang wsX2_tellingOfAnyGang) := goodIn_app (goodIn_of _ (by decide +kernel)) ggX4_telling_X2_tellingOfAnyGang
theorem dX4_telling_0 : decode cX4_telling 0 = .ok (.aload_n 1, 1) := by decide +kernel
theorem dX4_telling_1 : decode cX4_telling 1 = .ok (.iconst 3, 1) := by decide +kernel
theorem dX4_telling_2 : decode cX4_telling 2 = .ok (.invokevirtual 15, 3) := by decide +kernel
theorem dX4_telling_5 : decode cX4_telling 5 = .ok (.iconst 3, 1) := by decide +kernel
theorem dX4_telling_6 : decode cX4_telling 6 = .ok (.aload_n 0, 1) := by decide +kernel
theorem dX4_telling_7 : decode cX4_telling 7 = .ok (.aload_n 1, 1) := by decide +kernel
theorem dX4_telling_8 : decode cX4_telling 8 = .ok (.invokevirtual 20, 3) := by decide +kernel
theorem dX4_telling_11 : decode cX4_telling 11 = .ok (.imul, 1) := by decide +kernel
theorem dX4_telling_12 : decode cX4_telling 12 = .ok (.ireturn, 1) := by decide +kernel
set_option maxRecDepth 20000 in
theorem ggX4_greeting_X9_leave : GoodIn wsX4_greeting wsX9_leave := goodIn_r _ [5, 6, 14] (by decide +kernel) (by decide +kernel)
set_option maxRecDepth 20000 in
theorem gX4_greeting_X9_leave : GoodIn wsX4_greeting (wsV RX4 15 RX9 yX9_leave wsX9_leave) := goodIn_app (goodIn_of _ (by decide +kernel)) ggX4_greeting_X9_leave
set_option maxRecDepth 20000 in
theorem ggX4_greeting_X1_greeting : GoodIn wsX4_greeting wsX1_greeting := goodIn_r _ [12, 13, 2, 3, 4, 5, 6, 14] (by decide +kernel) (by decide +kernel)
set_option maxRecDepth 20000 in
theorem gX4_greeting_X1_greeting_s24 : GoodIn wsX4_greeting (va_wsSU RX4 24 yX1_greeting wsX1_greeting) := goodIn_app (goodIn_of _ (by decide +kernel)) ggX4_greeting_X1_greeting
theorem dX4_greeting_0 : decode cX4_greeting 0 = .ok (.aload_n 1, 1) := by decide +kernel
theorem dX4_greeting_1 : decode cX4_greeting 1 = .ok (.bipush 6, 2) := by decide +kernel
theorem dX4_greeting_3 : decode cX4_greeting 3 = .ok (.invokevirtual 15, 3) := by decide +kernel
theorem dX4_greeting_6 : decode cX4_greeting 6 = .ok (.aload_n 0, 1) := by decide +kernel
theorem dX4_greeting_7 : decode cX4_greeting 7 = .ok (.aload_n 1, 1) := by decide +kernel
theorem dX4_greeting_8 : decode cX4_greeting 8 = .ok (.invokespecial 24, 3) := by decide +kernel
theorem dX4_greeting_11 : decode cX4_greeting 11 = .ok (.iconst 1, 1) := by decide +kernel
theorem dX4_greeting_12 : decode cX4_greeting 12 = .ok (.iadd, 1) := by decide +kernel
theorem dX4_greeting_13 : decode cX4_greeting 13 = .ok (.ireturn, 1) := by decide +kernel
theorem dX5_init_0 : decode cX5_init 0 = .ok (.aload_n 0, 1) := by decide +kernel
theorem dX5_init_1 : decode cX5_init 1 = .ok (.invokespecial 1, 3) := by decide +kernel
theorem dX5_init_4 : decode cX5_init 4 = .ok (.aload_n 0, 1) := by decide +kernel
theorem dX5_init_5 : decode cX5_init 5 = .ok (.aload_n 1, 1) := by decide +kernel
theorem dX5_init_6 : decode cX5_init 6 = .ok (.putfield 7, 3) := by decide +kernel
theorem dX5_init_9 : decode cX5_init 9 = .ok (.aload_n 0, 1) := by decide +kernel
theorem dX5_init_10 : decode cX5_init 10 = .ok (.iload_n 2, 1) := by decide +kernel
theorem dX5_init_11 : decode cX5_init 11 = .ok (.putfield 13, 3) := by decide +kernel
theorem dX5_init_14 : decode cX5_init 14 = .ok (.return_, 1) := by decide +kernel
set_option maxRecDepth 20000 in
theorem ggX5_isSuspect_X6_greatestOf : GoodIn wsX5_isSuspect wsX6_greatestOf := goodIn_r _ [8, 9, 10, 11, 12, 13, 14, 15, 16, 17, 18, 19, 20, 28, 29, 30, 31, 32, 33, 34, 35] (by decide +kernel) (by decide +kernel)
set_option maxRecDepth 20000 in
theorem gX5_isSuspect_X6_greatestOf : GoodIn wsX5_isSuspect (wsV RX5 23 RX6 yX6_greatestOf wsX6_greatestOf) := goodIn_app (goodIn_of _ (by decide +kernel)) ggX5_isSuspect_X6_greatestOf
theorem dX5_isSuspect_0 : decode cX5_isSuspect 0 = .ok (.aload_n 0, 1) := by decide +kernel
theorem dX5_isSuspect_1 : decode cX5_isSuspect 1 = .ok (.getfield 13, 3) := by decide +kernel
theorem dX5_isSuspect_4 : decode cX5_isSuspect 4 = .ok (.aload_n 0, 1) := by decide +kernel
theorem dX5_isSuspect_5 : decode cX5_isSuspect 5 = .ok (.getfield 7, 3) := by decide +kernel
theorem dX5_isSuspect_8 : decode cX5_isSuspect 8 = .ok (.aload_n 1, 1) := by decide +kernel
theorem dX5_isSuspect_9 : decode cX5_isSuspect 9 = .ok (.getfield 17, 3) := by decide +kernel
theorem dX5_isSuspect_12 : decode cX5_isSuspect 12 = .ok (.invokevirtual 23, 3) := by decide +kernel
theorem dX5_isSuspect_15 : decode cX5_isSuspect 15 = .ok (.if_icmp .le 7, 3) := by decide +kernel
theorem dX5_isSuspect_18 : decode cX5_isSuspect 18 = .ok (.iconst 1, 1) := by decide +kernel
theorem dX5_isSuspect_19 : decode cX5_isSuspect 19 = .ok (.goto 4, 3) := by decide +kernel
theorem dX5_isSuspect_22 : decode cX5_isSuspect 22 = .ok (.iconst 0, 1) := by decide +kernel
theorem dX5_isSuspect_23 : decode cX5_isSuspect 23 = .ok (.ireturn, 1) := by decide +kernel
theorem dX6_init_0 : decode cX6_init 0 = .ok (.aload_n 0, 1) := by decide +kernel
theorem dX6_init_1 : decode cX6_init 1 = .ok (.invokespecial 1, 3) := by decide +kernel
theorem dX6_init_4 : decode cX6_init 4 = .ok (.aload_n 0, 1) := by decide +kernel
theorem dX6_init_5 : decode cX6_init 5 = .ok (.iload_n 1, 1) := by decide +kernel
theorem dX6_init_6 : decode cX6_init 6 = .ok (.putfield 7, 3) := by decide +kernel
theorem dX6_init_9 : decode cX6_init 9 = .ok (.aload_n 0, 1) := by decide +kernel
theorem dX6_init_10 : decode cX6_init 10 = .ok (.iload_n 2, 1) := by decide +kernel
theorem dX6_init_11 : decode cX6_init 11 = .ok (.putfield 13, 3) := by decide +kernel
theorem dX6_init_14 : decode cX6_init 14 = .ok (.aload_n 0, 1) := by decide +kernel
theorem dX6_init_15 : decode cX6_init 15 = .ok (.iload_n 3, 1) := by decide +kernel
theorem dX6_init_16 : decode cX6_init 16 = .ok (.putfield 16, 3) := by decide +kernel
theorem dX6_init_19 : decode cX6_init 19 = .ok (.aload_n 0, 1) := by decide +kernel
theorem dX6_init_20 : decode cX6_init 20 = .ok (.iload 4, 2) := by decide +kernel
theorem dX6_init_22 : decode cX6_init 22 = .ok (.putfield 19, 3) := by decide +kernel
theorem dX6_init_25 : decode cX6_init 25 = .ok (.aload_n 0, 1) := by decide +kernel
theorem dX6_init_26 : decode cX6_init 26 = .ok (.iload 5, 2) := by decide +kernel
theorem dX6_init_28 : decode cX6_init 28 = .ok (.putfield 22, 3) := by decide +kernel
theorem dX6_init_31 : decode cX6_init 31 = .ok (.aload_n 0, 1) := by decide +kernel
theorem dX6_init_32 : decode cX6_init 32 = .ok (.iload 6, 2) := by decide +kernel
theorem dX6_init_34 : decode cX6_init 34 = .ok (.putfield 25, 3) := by decide +kernel
theorem dX6_init_37 : decode cX6_init 37 = .ok (.return_, 1) := by decide +kernel
theorem dX6_meets_0 : decode cX6_meets 0 = .ok (.aload_n 0, 1) := by decide +kernel
theorem dX6_meets_1 : decode cX6_meets 1 = .ok (.getfield 13, 3) := by decide +kernel
theorem dX6_meets_4 : decode cX6_meets 4 = .ok (.iload_n 3, 1) := by decide +kernel
theorem dX6_meets_5 : decode cX6_meets 5 = .ok (.if_icmp .gt 32, 3) := by decide +kernel
theorem dX6_meets_8 : decode cX6_meets 8 = .ok (.iload_n 1, 1) := by decide +kernel
theorem dX6_meets_9 : decode cX6_meets 9 = .ok (.aload_n 0, 1) := by decide +kernel
theorem dX6_meets_10 : decode cX6_meets 10 = .ok (.getfield 19, 3) := by decide +kernel
theorem dX6_meets_13 : decode cX6_meets 13 = .ok (.if_icmp .gt 24, 3) := by decide +kernel
theorem dX6_meets_16 : decode cX6_meets 16 = .ok (.aload_n 0, 1) := by decide +kernel
theorem dX6_meets_17 : decode cX6_meets 17 = .ok (.getfield 16, 3) := by decide +kernel
theorem dX6_meets_20 : decode cX6_meets 20 = .ok (.iload 4, 2) := by decide +kernel
theorem dX6_meets_22 : decode cX6_meets 22 = .ok (.if_icmp .gt 15, 3) := by decide +kernel
theorem dX6_meets_25 : decode cX6_meets 25 = .ok (.iload_n 2, 1) := by decide +kernel
theorem dX6_meets_26 : decode cX6_meets 26 = .ok (.aload_n 0, 1) := by decide +kernel
theorem dX6_meets_27 : decode cX6_meets 27 = .ok (.getfield 22, 3) := by decide +kernel
theorem dX6_meets_30 : decode cX6_meets 30 = .ok (.if_icmp .gt 7, 3) := by decide +kernel
theorem dX6_meets_33 : decode cX6_meets 33 = .ok (.iconst 1, 1) := by decide +kernel
theorem dX6_meets_34 : decode cX6_meets 34 = .ok (.goto 4, 3) := by decide +kernel
theorem dX6_meets_37 : decode cX6_meets 37 = .ok (.iconst 0, 1) := by decide +kernel
theorem dX6_meets_38 : decode cX6_meets 38 = .ok (.ireturn, 1) := by decide +kernel
set_option maxRecDepth 20000 in
theorem ggX6_foretoldBy_X3_numberOf : GoodIn wsX6_foretoldBy wsX3_numberOf := goodIn_r _ [9] (by decide +kernel) (by decide +kernel)
set_option maxRecDepth 20000 in
theorem gX6_foretoldBy_X3_numberOf : GoodIn wsX6_foretoldBy (va_wsS RX6 28 yX3_numberOf wsX3_numberOf) := goodIn_app (goodIn_of _ (by decide +kernel)) ggX6_foretoldBy_X3_numberOf
theorem dX6_foretoldBy_0 : decode cX6_foretoldBy 0 = .ok (.lconst 0, 1) := by decide +kernel
theorem dX6_foretoldBy_1 : decode cX6_foretoldBy 1 = .ok (.lstore_n 2, 1) := by decide +kernel
theorem dX6_foretoldBy_2 : decode cX6_foretoldBy 2 = .ok (.aload_n 0, 1) := by decide +kernel
theorem dX6_foretoldBy_3 : decode cX6_foretoldBy 3 = .ok (.getfield 16, 3) := by decide +kernel
theorem dX6_foretoldBy_6 : decode cX6_foretoldBy 6 = .ok (.istore 4, 2) := by decide +kernel
theorem dX6_foretoldBy_8 : decode cX6_foretoldBy 8 = .ok (.iload 4, 2) := by decide +kernel
theorem dX6_foretoldBy_10 : decode cX6_foretoldBy 10 = .ok (.aload_n 0, 1) := by decide +kernel
theorem dX6_foretoldBy_11 : decode cX6_foretoldBy 11 = .ok (.getfield 22, 3) := by decide +kernel
theorem dX6_foretoldBy_14 : decode cX6_foretoldBy 14 = .ok (.if_icmp .gt 43, 3) := by decide +kernel
theorem dX6_foretoldBy_17 : decode cX6_foretoldBy 17 = .ok (.aload_n 0, 1) := by decide +kernel
theorem dX6_foretoldBy_18 : decode cX6_foretoldBy 18 = .ok (.getfield 13, 3) := by decide +kernel
theorem dX6_foretoldBy_21 : decode cX6_foretoldBy 21 = .ok (.istore 5, 2) := by decide +kernel
theorem dX6_foretoldBy_23 : decode cX6_foretoldBy 23 = .ok (.iload 5, 2) := by decide +kernel
theorem dX6_foretoldBy_25 : decode cX6_foretoldBy 25 = .ok (.aload_n 0, 1) := by decide +kernel
theorem dX6_foretoldBy_26 : decode cX6_foretoldBy 26 = .ok (.getfield 19, 3) := by decide +kernel
theorem dX6_foretoldBy_29 : decode cX6_foretoldBy 29 = .ok (.if_icmp .gt 22, 3) := by decide +kernel
theorem dX6_foretoldBy_32 : decode cX6_foretoldBy 32 = .ok (.lload_n 2, 1) := by decide +kernel
theorem dX6_foretoldBy_33 : decode cX6_foretoldBy 33 = .ok (.aload_n 1, 1) := by decide +kernel
theorem dX6_foretoldBy_34 : decode cX6_foretoldBy 34 = .ok (.iload 5, 2) := by decide +kernel
theorem dX6_foretoldBy_36 : decode cX6_foretoldBy 36 = .ok (.iload 4, 2) := by decide +kernel
theorem dX6_foretoldBy_38 : decode cX6_foretoldBy 38 = .ok (.invokestatic 28, 3) := by decide +kernel
theorem dX6_foretoldBy_41 : decode cX6_foretoldBy 41 = .ok (.iaload, 1) := by decide +kernel
theorem dX6_foretoldBy_42 : decode cX6_foretoldBy 42 = .ok (.i2l, 1) := by decide +kernel
theorem dX6_foretoldBy_43 : decode cX6_foretoldBy 43 = .ok (.ladd, 1) := by decide +kernel
theorem dX6_foretoldBy_44 : decode cX6_foretoldBy 44 = .ok (.lstore_n 2, 1) := by decide +kernel
theorem dX6_foretoldBy_45 : decode cX6_foretoldBy 45 = .ok (.iinc 5 1, 3) := by decide +kernel
theorem dX6_foretoldBy_48 : decode cX6_foretoldBy 48 = .ok (.goto (-25), 3) := by decide +kernel
theorem dX6_foretoldBy_51 : decode cX6_foretoldBy 51 = .ok (.iinc 4 1, 3) := by decide +kernel
theorem dX6_foretoldBy_54 : decode cX6_foretoldBy 54 = .ok (.goto (-46), 3) := by decide +kernel
theorem dX6_foretoldBy_57 : decode cX6_foretoldBy 57 = .ok (.lload_n 2, 1) := by decide +kernel
theorem dX6_foretoldBy_58 : decode cX6_foretoldBy 58 = .ok (.aload_n 0, 1) := by decide +kernel
theorem dX6_foretoldBy_59 : decode cX6_foretoldBy 59 = .ok (.getfield 25, 3) := by decide +kernel
theorem dX6_foretoldBy_62 : decode cX6_foretoldBy 62 = .ok (.i2l, 1) := by decide +kernel
theorem dX6_foretoldBy_63 : decode cX6_foretoldBy 63 = .ok (.lmul, 1) := by decide +kernel
theorem dX6_foretoldBy_64 : decode cX6_foretoldBy 64 = .ok (.lreturn, 1) := by decide +kernel
set_option maxRecDepth 20000 in
theorem ggX6_greatestOf_X3_numberOf : GoodIn wsX6_greatestOf wsX3_numberOf := goodIn_r _ [12] (by decide +kernel) (by decide +kernel)
set_option maxRecDepth 20000 in
theorem gX6_greatestOf_X3_numberOf : GoodIn wsX6_greatestOf (va_wsS RX6 28 yX3_numberOf wsX3_numberOf) := goodIn_app (goodIn_of _ (by decide +kernel)) ggX6_greatestOf_X3_numberOf
theorem dX6_greatestOf_0 : decode cX6_greatestOf 0 = .ok (.iconst 0, 1) := by decide +kernel
theorem dX6_greatestOf_1 : decode cX6_greatestOf 1 = .ok (.istore_n 2, 1) := by decide +kernel
theorem dX6_greatestOf_2 : decode cX6_greatestOf 2 = .ok (.aload_n 0, 1) := by decide +kernel
theorem dX6_greatestOf_3 : decode cX6_greatestOf 3 = .ok (.getfield 16, 3) := by decide +kernel
theorem dX6_greatestOf_6 : decode cX6_greatestOf 6 = .ok (.istore_n 3, 1) := by decide +kernel
theorem dX6_greatestOf_7 : decode cX6_greatestOf 7 = .ok (.iload_n 3, 1) := by decide +kernel
theorem dX6_greatestOf_8 : decode cX6_greatestOf 8 = .ok (.aload_n 0, 1) := by decide +kernel
theorem dX6_greatestOf_9 : decode cX6_greatestOf 9 = .ok (.getfield 22, 3) := by decide +kernel
theorem dX6_greatestOf_12 : decode cX6_greatestOf 12 = .ok (.if_icmp .gt 43, 3) := by decide +kernel
theorem dX6_greatestOf_15 : decode cX6_greatestOf 15 = .ok (.aload_n 0, 1) := by decide +kernel
theorem dX6_greatestOf_16 : decode cX6_greatestOf 16 = .ok (.getfield 13, 3) := by decide +kernel
theorem dX6_greatestOf_19 : decode cX6_greatestOf 19 = .ok (.istore 4, 2) := by decide +kernel
theorem dX6_greatestOf_21 : decode cX6_greatestOf 21 = .ok (.iload 4, 2) := by decide +kernel
theorem dX6_greatestOf_23 : decode cX6_greatestOf 23 = .ok (.aload_n 0, 1) := by decide +kernel
theorem dX6_greatestOf_24 : decode cX6_greatestOf 24 = .ok (.getfield 19, 3) := by decide +kernel
theorem dX6_greatestOf_27 : decode cX6_greatestOf 27 = .ok (.if_icmp .gt 22, 3) := by decide +kernel
theorem dX6_greatestOf_30 : decode cX6_greatestOf 30 = .ok (.iload_n 2, 1) := by decide +kernel
theorem dX6_greatestOf_31 : decode cX6_greatestOf 31 = .ok (.aload_n 1, 1) := by decide +kernel
theorem dX6_greatestOf_32 : decode cX6_greatestOf 32 = .ok (.iload 4, 2) := by decide +kernel
theorem dX6_greatestOf_34 : decode cX6_greatestOf 34 = .ok (.iload_n 3, 1) := by decide +kernel
theorem dX6_greatestOf_35 : decode cX6_greatestOf 35 = .ok (.invokestatic 28, 3) := by decide +kernel
theorem dX6_greatestOf_38 : decode cX6_greatestOf 38 = .ok (.iaload, 1) := by decide +kernel
theorem dX6_greatestOf_39 : decode cX6_greatestOf 39 = .ok (.invokestatic 34, 3) := by decide +kernel
theorem dX6_greatestOf_42 : decode cX6_greatestOf 42 = .ok (.istore_n 2, 1) := by decide +kernel
theorem dX6_greatestOf_43 : decode cX6_greatestOf 43 = .ok (.iinc 4 1, 3) := by decide +kernel
theorem dX6_greatestOf_46 : decode cX6_greatestOf 46 = .ok (.goto (-25), 3) := by decide +kernel
theorem dX6_greatestOf_49 : decode cX6_greatestOf 49 = .ok (.iinc 3 1, 3) := by decide +kernel
theorem dX6_greatestOf_52 : decode cX6_greatestOf 52 = .ok (.goto (-45), 3) := by decide +kernel
theorem dX6_greatestOf_55 : decode cX6_greatestOf 55 = .ok (.iload_n 2, 1) := by decide +kernel
theorem dX6_greatestOf_56 : decode cX6_greatestOf 56 = .ok (.ireturn, 1) := by decide +kernel
theorem dX7_init_0 : decode cX7_init 0 = .ok (.aload_n 0, 1) := by decide +kernel
theorem dX7_init_1 : decode cX7_init 1 = .ok (.invokespecial 3, 3) := by decide +kernel
theorem dX7_init_4 : decode cX7_init 4 = .ok (.aload_n 0, 1) := by decide +kernel
theorem dX7_init_5 : decode cX7_init 5 = .ok (.bipush 48, 2) := by decide +kernel
theorem dX7_init_7 : decode cX7_init 7 = .ok (.newarray .int, 2) := by decide +kernel
theorem dX7_init_9 : decode cX7_init 9 = .ok (.putfield 11, 3) := by decide +kernel
theorem dX7_init_12 : decode cX7_init 12 = .ok (.aload_n 0, 1) := by decide +kernel
theorem dX7_init_13 : decode cX7_init 13 = .ok (.iconst (-1), 1) := by decide +kernel
theorem dX7_init_14 : decode cX7_init 14 = .ok (.putfield 15, 3) := by decide +kernel
theorem dX7_init_17 : decode cX7_init 17 = .ok (.return_, 1) := by decide +kernel
set_option maxRecDepth 20000 in
theorem ggX7_isLane_X10_isWithin : GoodIn wsX7_isLane wsX10_isWithin := goodIn_r _ [3] (by decide +kernel) (by decide +kernel)
set_option maxRecDepth 20000 in
theorem gX7_isLane_X10_isWithin_n19 : GoodIn wsX7_isLane (wsX10_isWithin) := ggX7_isLane_X10_isWithin
theorem dX7_isLane_0 : decode cX7_isLane 0 = .ok (.iload_n 0, 1) := by decide +kernel
theorem dX7_isLane_1 : decode cX7_isLane 1 = .ok (.iconst 0, 1) := by decide +kernel
theorem dX7_isLane_2 : decode cX7_isLane 2 = .ok (.iconst 2, 1) := by decide +kernel
theorem dX7_isLane_3 : decode cX7_isLane 3 = .ok (.invokestatic 19, 3) := by decide +kernel
theorem dX7_isLane_6 : decode cX7_isLane 6 = .ok (.ireturn, 1) := by decide +kernel
set_option maxRecDepth 20000 in
theorem ggX7_renew_J7_fill_53178 : GoodIn wsX7_renew wsJ7_fill_53178 := goodIn_r _ [7] (by decide +kernel) (by decide +kernel)
set_option maxRecDepth 20000 in
theorem gX7_renew_J7_fill_53178 : GoodIn wsX7_renew (va_wsS RX7 23 yJ7_fill_53178 wsJ7_fill_53178) := goodIn_app (goodIn_of _ (by decide +kernel)) ggX7_renew_J7_fill_53178
theorem dX7_renew_0 : decode cX7_renew 0 = .ok (.aload_n 0, 1) := by decide +kernel
theorem dX7_renew_1 : decode cX7_renew 1 = .ok (.getfield 11, 3) := by decide +kernel
theorem dX7_renew_4 : decode cX7_renew 4 = .ok (.iconst 0, 1) := by decide +kernel
theorem dX7_renew_5 : decode cX7_renew 5 = .ok (.invokestatic 23, 3) := by decide +kernel
theorem dX7_renew_8 : decode cX7_renew 8 = .ok (.aload_n 0, 1) := by decide +kernel
theorem dX7_renew_9 : decode cX7_renew 9 = .ok (.iload_n 1, 1) := by decide +kernel
theorem dX7_renew_10 : decode cX7_renew 10 = .ok (.putfield 15, 3) := by decide +kernel
theorem dX7_renew_13 : decode cX7_renew 13 = .ok (.aload_n 0, 1) := by decide +kernel
theorem dX7_renew_14 : decode cX7_renew 14 = .ok (.iload_n 2, 1) := by decide +kernel
theorem dX7_renew_15 : decode cX7_renew 15 = .ok (.putfield 29, 3) := by decide +kernel
theorem dX7_renew_18 : decode cX7_renew 18 = .ok (.return_, 1) := by decide +kernel
theorem dX7_hasNothing_0 : decode cX7_hasNothing 0 = .ok (.aload_n 0, 1) := by decide +kernel
theorem dX7_hasNothing_1 : decode cX7_hasNothing 1 = .ok (.getfield 15, 3) := by decide +kernel
theorem dX7_hasNothing_4 : decode cX7_hasNothing 4 = .ok (.iconst (-1), 1) := by decide +kernel
theorem dX7_hasNothing_5 : decode cX7_hasNothing 5 = .ok (.if_icmp .ne 7, 3) := by decide +kernel
theorem dX7_hasNothing_8 : decode cX7_hasNothing 8 = .ok (.iconst 1, 1) := by decide +kernel
theorem dX7_hasNothing_9 : decode cX7_hasNothing 9 = .ok (.goto 4, 3) := by decide +kernel
theorem dX7_hasNothing_12 : decode cX7_hasNothing 12 = .ok (.iconst 0, 1) := by decide +kernel
theorem dX7_hasNothing_13 : decode cX7_hasNothing 13 = .ok (.ireturn, 1) := by decide +kernel
set_option maxRecDepth 20000 in
theorem ggX7_faultAs_X7_hasNothing : GoodIn wsX7_faultAs wsX7_hasNothing := goodIn_r _ [6, 1, 7, 8, 9] (by decide +kernel) (by decide +kernel)
set_option maxRecDepth 20000 in
theorem gX7_faultAs_X7_hasNothing : GoodIn wsX7_faultAs (wsV RX7 32 RX7 yX7_hasNothing wsX7_hasNothing) := goodIn_app (goodIn_of _ (by decide +kernel)) ggX7_faultAs_X7_hasNothing
theorem dX7_faultAs_0 : decode cX7_faultAs 0 = .ok (.aload_n 0, 1) := by decide +kernel
theorem dX7_faultAs_1 : decode cX7_faultAs 1 = .ok (.invokevirtual 32, 3) := by decide +kernel
theorem dX7_faultAs_4 : decode cX7_faultAs 4 = .ok (.ifCond .eq 5, 3) := by decide +kernel
theorem dX7_faultAs_7 : decode cX7_faultAs 7 = .ok (.iconst 1, 1) := by decide +kernel
theorem dX7_faultAs_8 : decode cX7_faultAs 8 = .ok (.ireturn, 1) := by decide +kernel
theorem dX7_faultAs_9 : decode cX7_faultAs 9 = .ok (.aload_n 0, 1) := by decide +kernel
theorem dX7_faultAs_10 : decode cX7_faultAs 10 = .ok (.getfield 15, 3) := by decide +kernel
theorem dX7_faultAs_13 : decode cX7_faultAs 13 = .ok (.iload_n 1, 1) := by decide +kernel
theorem dX7_faultAs_14 : decode cX7_faultAs 14 = .ok (.if_icmp .ne 7, 3) := by decide +kernel
theorem dX7_faultAs_17 : decode cX7_faultAs 17 = .ok (.iconst 0, 1) := by decide +kernel
theorem dX7_faultAs_18 : decode cX7_faultAs 18 = .ok (.goto 4, 3) := by decide +kernel
theorem dX7_faultAs_21 : decode cX7_faultAs 21 = .ok (.iconst 2, 1) := by decide +kernel
theorem dX7_faultAs_22 : decode cX7_faultAs 22 = .ok (.ireturn, 1) := by decide +kernel
theorem dX7_holds_0 : decode cX7_holds 0 = .ok (.iload_n 1, 1) := by decide +kernel
theorem dX7_holds_1 : decode cX7_holds 1 = .ok (.ifCond .lt 25, 3) := by decide +kernel
theorem dX7_holds_4 : decode cX7_holds 4 = .ok (.iload_n 2, 1) := by decide +kernel
theorem dX7_holds_5 : decode cX7_holds 5 = .ok (.ifCond .lt 21, 3) := by decide +kernel
theorem dX7_holds_8 : decode cX7_holds 8 = .ok (.iload_n 1, 1) := by decide +kernel
theorem dX7_holds_9 : decode cX7_holds 9 = .ok (.i2l, 1) := by decide +kernel
theorem dX7_holds_10 : decode cX7_holds 10 = .ok (.iload_n 2, 1) := by decide +kernel
theorem dX7_holds_11 : decode cX7_holds 11 = .ok (.i2l, 1) := by decide +kernel
theorem dX7_holds_12 : decode cX7_holds 12 = .ok (.ladd, 1) := by decide +kernel
theorem dX7_holds_13 : decode cX7_holds 13 = .ok (.aload_n 0, 1) := by decide +kernel
theorem dX7_holds_14 : decode cX7_holds 14 = .ok (.getfield 29, 3) := by decide +kernel
theorem dX7_holds_17 : decode cX7_holds 17 = .ok (.i2l, 1) := by decide +kernel
theorem dX7_holds_18 : decode cX7_holds 18 = .ok (.lcmp, 1) := by decide +kernel
theorem dX7_holds_19 : decode cX7_holds 19 = .ok (.ifCond .gt 7, 3) := by decide +kernel
theorem dX7_holds_22 : decode cX7_holds 22 = .ok (.iconst 1, 1) := by decide +kernel
theorem dX7_holds_23 : decode cX7_holds 23 = .ok (.goto 4, 3) := by decide +kernel
theorem dX7_holds_26 : decode cX7_holds 26 = .ok (.iconst 0, 1) := by decide +kernel
theorem dX7_holds_27 : decode cX7_holds 27 = .ok (.ireturn, 1) := by decide +kernel
theorem dX7_hasAbove_0 : decode cX7_hasAbove 0 = .ok (.iconst 0, 1) := by decide +kernel
theorem dX7_hasAbove_1 : decode cX7_hasAbove 1 = .ok (.istore 4, 2) := by decide +kernel
theorem dX7_hasAbove_3 : decode cX7_hasAbove 3 = .ok (.iload 4, 2) := by decide +kernel
theorem dX7_hasAbove_5 : decode cX7_hasAbove 5 = .ok (.iload_n 3, 1) := by decide +kernel
theorem dX7_hasAbove_6 : decode cX7_hasAbove 6 = .ok (.if_icmp .ge 24, 3) := by decide +kernel
theorem dX7_hasAbove_9 : decode cX7_hasAbove 9 = .ok (.aload_n 0, 1) := by decide +kernel
theorem dX7_hasAbove_10 : decode cX7_hasAbove 10 = .ok (.getfield 11, 3) := by decide +kernel
theorem dX7_hasAbove_13 : decode cX7_hasAbove 13 = .ok (.iload_n 2, 1) := by decide +kernel
theorem dX7_hasAbove_14 : decode cX7_hasAbove 14 = .ok (.iload 4, 2) := by decide +kernel
theorem dX7_hasAbove_16 : decode cX7_hasAbove 16 = .ok (.iadd, 1) := by decide +kernel
theorem dX7_hasAbove_17 : decode cX7_hasAbove 17 = .ok (.iaload, 1) := by decide +kernel
theorem dX7_hasAbove_18 : decode cX7_hasAbove 18 = .ok (.iload_n 1, 1) := by decide +kernel
theorem dX7_hasAbove_19 : decode cX7_hasAbove 19 = .ok (.if_icmp .le 5, 3) := by decide +kernel
theorem dX7_hasAbove_22 : decode cX7_hasAbove 22 = .ok (.iconst 1, 1) := by decide +kernel
theorem dX7_hasAbove_23 : decode cX7_hasAbove 23 = .ok (.ireturn, 1) := by decide +kernel
theorem dX7_hasAbove_24 : decode cX7_hasAbove 24 = .ok (.iinc 4 1, 3) := by decide +kernel
theorem dX7_hasAbove_27 : decode cX7_hasAbove 27 = .ok (.goto (-24), 3) := by decide +kernel
theorem dX7_hasAbove_30 : decode cX7_hasAbove 30 = .ok (.iconst 0, 1) := by decide +kernel
theorem dX7_hasAbove_31 : decode cX7_hasAbove 31 = .ok (.ireturn, 1) := by decide +kernel
theorem dX7_cut_0 : decode cX7_cut 0 = .ok (.aload_n 0, 1) := by decide +kernel
theorem dX7_cut_1 : decode cX7_cut 1 = .ok (.getfield 15, 3) := by decide +kernel
theorem dX7_cut_4 : decode cX7_cut 4 = .ok (.lookupswitch 34 #[(0, 28), (1, 31)], 28) := by decide +kernel
theorem dX7_cut_32 : decode cX7_cut 32 = .ok (.iload_n 1, 1) := by decide +kernel
theorem dX7_cut_33 : decode cX7_cut 33 = .ok (.i2b, 1) := by decide +kernel
theorem dX7_cut_34 : decode cX7_cut 34 = .ok (.ireturn, 1) := by decide +kernel
theorem dX7_cut_35 : decode cX7_cut 35 = .ok (.iload_n 1, 1) := by decide +kernel
theorem dX7_cut_36 : decode cX7_cut 36 = .ok (.i2s, 1) := by decide +kernel
theorem dX7_cut_37 : decode cX7_cut 37 = .ok (.ireturn, 1) := by decide +kernel
theorem dX7_cut_38 : decode cX7_cut 38 = .ok (.iload_n 1, 1) := by decide +kernel
theorem dX7_cut_39 : decode cX7_cut 39 = .ok (.ireturn, 1) := by decide +kernel
theorem dX8_init_0 : decode cX8_init 0 = .ok (.aload_n 0, 1) := by decide +kernel
theorem dX8_init_1 : decode cX8_init 1 = .ok (.invokespecial 3, 3) := by decide +kernel
theorem dX8_init_4 : decode cX8_init 4 = .ok (.aload_n 0, 1) := by decide +kernel
theorem dX8_init_5 : decode cX8_init 5 = .ok (.iload_n 1, 1) := by decide +kernel
theorem dX8_init_6 : decode cX8_init 6 = .ok (.putfield 9, 3) := by decide +kernel
theorem dX8_init_9 : decode cX8_init 9 = .ok (.aload_n 0, 1) := by decide +kernel
theorem dX8_init_10 : decode cX8_init 10 = .ok (.aload_n 2, 1) := by decide +kernel
theorem dX8_init_11 : decode cX8_init 11 = .ok (.putfield 15, 3) := by decide +kernel
theorem dX8_init_14 : decode cX8_init 14 = .ok (.aload_n 0, 1) := by decide +kernel
theorem dX8_init_15 : decode cX8_init 15 = .ok (.aload_n 3, 1) := by decide +kernel
theorem dX8_init_16 : decode cX8_init 16 = .ok (.putfield 19, 3) := by decide +kernel
theorem dX8_init_19 : decode cX8_init 19 = .ok (.aload_n 0, 1) := by decide +kernel
theorem dX8_init_20 : decode cX8_init 20 = .ok (.iload 4, 2) := by decide +kernel
theorem dX8_init_22 : decode cX8_init 22 = .ok (.putfield 23, 3) := by decide +kernel
theorem dX8_init_25 : decode cX8_init 25 = .ok (.return_, 1) := by decide +kernel
theorem dX8_begin_0 : decode cX8_begin 0 = .ok (.aload_n 0, 1) := by decide +kernel
theorem dX8_begin_1 : decode cX8_begin 1 = .ok (.getfield 19, 3) := by decide +kernel
theorem dX8_begin_4 : decode cX8_begin 4 = .ok (.aload_n 0, 1) := by decide +kernel
theorem dX8_begin_5 : decode cX8_begin 5 = .ok (.putfield 26, 3) := by decide +kernel
theorem dX8_begin_8 : decode cX8_begin 8 = .ok (.aload_n 0, 1) := by decide +kernel
theorem dX8_begin_9 : decode cX8_begin 9 = .ok (.getfield 19, 3) := by decide +kernel
theorem dX8_begin_12 : decode cX8_begin 12 = .ok (.dup, 1) := by decide +kernel
theorem dX8_begin_13 : decode cX8_begin 13 = .ok (.getfield 32, 3) := by decide +kernel
theorem dX8_begin_16 : decode cX8_begin 16 = .ok (.iconst 1, 1) := by decide +kernel
theorem dX8_begin_17 : decode cX8_begin 17 = .ok (.iadd, 1) := by decide +kernel
theorem dX8_begin_18 : decode cX8_begin 18 = .ok (.putfield 32, 3) := by decide +kernel
theorem dX8_begin_21 : decode cX8_begin 21 = .ok (.aload_n 0, 1) := by decide +kernel
theorem dX8_begin_22 : decode cX8_begin 22 = .ok (.getfield 15, 3) := by decide +kernel
theorem dX8_begin_25 : decode cX8_begin 25 = .ok (.dup, 1) := by decide +kernel
theorem dX8_begin_26 : decode cX8_begin 26 = .ok (.getfield 35, 3) := by decide +kernel
theorem dX8_begin_29 : decode cX8_begin 29 = .ok (.iconst 1, 1) := by decide +kernel
theorem dX8_begin_30 : decode cX8_begin 30 = .ok (.iadd, 1) := by decide +kernel
theorem dX8_begin_31 : decode cX8_begin 31 = .ok (.putfield 35, 3) := by decide +kernel
theorem dX8_begin_34 : decode cX8_begin 34 = .ok (.aload_n 0, 1) := by decide +kernel
theorem dX8_begin_35 : decode cX8_begin 35 = .ok (.getfield 15, 3) := by decide +kernel
theorem dX8_begin_38 : decode cX8_begin 38 = .ok (.dup, 1) := by decide +kernel
theorem dX8_begin_39 : decode cX8_begin 39 = .ok (.getfield 38, 3) := by decide +kernel
theorem dX8_begin_42 : decode cX8_begin 42 = .ok (.iconst 1, 1) := by decide +kernel
theorem dX8_begin_43 : decode cX8_begin 43 = .ok (.iadd, 1) := by decide +kernel
theorem dX8_begin_44 : decode cX8_begin 44 = .ok (.putfield 38, 3) := by decide +kernel
theorem dX8_begin_47 : decode cX8_begin 47 = .ok (.return_, 1) := by decide +kernel
set_option maxRecDepth 20000 in
theorem ggX8_end_X2_debtTaken : GoodIn wsX8_end wsX2_debtTaken := goodIn_r _ [22, 23, 59, 60, 61, 62, 63, 64, 65, 66, 67, 68, 69, 70] (by decide +kernel) (by decide +kernel)
set_option maxRecDepth 20000 in
theorem gX8_end_X2_debtTaken_u41X1 : GoodIn wsX8_end (va_wsU RX8 41 RX1 "TributePitches$Gang" ⟨"TributePitches$Gang", "debtTaken", "()J"⟩ yX2_debtTaken wsX2_debtTaken) := goodIn_app (goodIn_of _ (by decide +kernel)) ggX8_end_X2_debtTaken
set_option maxRecDepth 20000 in
theorem gX8_end_X2_debtTaken : GoodIn wsX8_end (wsV RX8 41 RX2 yX2_debtTaken wsX2_debtTaken) := goodIn_app (goodIn_of _ (by decide +kernel)) ggX8_end_X2_debtTaken
set_option maxRecDepth 20000 in
theorem ggX8_end_X4_debtTaken : GoodIn wsX8_end wsX4_debtTaken := goodIn_r _ [30, 31, 32, 33, 59, 60, 61, 62, 63, 64, 65, 66, 67, 68, 69, 70] (by decide +kernel) (by decide +kernel)
set_option maxRecDepth 20000 in
theorem gX8_end_X4_debtTaken_u41X4 : GoodIn wsX8_end (va_wsO RX8 41 RX4 "TributePitches$Gang" ⟨"TributePitches$Gang", "debtTaken", "()J"⟩ yX4_debtTaken wsX4_debtTaken) := goodIn_app (goodIn_of _ (by decide +kernel)) ggX8_end_X4_debtTaken
set_option maxRecDepth 20000 in
theorem ggX8_end_X1_costsBorne : GoodIn wsX8_end wsX1_costsBorne := goodIn_r _ [40, 41] (by decide +kernel) (by decide +kernel)
set_option maxRecDepth 20000 in
theorem gX8_end_X1_costsBorne_u54X1 : GoodIn wsX8_end (va_wsO RX8 54 RX1 "TributePitches$Gang" ⟨"TributePitches$Gang", "costsBorne", "(J)J"⟩ yX1_costsBorne wsX1_costsBorne) := goodIn_app (goodIn_of _ (by decide +kernel)) ggX8_end_X1_costsBorne
set_option maxRecDepth 20000 in
theorem ggX8_end_X2_costsBorne : GoodIn wsX8_end wsX2_costsBorne := goodIn_r _ [42] (by decide +kernel) (by decide +kernel)
set_option maxRecDepth 20000 in
theorem gX8_end_X2_costsBorne : GoodIn wsX8_end (wsV RX8 54 RX2 yX2_costsBorne wsX2_costsBorne) := goodIn_app (goodIn_of _ (by decide +kernel)) ggX8_end_X2_costsBorne
set_option maxRecDepth 20000 in
theorem gX8_end_X1_costsBorne_u54X4 : GoodIn wsX8_end (va_wsO RX8 54 RX4 "TributePitches$Gang" ⟨"TributePitches$Gang", "costsBorne", "(J)J"⟩ yX1_costsBorne wsX1_costsBorne) := goodIn_app (goodIn_of _ (by decide +kernel)) ggX8_end_X1_costsBorne
theorem dX8_end_0 : decode cX8_end 0 = .ok (.aload_n 0, 1) := by decide +kernel
theorem dX8_end_1 : decode cX8_end 1 = .ok (.getfield 15, 3) := by decide +kernel
theorem dX8_end_4 : decode cX8_end 4 = .ok (.invokevirtual 41, 3) := by decide +kernel
theorem dX8_end_7 : decode cX8_end 7 = .ok (.lstore_n 1, 1) := by decide +kernel
theorem dX8_end_8 : decode cX8_end 8 = .ok (.aload_n 0, 1) := by decide +kernel
theorem dX8_end_9 : decode cX8_end 9 = .ok (.getfield 23, 3) := by decide +kernel
theorem dX8_end_12 : decode cX8_end 12 = .ok (.i2l, 1) := by decide +kernel
theorem dX8_end_13 : decode cX8_end 13 = .ok (.aload_n 0, 1) := by decide +kernel
theorem dX8_end_14 : decode cX8_end 14 = .ok (.getfield 45, 3) := by decide +kernel
theorem dX8_end_17 : decode cX8_end 17 = .ok (.lmul, 1) := by decide +kernel
theorem dX8_end_18 : decode cX8_end 18 = .ok (.ldc2_w 49, 3) := by decide +kernel
theorem dX8_end_21 : decode cX8_end 21 = .ok (.ldiv, 1) := by decide +kernel
theorem dX8_end_22 : decode cX8_end 22 = .ok (.aload_n 0, 1) := by decide +kernel
theorem dX8_end_23 : decode cX8_end 23 = .ok (.getfield 15, 3) := by decide +kernel
theorem dX8_end_26 : decode cX8_end 26 = .ok (.aload_n 0, 1) := by decide +kernel
theorem dX8_end_27 : decode cX8_end 27 = .ok (.getfield 51, 3) := by decide +kernel
theorem dX8_end_30 : decode cX8_end 30 = .ok (.invokevirtual 54, 3) := by decide +kernel
theorem dX8_end_33 : decode cX8_end 33 = .ok (.lsub, 1) := by decide +kernel
theorem dX8_end_34 : decode cX8_end 34 = .ok (.aload_n 0, 1) := by decide +kernel
theorem dX8_end_35 : decode cX8_end 35 = .ok (.getfield 58, 3) := by decide +kernel
theorem dX8_end_38 : decode cX8_end 38 = .ok (.lsub, 1) := by decide +kernel
theorem dX8_end_39 : decode cX8_end 39 = .ok (.lload_n 1, 1) := by decide +kernel
theorem dX8_end_40 : decode cX8_end 40 = .ok (.lsub, 1) := by decide +kernel
theorem dX8_end_41 : decode cX8_end 41 = .ok (.lstore_n 3, 1) := by decide +kernel
theorem dX8_end_42 : decode cX8_end 42 = .ok (.aload_n 0, 1) := by decide +kernel
theorem dX8_end_43 : decode cX8_end 43 = .ok (.lload_n 3, 1) := by decide +kernel
theorem dX8_end_44 : decode cX8_end 44 = .ok (.lconst 0, 1) := by decide +kernel
theorem dX8_end_45 : decode cX8_end 45 = .ok (.invokestatic 61, 3) := by decide +kernel
theorem dX8_end_48 : decode cX8_end 48 = .ok (.putfield 67, 3) := by decide +kernel
theorem dX8_end_51 : decode cX8_end 51 = .ok (.aload_n 0, 1) := by decide +kernel
theorem dX8_end_52 : decode cX8_end 52 = .ok (.getfield 15, 3) := by decide +kernel
theorem dX8_end_55 : decode cX8_end 55 = .ok (.dup, 1) := by decide +kernel
theorem dX8_end_56 : decode cX8_end 56 = .ok (.getfield 70, 3) := by decide +kernel
theorem dX8_end_59 : decode cX8_end 59 = .ok (.aload_n 0, 1) := by decide +kernel
theorem dX8_end_60 : decode cX8_end 60 = .ok (.getfield 67, 3) := by decide +kernel
theorem dX8_end_63 : decode cX8_end 63 = .ok (.lload_n 3, 1) := by decide +kernel
theorem dX8_end_64 : decode cX8_end 64 = .ok (.lsub, 1) := by decide +kernel
theorem dX8_end_65 : decode cX8_end 65 = .ok (.lload_n 1, 1) := by decide +kernel
theorem dX8_end_66 : decode cX8_end 66 = .ok (.lsub, 1) := by decide +kernel
theorem dX8_end_67 : decode cX8_end 67 = .ok (.ladd, 1) := by decide +kernel
theorem dX8_end_68 : decode cX8_end 68 = .ok (.putfield 70, 3) := by decide +kernel
theorem dX8_end_71 : decode cX8_end 71 = .ok (.aload_n 0, 1) := by decide +kernel
theorem dX8_end_72 : decode cX8_end 72 = .ok (.iconst 1, 1) := by decide +kernel
theorem dX8_end_73 : decode cX8_end 73 = .ok (.putfield 73, 3) := by decide +kernel
theorem dX8_end_76 : decode cX8_end 76 = .ok (.aload_n 0, 1) := by decide +kernel
theorem dX8_end_77 : decode cX8_end 77 = .ok (.getfield 15, 3) := by decide +kernel
theorem dX8_end_80 : decode cX8_end 80 = .ok (.dup, 1) := by decide +kernel
theorem dX8_end_81 : decode cX8_end 81 = .ok (.getfield 38, 3) := by decide +kernel
theorem dX8_end_84 : decode cX8_end 84 = .ok (.iconst 1, 1) := by decide +kernel
theorem dX8_end_85 : decode cX8_end 85 = .ok (.isub, 1) := by decide +kernel
theorem dX8_end_86 : decode cX8_end 86 = .ok (.putfield 38, 3) := by decide +kernel
theorem dX8_end_89 : decode cX8_end 89 = .ok (.aload_n 0, 1) := by decide +kernel
theorem dX8_end_90 : decode cX8_end 90 = .ok (.getfield 19, 3) := by decide +kernel
theorem dX8_end_93 : decode cX8_end 93 = .ok (.aconst_null, 1) := by decide +kernel
theorem dX8_end_94 : decode cX8_end 94 = .ok (.putfield 26, 3) := by decide +kernel
theorem dX8_end_97 : decode cX8_end 97 = .ok (.return_, 1) := by decide +kernel
theorem dX9_init_0 : decode cX9_init 0 = .ok (.aload_n 0, 1) := by decide +kernel
theorem dX9_init_1 : decode cX9_init 1 = .ok (.invokespecial 1, 3) := by decide +kernel
theorem dX9_init_4 : decode cX9_init 4 = .ok (.return_, 1) := by decide +kernel
theorem dX9_leave_0 : decode cX9_leave 0 = .ok (.aload_n 0, 1) := by decide +kernel
theorem dX9_leave_1 : decode cX9_leave 1 = .ok (.bipush 31, 2) := by decide +kernel
theorem dX9_leave_3 : decode cX9_leave 3 = .ok (.aload_n 0, 1) := by decide +kernel
theorem dX9_leave_4 : decode cX9_leave 4 = .ok (.getfield 7, 3) := by decide +kernel
theorem dX9_leave_7 : decode cX9_leave 7 = .ok (.imul, 1) := by decide +kernel
theorem dX9_leave_8 : decode cX9_leave 8 = .ok (.iload_n 1, 1) := by decide +kernel
theorem dX9_leave_9 : decode cX9_leave 9 = .ok (.iadd, 1) := by decide +kernel
theorem dX9_leave_10 : decode cX9_leave 10 = .ok (.putfield 7, 3) := by decide +kernel
theorem dX9_leave_13 : decode cX9_leave 13 = .ok (.return_, 1) := by decide +kernel
set_option maxRecDepth 20000 in
theorem ggX10_init_X3_init : GoodIn wsX10_init wsX3_init := goodIn_r _ [27, 28, 2, 3, 29, 30, 31, 32, 33, 34, 35, 36, 37, 38, 47, 48, 49, 50, 51] (by decide +kernel) (by decide +kernel)
set_option maxRecDepth 20000 in
theorem gX10_init_X3_init : GoodIn wsX10_init (wsX3_init) := ggX10_init_X3_init
set_option maxRecDepth 20000 in
theorem ggX10_init_X7_init : GoodIn wsX10_init wsX7_init := goodIn_r _ [40, 41, 2, 3, 29, 42, 43, 65, 66, 67] (by decide +kernel) (by decide +kernel)
set_option maxRecDepth 20000 in
theorem gX10_init_X7_init_n44 : GoodIn wsX10_init (wsX7_init) := ggX10_init_X7_init
set_option maxRecDepth 20000 in
theorem ggX10_init_X9_init : GoodIn wsX10_init wsX9_init := goodIn_r _ [45, 46, 2, 3] (by decide +kernel) (by decide +kernel)
set_option maxRecDepth 20000 in
theorem gX10_init_X9_init_n51 : GoodIn wsX10_init (wsX9_init) := ggX10_init_X9_init
theorem dX10_init_0 : decode cX10_init 0 = .ok (.aload_n 0, 1) := by decide +kernel
theorem dX10_init_1 : decode cX10_init 1 = .ok (.invokespecial 3, 3) := by decide +kernel
theorem dX10_init_4 : decode cX10_init 4 = .ok (.aload_n 0, 1) := by decide +kernel
theorem dX10_init_5 : decode cX10_init 5 = .ok (.new 9, 3) := by decide +kernel
theorem dX10_init_8 : decode cX10_init 8 = .ok (.dup, 1) := by decide +kernel
theorem dX10_init_9 : decode cX10_init 9 = .ok (.invokespecial 11, 3) := by decide +kernel
theorem dX10_init_12 : decode cX10_init 12 = .ok (.putfield 12, 3) := by decide +kernel
theorem dX10_init_15 : decode cX10_init 15 = .ok (.aload_n 0, 1) := by decide +kernel
theorem dX10_init_16 : decode cX10_init 16 = .ok (.bipush 12, 2) := by decide +kernel
theorem dX10_init_18 : decode cX10_init 18 = .ok (.anewarray 18, 3) := by decide +kernel
theorem dX10_init_21 : decode cX10_init 21 = .ok (.putfield 20, 3) := by decide +kernel
theorem dX10_init_24 : decode cX10_init 24 = .ok (.aload_n 0, 1) := by decide +kernel
theorem dX10_init_25 : decode cX10_init 25 = .ok (.bipush 8, 2) := by decide +kernel
theorem dX10_init_27 : decode cX10_init 27 = .ok (.anewarray 24, 3) := by decide +kernel
theorem dX10_init_30 : decode cX10_init 30 = .ok (.putfield 26, 3) := by decide +kernel
theorem dX10_init_33 : decode cX10_init 33 = .ok (.aload_n 0, 1) := by decide +kernel
theorem dX10_init_34 : decode cX10_init 34 = .ok (.bipush 40, 2) := by decide +kernel
theorem dX10_init_36 : decode cX10_init 36 = .ok (.anewarray 30, 3) := by decide +kernel
theorem dX10_init_39 : decode cX10_init 39 = .ok (.putfield 32, 3) := by decide +kernel
theorem dX10_init_42 : decode cX10_init 42 = .ok (.aload_n 0, 1) := by decide +kernel
theorem dX10_init_43 : decode cX10_init 43 = .ok (.bipush 80, 2) := by decide +kernel
theorem dX10_init_45 : decode cX10_init 45 = .ok (.anewarray 36, 3) := by decide +kernel
theorem dX10_init_48 : decode cX10_init 48 = .ok (.putfield 38, 3) := by decide +kernel
theorem dX10_init_51 : decode cX10_init 51 = .ok (.aload_n 0, 1) := by decide +kernel
theorem dX10_init_52 : decode cX10_init 52 = .ok (.iconst 4, 1) := by decide +kernel
theorem dX10_init_53 : decode cX10_init 53 = .ok (.anewarray 42, 3) := by decide +kernel
theorem dX10_init_56 : decode cX10_init 56 = .ok (.dup, 1) := by decide +kernel
theorem dX10_init_57 : decode cX10_init 57 = .ok (.iconst 0, 1) := by decide +kernel
theorem dX10_init_58 : decode cX10_init 58 = .ok (.new 42, 3) := by decide +kernel
theorem dX10_init_61 : decode cX10_init 61 = .ok (.dup, 1) := by decide +kernel
theorem dX10_init_62 : decode cX10_init 62 = .ok (.invokespecial 44, 3) := by decide +kernel
theorem dX10_init_65 : decode cX10_init 65 = .ok (.aastore, 1) := by decide +kernel
theorem dX10_init_66 : decode cX10_init 66 = .ok (.dup, 1) := by decide +kernel
theorem dX10_init_67 : decode cX10_init 67 = .ok (.iconst 1, 1) := by decide +kernel
theorem dX10_init_68 : decode cX10_init 68 = .ok (.new 42, 3) := by decide +kernel
theorem dX10_init_71 : decode cX10_init 71 = .ok (.dup, 1) := by decide +kernel
theorem dX10_init_72 : decode cX10_init 72 = .ok (.invokespecial 44, 3) := by decide +kernel
theorem dX10_init_75 : decode cX10_init 75 = .ok (.aastore, 1) := by decide +kernel
theorem dX10_init_76 : decode cX10_init 76 = .ok (.dup, 1) := by decide +kernel
theorem dX10_init_77 : decode cX10_init 77 = .ok (.iconst 2, 1) := by decide +kernel
theorem dX10_init_78 : decode cX10_init 78 = .ok (.new 42, 3) := by decide +kernel
theorem dX10_init_81 : decode cX10_init 81 = .ok (.dup, 1) := by decide +kernel
theorem dX10_init_82 : decode cX10_init 82 = .ok (.invokespecial 44, 3) := by decide +kernel
theorem dX10_init_85 : decode cX10_init 85 = .ok (.aastore, 1) := by decide +kernel
theorem dX10_init_86 : decode cX10_init 86 = .ok (.dup, 1) := by decide +kernel
theorem dX10_init_87 : decode cX10_init 87 = .ok (.iconst 3, 1) := by decide +kernel
theorem dX10_init_88 : decode cX10_init 88 = .ok (.new 42, 3) := by decide +kernel
theorem dX10_init_91 : decode cX10_init 91 = .ok (.dup, 1) := by decide +kernel
theorem dX10_init_92 : decode cX10_init 92 = .ok (.invokespecial 44, 3) := by decide +kernel
theorem dX10_init_95 : decode cX10_init 95 = .ok (.aastore, 1) := by decide +kernel
theorem dX10_init_96 : decode cX10_init 96 = .ok (.putfield 45, 3) := by decide +kernel
theorem dX10_init_99 : decode cX10_init 99 = .ok (.aload_n 0, 1) := by decide +kernel
theorem dX10_init_100 : decode cX10_init 100 = .ok (.new 49, 3) := by decide +kernel
theorem dX10_init_103 : decode cX10_init 103 = .ok (.dup, 1) := by decide +kernel
theorem dX10_init_104 : decode cX10_init 104 = .ok (.invokespecial 51, 3) := by decide +kernel
theorem dX10_init_107 : decode cX10_init 107 = .ok (.putfield 52, 3) := by decide +kernel
theorem dX10_init_110 : decode cX10_init 110 = .ok (.aload_n 0, 1) := by decide +kernel
theorem dX10_init_111 : decode cX10_init 111 = .ok (.iconst 0, 1) := by decide +kernel
theorem dX10_init_112 : decode cX10_init 112 = .ok (.putfield 56, 3) := by decide +kernel
theorem dX10_init_115 : decode cX10_init 115 = .ok (.return_, 1) := by decide +kernel
set_option maxRecDepth 20000 in
theorem ggX10_find_X3_hasSquare : GoodIn wsX10_find wsX3_hasSquare := goodIn_r _ [6, 7, 8, 9] (by decide +kernel) (by decide +kernel)
set_option maxRecDepth 20000 in
theorem gX10_find_X3_hasSquare : GoodIn wsX10_find (va_wsS RX10 60 yX3_hasSquare wsX3_hasSquare) := goodIn_app (goodIn_of _ (by decide +kernel)) ggX10_find_X3_hasSquare
set_option maxRecDepth 20000 in
theorem ggX10_find_X10_isWithin : GoodIn wsX10_find wsX10_isWithin := goodIn_r _ [9] (by decide +kernel) (by decide +kernel)
set_option maxRecDepth 20000 in
theorem gX10_find_X10_isWithin : GoodIn wsX10_find (va_wsS RX10 64 yX10_isWithin wsX10_isWithin) := goodIn_app (goodIn_of _ (by decide +kernel)) ggX10_find_X10_isWithin
set_option maxRecDepth 20000 in
theorem ggX10_find_X3_beginTrial : GoodIn wsX10_find wsX3_beginTrial := goodIn_r _ [14, 15, 16, 17, 18, 19, 20, 21, 22, 64, 65, 66, 67, 68] (by decide +kernel) (by decide +kernel)
set_option maxRecDepth 20000 in
theorem gX10_find_X3_beginTrial : GoodIn wsX10_find (wsV RX10 68 RX3 yX3_beginTrial wsX3_beginTrial) := goodIn_app (goodIn_of _ (by decide +kernel)) ggX10_find_X3_beginTrial
set_option maxRecDepth 20000 in
theorem ggX10_find_X3_numberOf : GoodIn wsX10_find wsX3_numberOf := goodIn_r _ [25] (by decide +kernel) (by decide +kernel)
set_option maxRecDepth 20000 in
theorem gX10_find_X3_numberOf : GoodIn wsX10_find (va_wsS RX10 71 yX3_numberOf wsX3_numberOf) := goodIn_app (goodIn_of _ (by decide +kernel)) ggX10_find_X3_numberOf
set_option maxRecDepth 20000 in
theorem ggX10_find_X3_tryCommon : GoodIn wsX10_find wsX3_tryCommon := goodIn_r _ [29, 16, 30, 31, 32, 33, 22, 34, 35, 36, 64, 65, 66, 67, 68] (by decide +kernel) (by decide +kernel)
set_option maxRecDepth 20000 in
theorem gX10_find_X3_tryCommon : GoodIn wsX10_find (wsV RX10 75 RX3 yX3_tryCommon wsX3_tryCommon) := goodIn_app (goodIn_of _ (by decide +kernel)) ggX10_find_X3_tryCommon
set_option maxRecDepth 20000 in
theorem ggX10_find_X3_endTrial : GoodIn wsX10_find wsX3_endTrial := goodIn_r _ [40, 16, 22, 15, 21, 17, 18, 19, 20, 41, 42, 43, 44, 5, 45, 46, 47, 48, 49, 50, 27, 28, 29, 30, 31, 32, 33, 34, 35, 36, 64, 65, 66, 67, 68] (by decide +kernel) (by decide +kernel)
set_option maxRecDepth 20000 in
theorem gX10_find_X3_endTrial : GoodIn wsX10_find (wsV RX10 82 RX3 yX3_endTrial wsX3_endTrial) := goodIn_app (goodIn_of _ (by decide +kernel)) ggX10_find_X3_endTrial
theorem dX10_find_0 : decode cX10_find 0 = .ok (.iload_n 1, 1) := by decide +kernel
theorem dX10_find_1 : decode cX10_find 1 = .ok (.iload_n 2, 1) := by decide +kernel
theorem dX10_find_2 : decode cX10_find 2 = .ok (.invokestatic 60, 3) := by decide +kernel
theorem dX10_find_5 : decode cX10_find 5 = .ok (.ifCond .ne 5, 3) := by decide +kernel
theorem dX10_find_8 : decode cX10_find 8 = .ok (.iconst (-1), 1) := by decide +kernel
theorem dX10_find_9 : decode cX10_find 9 = .ok (.ireturn, 1) := by decide +kernel
theorem dX10_find_10 : decode cX10_find 10 = .ok (.iload_n 3, 1) := by decide +kernel
theorem dX10_find_11 : decode cX10_find 11 = .ok (.iconst 0, 1) := by decide +kernel
theorem dX10_find_12 : decode cX10_find 12 = .ok (.sipush 1000, 3) := by decide +kernel
theorem dX10_find_15 : decode cX10_find 15 = .ok (.invokestatic 64, 3) := by decide +kernel
theorem dX10_find_18 : decode cX10_find 18 = .ok (.ifCond .eq 21, 3) := by decide +kernel
theorem dX10_find_21 : decode cX10_find 21 = .ok (.iload 4, 2) := by decide +kernel
theorem dX10_find_23 : decode cX10_find 23 = .ok (.iconst 0, 1) := by decide +kernel
theorem dX10_find_24 : decode cX10_find 24 = .ok (.sipush 1000, 3) := by decide +kernel
theorem dX10_find_27 : decode cX10_find 27 = .ok (.invokestatic 64, 3) := by decide +kernel
theorem dX10_find_30 : decode cX10_find 30 = .ok (.ifCond .eq 9, 3) := by decide +kernel
theorem dX10_find_33 : decode cX10_find 33 = .ok (.iload_n 3, 1) := by decide +kernel
theorem dX10_find_34 : decode cX10_find 34 = .ok (.iload 4, 2) := by decide +kernel
theorem dX10_find_36 : decode cX10_find 36 = .ok (.if_icmp .le 6, 3) := by decide +kernel
theorem dX10_find_39 : decode cX10_find 39 = .ok (.bipush (-2), 2) := by decide +kernel
theorem dX10_find_41 : decode cX10_find 41 = .ok (.ireturn, 1) := by decide +kernel
theorem dX10_find_42 : decode cX10_find 42 = .ok (.aload_n 0, 1) := by decide +kernel
theorem dX10_find_43 : decode cX10_find 43 = .ok (.getfield 12, 3) := by decide +kernel
theorem dX10_find_46 : decode cX10_find 46 = .ok (.invokevirtual 68, 3) := by decide +kernel
theorem dX10_find_49 : decode cX10_find 49 = .ok (.aload_n 0, 1) := by decide +kernel
theorem dX10_find_50 : decode cX10_find 50 = .ok (.getfield 12, 3) := by decide +kernel
theorem dX10_find_53 : decode cX10_find 53 = .ok (.iload_n 1, 1) := by decide +kernel
theorem dX10_find_54 : decode cX10_find 54 = .ok (.iload_n 2, 1) := by decide +kernel
theorem dX10_find_55 : decode cX10_find 55 = .ok (.invokestatic 71, 3) := by decide +kernel
theorem dX10_find_58 : decode cX10_find 58 = .ok (.iload_n 3, 1) := by decide +kernel
theorem dX10_find_59 : decode cX10_find 59 = .ok (.iload 4, 2) := by decide +kernel
theorem dX10_find_61 : decode cX10_find 61 = .ok (.invokevirtual 75, 3) := by decide +kernel
theorem dX10_find_64 : decode cX10_find 64 = .ok (.aload_n 0, 1) := by decide +kernel
theorem dX10_find_65 : decode cX10_find 65 = .ok (.getfield 12, 3) := by decide +kernel
theorem dX10_find_68 : decode cX10_find 68 = .ok (.aload_n 0, 1) := by decide +kernel
theorem dX10_find_69 : decode cX10_find 69 = .ok (.getfield 12, 3) := by decide +kernel
theorem dX10_find_72 : decode cX10_find 72 = .ok (.getfield 79, 3) := by decide +kernel
theorem dX10_find_75 : decode cX10_find 75 = .ok (.invokevirtual 82, 3) := by decide +kernel
theorem dX10_find_78 : decode cX10_find 78 = .ok (.ireturn, 1) := by decide +kernel
set_option maxRecDepth 20000 in
theorem ggX10_rise_X10_isWithin : GoodIn wsX10_rise wsX10_isWithin := goodIn_r _ [6] (by decide +kernel) (by decide +kernel)
set_option maxRecDepth 20000 in
theorem gX10_rise_X10_isWithin : GoodIn wsX10_rise (va_wsS RX10 64 yX10_isWithin wsX10_isWithin) := goodIn_app (goodIn_of _ (by decide +kernel)) ggX10_rise_X10_isWithin
set_option maxRecDepth 20000 in
theorem ggX10_rise_X3_beginTrial : GoodIn wsX10_rise wsX3_beginTrial := goodIn_r _ [11, 12, 13, 14, 15, 16, 17, 18, 19, 57, 58, 59, 60, 61] (by decide +kernel) (by decide +kernel)
set_option maxRecDepth 20000 in
theorem gX10_rise_X3_beginTrial : GoodIn wsX10_rise (wsV RX10 68 RX3 yX3_beginTrial wsX3_beginTrial) := goodIn_app (goodIn_of _ (by decide +kernel)) ggX10_rise_X3_beginTrial
set_option maxRecDepth 20000 in
theorem ggX10_rise_X3_endTrial : GoodIn wsX10_rise wsX3_endTrial := goodIn_r _ [23, 13, 19, 12, 18, 14, 15, 16, 17, 24, 25, 26, 27, 10, 28, 29, 30, 31, 32, 33, 34, 35, 36, 37, 38, 39, 40, 41, 42, 43, 57, 58, 59, 60, 61] (by decide +kernel) (by decide +kernel)
set_option maxRecDepth 20000 in
theorem gX10_rise_X3_endTrial : GoodIn wsX10_rise (wsV RX10 82 RX3 yX3_endTrial wsX3_endTrial) := goodIn_app (goodIn_of _ (by decide +kernel)) ggX10_rise_X3_endTrial
theorem dX10_rise_0 : decode cX10_rise 0 = .ok (.iload_n 1, 1) := by decide +kernel
theorem dX10_rise_1 : decode cX10_rise 1 = .ok (.iconst 0, 1) := by decide +kernel
theorem dX10_rise_2 : decode cX10_rise 2 = .ok (.sipush 1000, 3) := by decide +kernel
theorem dX10_rise_5 : decode cX10_rise 5 = .ok (.invokestatic 64, 3) := by decide +kernel
theorem dX10_rise_8 : decode cX10_rise 8 = .ok (.ifCond .ne 6, 3) := by decide +kernel
theorem dX10_rise_11 : decode cX10_rise 11 = .ok (.bipush (-2), 2) := by decide +kernel
theorem dX10_rise_13 : decode cX10_rise 13 = .ok (.ireturn, 1) := by decide +kernel
theorem dX10_rise_14 : decode cX10_rise 14 = .ok (.iload_n 1, 1) := by decide +kernel
theorem dX10_rise_15 : decode cX10_rise 15 = .ok (.aload_n 0, 1) := by decide +kernel
theorem dX10_rise_16 : decode cX10_rise 16 = .ok (.getfield 12, 3) := by decide +kernel
theorem dX10_rise_19 : decode cX10_rise 19 = .ok (.getfield 79, 3) := by decide +kernel
theorem dX10_rise_22 : decode cX10_rise 22 = .ok (.if_icmp .le 6, 3) := by decide +kernel
theorem dX10_rise_25 : decode cX10_rise 25 = .ok (.bipush (-3), 2) := by decide +kernel
theorem dX10_rise_27 : decode cX10_rise 27 = .ok (.ireturn, 1) := by decide +kernel
theorem dX10_rise_28 : decode cX10_rise 28 = .ok (.aload_n 0, 1) := by decide +kernel
theorem dX10_rise_29 : decode cX10_rise 29 = .ok (.getfield 12, 3) := by decide +kernel
theorem dX10_rise_32 : decode cX10_rise 32 = .ok (.invokevirtual 68, 3) := by decide +kernel
theorem dX10_rise_35 : decode cX10_rise 35 = .ok (.aload_n 0, 1) := by decide +kernel
theorem dX10_rise_36 : decode cX10_rise 36 = .ok (.getfield 12, 3) := by decide +kernel
theorem dX10_rise_39 : decode cX10_rise 39 = .ok (.iload_n 1, 1) := by decide +kernel
theorem dX10_rise_40 : decode cX10_rise 40 = .ok (.invokevirtual 82, 3) := by decide +kernel
theorem dX10_rise_43 : decode cX10_rise 43 = .ok (.ireturn, 1) := by decide +kernel
set_option maxRecDepth 20000 in
theorem ggX10_good_X3_hasSquare : GoodIn wsX10_good wsX3_hasSquare := goodIn_r _ [7, 8, 9, 10] (by decide +kernel) (by decide +kernel)
set_option maxRecDepth 20000 in
theorem gX10_good_X3_hasSquare : GoodIn wsX10_good (va_wsS RX10 60 yX3_hasSquare wsX3_hasSquare) := goodIn_app (goodIn_of _ (by decide +kernel)) ggX10_good_X3_hasSquare
set_option maxRecDepth 20000 in
theorem ggX10_good_X10_isWithin : GoodIn wsX10_good wsX10_isWithin := goodIn_r _ [10] (by decide +kernel) (by decide +kernel)
set_option maxRecDepth 20000 in
theorem gX10_good_X10_isWithin : GoodIn wsX10_good (va_wsS RX10 64 yX10_isWithin wsX10_isWithin) := goodIn_app (goodIn_of _ (by decide +kernel)) ggX10_good_X10_isWithin
set_option maxRecDepth 20000 in
theorem ggX10_good_X3_numberOf : GoodIn wsX10_good wsX3_numberOf := goodIn_r _ [14] (by decide +kernel) (by decide +kernel)
set_option maxRecDepth 20000 in
theorem gX10_good_X3_numberOf : GoodIn wsX10_good (va_wsS RX10 71 yX3_numberOf wsX3_numberOf) := goodIn_app (goodIn_of _ (by decide +kernel)) ggX10_good_X3_numberOf
theorem dX10_good_0 : decode cX10_good 0 = .ok (.iload_n 1, 1) := by decide +kernel
theorem dX10_good_1 : decode cX10_good 1 = .ok (.iload_n 2, 1) := by decide +kernel
theorem dX10_good_2 : decode cX10_good 2 = .ok (.invokestatic 60, 3) := by decide +kernel
theorem dX10_good_5 : decode cX10_good 5 = .ok (.ifCond .ne 5, 3) := by decide +kernel
theorem dX10_good_8 : decode cX10_good 8 = .ok (.iconst (-1), 1) := by decide +kernel
theorem dX10_good_9 : decode cX10_good 9 = .ok (.ireturn, 1) := by decide +kernel
theorem dX10_good_10 : decode cX10_good 10 = .ok (.iload_n 3, 1) := by decide +kernel
theorem dX10_good_11 : decode cX10_good 11 = .ok (.iconst 0, 1) := by decide +kernel
theorem dX10_good_12 : decode cX10_good 12 = .ok (.iconst 1, 1) := by decide +kernel
theorem dX10_good_13 : decode cX10_good 13 = .ok (.invokestatic 64, 3) := by decide +kernel
theorem dX10_good_16 : decode cX10_good 16 = .ok (.ifCond .ne 6, 3) := by decide +kernel
theorem dX10_good_19 : decode cX10_good 19 = .ok (.bipush (-2), 2) := by decide +kernel
theorem dX10_good_21 : decode cX10_good 21 = .ok (.ireturn, 1) := by decide +kernel
theorem dX10_good_22 : decode cX10_good 22 = .ok (.iload_n 1, 1) := by decide +kernel
theorem dX10_good_23 : decode cX10_good 23 = .ok (.iload_n 2, 1) := by decide +kernel
theorem dX10_good_24 : decode cX10_good 24 = .ok (.invokestatic 71, 3) := by decide +kernel
theorem dX10_good_27 : decode cX10_good 27 = .ok (.istore 4, 2) := by decide +kernel
theorem dX10_good_29 : decode cX10_good 29 = .ok (.iload_n 3, 1) := by decide +kernel
theorem dX10_good_30 : decode cX10_good 30 = .ok (.ifCond .ne 16, 3) := by decide +kernel
theorem dX10_good_33 : decode cX10_good 33 = .ok (.aload_n 0, 1) := by decide +kernel
theorem dX10_good_34 : decode cX10_good 34 = .ok (.getfield 12, 3) := by decide +kernel
theorem dX10_good_37 : decode cX10_good 37 = .ok (.getfield 86, 3) := by decide +kernel
theorem dX10_good_40 : decode cX10_good 40 = .ok (.iload 4, 2) := by decide +kernel
theorem dX10_good_42 : decode cX10_good 42 = .ok (.iaload, 1) := by decide +kernel
theorem dX10_good_43 : decode cX10_good 43 = .ok (.goto 13, 3) := by decide +kernel
end
section
theorem dX10_good_46 : decode cX10_good 46 = .ok (.aload_n 0, 1) := by decide +kernel
theorem dX10_good_47 : decode cX10_good 47 = .ok (.getfield 12, 3) := by decide +kernel
theorem dX10_good_50 : decode cX10_good 50 = .ok (.getfield 90, 3) := by decide +kernel
theorem dX10_good_53 : decode cX10_good 53 = .ok (.iload 4, 2) := by decide +kernel
theorem dX10_good_55 : decode cX10_good 55 = .ok (.iaload, 1) := by decide +kernel
theorem dX10_good_56 : decode cX10_good 56 = .ok (.ireturn, 1) := by decide +kernel
set_option maxRecDepth 20000 in
theorem ggX10_chart_X10_sheetAt : GoodIn wsX10_chart wsX10_sheetAt := goodIn_r _ [9, 10, 11, 12, 8, 13, 82, 83, 84, 85, 86, 87, 88, 89, 90, 91, 92, 93, 94] (by decide +kernel) (by decide +kernel)
set_option maxRecDepth 20000 in
theorem gX10_chart_X10_sheetAt : GoodIn wsX10_chart (wsV RX10 93 RX10 yX10_sheetAt wsX10_sheetAt) := goodIn_app (goodIn_of _ (by decide +kernel)) ggX10_chart_X10_sheetAt
set_option maxRecDepth 20000 in
theorem ggX10_chart_X10_isWithin : GoodIn wsX10_chart wsX10_isWithin := goodIn_r _ [13] (by decide +kernel) (by decide +kernel)
set_option maxRecDepth 20000 in
theorem gX10_chart_X10_isWithin : GoodIn wsX10_chart (va_wsS RX10 64 yX10_isWithin wsX10_isWithin) := goodIn_app (goodIn_of _ (by decide +kernel)) ggX10_chart_X10_isWithin
set_option maxRecDepth 20000 in
theorem ggX10_chart_X7_isLane : GoodIn wsX10_chart wsX7_isLane := goodIn_r _ [17, 12, 8, 13] (by decide +kernel) (by decide +kernel)
set_option maxRecDepth 20000 in
theorem gX10_chart_X7_isLane : GoodIn wsX10_chart (va_wsS RX10 97 yX7_isLane wsX7_isLane) := goodIn_app (goodIn_of _ (by decide +kernel)) ggX10_chart_X7_isLane
set_option maxRecDepth 20000 in
theorem ggX10_chart_X10_chartFault : GoodIn wsX10_chart wsX10_chartFault := goodIn_r _ [20, 21, 22, 23, 16, 24, 25, 26, 27, 28, 29, 30, 31, 32, 33, 34, 95, 96, 97] (by decide +kernel) (by decide +kernel)
set_option maxRecDepth 20000 in
theorem gX10_chart_X10_chartFault : GoodIn wsX10_chart (va_wsS RX10 101 yX10_chartFault wsX10_chartFault) := goodIn_app (goodIn_of _ (by decide +kernel)) ggX10_chart_X10_chartFault
set_option maxRecDepth 20000 in
theorem ggX10_chart_X10_faulted : GoodIn wsX10_chart wsX10_faulted := goodIn_r _ [38, 1, 82, 83, 84, 85, 86, 87, 88, 89, 90, 91, 92, 93, 94] (by decide +kernel) (by decide +kernel)
set_option maxRecDepth 20000 in
theorem gX10_chart_X10_faulted : GoodIn wsX10_chart (wsV RX10 105 RX10 yX10_faulted wsX10_faulted) := goodIn_app (goodIn_of _ (by decide +kernel)) ggX10_chart_X10_faulted
set_option maxRecDepth 20000 in
theorem ggX10_chart_X7_hasAbove : GoodIn wsX10_chart wsX7_hasAbove := goodIn_r _ [42, 43, 95, 96, 97] (by decide +kernel) (by decide +kernel)
set_option maxRecDepth 20000 in
theorem gX10_chart_X7_hasAbove : GoodIn wsX10_chart (wsV RX10 108 RX7 yX7_hasAbove wsX7_hasAbove) := goodIn_app (goodIn_of _ (by decide +kernel)) ggX10_chart_X7_hasAbove
set_option maxRecDepth 20000 in
theorem ggX10_chart_X3_beginTrial : GoodIn wsX10_chart wsX3_beginTrial := goodIn_r _ [48, 49, 50, 51, 52, 53, 54, 55, 56, 98, 99, 100, 101, 102] (by decide +kernel) (by decide +kernel)
set_option maxRecDepth 20000 in
theorem gX10_chart_X3_beginTrial : GoodIn wsX10_chart (wsV RX10 68 RX3 yX3_beginTrial wsX3_beginTrial) := goodIn_app (goodIn_of _ (by decide +kernel)) ggX10_chart_X3_beginTrial
set_option maxRecDepth 20000 in
theorem ggX10_chart_X3_tryCommon : GoodIn wsX10_chart wsX3_tryCommon := goodIn_r _ [60, 50, 61, 62, 63, 64, 56, 65, 66, 67, 98, 99, 100, 101, 102] (by decide +kernel) (by decide +kernel)
set_option maxRecDepth 20000 in
theorem gX10_chart_X3_tryCommon : GoodIn wsX10_chart (wsV RX10 75 RX3 yX3_tryCommon wsX3_tryCommon) := goodIn_app (goodIn_of _ (by decide +kernel)) ggX10_chart_X3_tryCommon
set_option maxRecDepth 20000 in
theorem ggX10_chart_X3_endTrial : GoodIn wsX10_chart wsX3_endTrial := goodIn_r _ [71, 50, 56, 49, 55, 51, 52, 53, 54, 72, 73, 74, 75, 47, 76, 77, 78, 79, 80, 81, 58, 59, 60, 61, 62, 63, 64, 65, 66, 67, 98, 99, 100, 101, 102] (by decide +kernel) (by decide +kernel)
set_option maxRecDepth 20000 in
theorem gX10_chart_X3_endTrial : GoodIn wsX10_chart (wsV RX10 82 RX3 yX3_endTrial wsX3_endTrial) := goodIn_app (goodIn_of _ (by decide +kernel)) ggX10_chart_X3_endTrial
theorem dX10_chart_0 : decode cX10_chart 0 = .ok (.aload_n 0, 1) := by decide +kernel
theorem dX10_chart_1 : decode cX10_chart 1 = .ok (.iconst 0, 1) := by decide +kernel
theorem dX10_chart_2 : decode cX10_chart 2 = .ok (.putfield 56, 3) := by decide +kernel
theorem dX10_chart_5 : decode cX10_chart 5 = .ok (.aload_n 0, 1) := by decide +kernel
theorem dX10_chart_6 : decode cX10_chart 6 = .ok (.iload_n 1, 1) := by decide +kernel
theorem dX10_chart_7 : decode cX10_chart 7 = .ok (.invokevirtual 93, 3) := by decide +kernel
theorem dX10_chart_10 : decode cX10_chart 10 = .ok (.astore 6, 2) := by decide +kernel
theorem dX10_chart_12 : decode cX10_chart 12 = .ok (.aload 6, 2) := by decide +kernel
theorem dX10_chart_14 : decode cX10_chart 14 = .ok (.ifnull 14, 3) := by decide +kernel
theorem dX10_chart_17 : decode cX10_chart 17 = .ok (.iload 5, 2) := by decide +kernel
theorem dX10_chart_19 : decode cX10_chart 19 = .ok (.iconst 0, 1) := by decide +kernel
theorem dX10_chart_20 : decode cX10_chart 20 = .ok (.bipush 47, 2) := by decide +kernel
theorem dX10_chart_22 : decode cX10_chart 22 = .ok (.invokestatic 64, 3) := by decide +kernel
theorem dX10_chart_25 : decode cX10_chart 25 = .ok (.ifCond .ne 5, 3) := by decide +kernel
theorem dX10_chart_28 : decode cX10_chart 28 = .ok (.iconst (-1), 1) := by decide +kernel
theorem dX10_chart_29 : decode cX10_chart 29 = .ok (.ireturn, 1) := by decide +kernel
theorem dX10_chart_30 : decode cX10_chart 30 = .ok (.iload_n 2, 1) := by decide +kernel
theorem dX10_chart_31 : decode cX10_chart 31 = .ok (.invokestatic 97, 3) := by decide +kernel
theorem dX10_chart_34 : decode cX10_chart 34 = .ok (.ifCond .ne 6, 3) := by decide +kernel
theorem dX10_chart_37 : decode cX10_chart 37 = .ok (.bipush (-2), 2) := by decide +kernel
theorem dX10_chart_39 : decode cX10_chart 39 = .ok (.ireturn, 1) := by decide +kernel
theorem dX10_chart_40 : decode cX10_chart 40 = .ok (.aload 6, 2) := by decide +kernel
theorem dX10_chart_42 : decode cX10_chart 42 = .ok (.iload_n 2, 1) := by decide +kernel
theorem dX10_chart_43 : decode cX10_chart 43 = .ok (.iload_n 3, 1) := by decide +kernel
theorem dX10_chart_44 : decode cX10_chart 44 = .ok (.iload 4, 2) := by decide +kernel
theorem dX10_chart_46 : decode cX10_chart 46 = .ok (.iload 5, 2) := by decide +kernel
theorem dX10_chart_48 : decode cX10_chart 48 = .ok (.invokestatic 101, 3) := by decide +kernel
theorem dX10_chart_51 : decode cX10_chart 51 = .ok (.istore 7, 2) := by decide +kernel
theorem dX10_chart_53 : decode cX10_chart 53 = .ok (.iload 7, 2) := by decide +kernel
theorem dX10_chart_55 : decode cX10_chart 55 = .ok (.ifCond .eq 10, 3) := by decide +kernel
theorem dX10_chart_58 : decode cX10_chart 58 = .ok (.aload_n 0, 1) := by decide +kernel
theorem dX10_chart_59 : decode cX10_chart 59 = .ok (.iload 7, 2) := by decide +kernel
theorem dX10_chart_61 : decode cX10_chart 61 = .ok (.invokevirtual 105, 3) := by decide +kernel
theorem dX10_chart_64 : decode cX10_chart 64 = .ok (.ireturn, 1) := by decide +kernel
theorem dX10_chart_65 : decode cX10_chart 65 = .ok (.aload 6, 2) := by decide +kernel
theorem dX10_chart_67 : decode cX10_chart 67 = .ok (.sipush 1000, 3) := by decide +kernel
theorem dX10_chart_70 : decode cX10_chart 70 = .ok (.iload_n 3, 1) := by decide +kernel
theorem dX10_chart_71 : decode cX10_chart 71 = .ok (.iload 4, 2) := by decide +kernel
theorem dX10_chart_73 : decode cX10_chart 73 = .ok (.invokevirtual 108, 3) := by decide +kernel
theorem dX10_chart_76 : decode cX10_chart 76 = .ok (.ifCond .eq 6, 3) := by decide +kernel
theorem dX10_chart_79 : decode cX10_chart 79 = .ok (.bipush (-2), 2) := by decide +kernel
theorem dX10_chart_81 : decode cX10_chart 81 = .ok (.ireturn, 1) := by decide +kernel
theorem dX10_chart_82 : decode cX10_chart 82 = .ok (.aload_n 0, 1) := by decide +kernel
theorem dX10_chart_83 : decode cX10_chart 83 = .ok (.getfield 12, 3) := by decide +kernel
theorem dX10_chart_86 : decode cX10_chart 86 = .ok (.invokevirtual 68, 3) := by decide +kernel
theorem dX10_chart_89 : decode cX10_chart 89 = .ok (.iconst 0, 1) := by decide +kernel
theorem dX10_chart_90 : decode cX10_chart 90 = .ok (.istore 8, 2) := by decide +kernel
theorem dX10_chart_92 : decode cX10_chart 92 = .ok (.iload 8, 2) := by decide +kernel
theorem dX10_chart_94 : decode cX10_chart 94 = .ok (.iload 4, 2) := by decide +kernel
theorem dX10_chart_96 : decode cX10_chart 96 = .ok (.if_icmp .ge 42, 3) := by decide +kernel
theorem dX10_chart_99 : decode cX10_chart 99 = .ok (.aload 6, 2) := by decide +kernel
theorem dX10_chart_101 : decode cX10_chart 101 = .ok (.getfield 111, 3) := by decide +kernel
theorem dX10_chart_104 : decode cX10_chart 104 = .ok (.iload_n 3, 1) := by decide +kernel
theorem dX10_chart_105 : decode cX10_chart 105 = .ok (.iload 8, 2) := by decide +kernel
theorem dX10_chart_107 : decode cX10_chart 107 = .ok (.iadd, 1) := by decide +kernel
theorem dX10_chart_108 : decode cX10_chart 108 = .ok (.iaload, 1) := by decide +kernel
theorem dX10_chart_109 : decode cX10_chart 109 = .ok (.istore 9, 2) := by decide +kernel
theorem dX10_chart_111 : decode cX10_chart 111 = .ok (.iload 9, 2) := by decide +kernel
theorem dX10_chart_113 : decode cX10_chart 113 = .ok (.ifCond .lt 19, 3) := by decide +kernel
theorem dX10_chart_116 : decode cX10_chart 116 = .ok (.aload_n 0, 1) := by decide +kernel
theorem dX10_chart_117 : decode cX10_chart 117 = .ok (.getfield 12, 3) := by decide +kernel
theorem dX10_chart_120 : decode cX10_chart 120 = .ok (.iload 5, 2) := by decide +kernel
theorem dX10_chart_122 : decode cX10_chart 122 = .ok (.iload 8, 2) := by decide +kernel
theorem dX10_chart_124 : decode cX10_chart 124 = .ok (.iadd, 1) := by decide +kernel
theorem dX10_chart_125 : decode cX10_chart 125 = .ok (.iload 9, 2) := by decide +kernel
theorem dX10_chart_127 : decode cX10_chart 127 = .ok (.iload 9, 2) := by decide +kernel
theorem dX10_chart_129 : decode cX10_chart 129 = .ok (.invokevirtual 75, 3) := by decide +kernel
theorem dX10_chart_132 : decode cX10_chart 132 = .ok (.iinc 8 1, 3) := by decide +kernel
theorem dX10_chart_135 : decode cX10_chart 135 = .ok (.goto (-43), 3) := by decide +kernel
theorem dX10_chart_138 : decode cX10_chart 138 = .ok (.aload_n 0, 1) := by decide +kernel
theorem dX10_chart_139 : decode cX10_chart 139 = .ok (.getfield 12, 3) := by decide +kernel
theorem dX10_chart_142 : decode cX10_chart 142 = .ok (.aload_n 0, 1) := by decide +kernel
theorem dX10_chart_143 : decode cX10_chart 143 = .ok (.getfield 12, 3) := by decide +kernel
theorem dX10_chart_146 : decode cX10_chart 146 = .ok (.getfield 79, 3) := by decide +kernel
theorem dX10_chart_149 : decode cX10_chart 149 = .ok (.invokevirtual 82, 3) := by decide +kernel
theorem dX10_chart_152 : decode cX10_chart 152 = .ok (.ireturn, 1) := by decide +kernel
set_option maxRecDepth 20000 in
theorem ggX10_chartFault_X7_faultAs : GoodIn wsX10_chartFault wsX7_faultAs := goodIn_r _ [5, 6, 7, 8, 9, 4, 10, 16, 17, 18] (by decide +kernel) (by decide +kernel)
set_option maxRecDepth 20000 in
theorem gX10_chartFault_X7_faultAs : GoodIn wsX10_chartFault (wsV RX10 114 RX7 yX7_faultAs wsX7_faultAs) := goodIn_app (goodIn_of _ (by decide +kernel)) ggX10_chartFault_X7_faultAs
set_option maxRecDepth 20000 in
theorem ggX10_chartFault_X7_holds : GoodIn wsX10_chartFault wsX7_holds := goodIn_r _ [14, 15, 16, 17, 18] (by decide +kernel) (by decide +kernel)
set_option maxRecDepth 20000 in
theorem gX10_chartFault_X7_holds : GoodIn wsX10_chartFault (wsV RX10 117 RX7 yX7_holds wsX7_holds) := goodIn_app (goodIn_of _ (by decide +kernel)) ggX10_chartFault_X7_holds
theorem dX10_chartFault_0 : decode cX10_chartFault 0 = .ok (.aload_n 0, 1) := by decide +kernel
theorem dX10_chartFault_1 : decode cX10_chartFault 1 = .ok (.iload_n 1, 1) := by decide +kernel
theorem dX10_chartFault_2 : decode cX10_chartFault 2 = .ok (.invokevirtual 114, 3) := by decide +kernel
theorem dX10_chartFault_5 : decode cX10_chartFault 5 = .ok (.istore 5, 2) := by decide +kernel
theorem dX10_chartFault_7 : decode cX10_chartFault 7 = .ok (.iload 5, 2) := by decide +kernel
theorem dX10_chartFault_9 : decode cX10_chartFault 9 = .ok (.ifCond .eq 6, 3) := by decide +kernel
theorem dX10_chartFault_12 : decode cX10_chartFault 12 = .ok (.iload 5, 2) := by decide +kernel
theorem dX10_chartFault_14 : decode cX10_chartFault 14 = .ok (.ireturn, 1) := by decide +kernel
theorem dX10_chartFault_15 : decode cX10_chartFault 15 = .ok (.iload_n 3, 1) := by decide +kernel
theorem dX10_chartFault_16 : decode cX10_chartFault 16 = .ok (.ifCond .ge 5, 3) := by decide +kernel
theorem dX10_chartFault_19 : decode cX10_chartFault 19 = .ok (.iconst 4, 1) := by decide +kernel
theorem dX10_chartFault_20 : decode cX10_chartFault 20 = .ok (.ireturn, 1) := by decide +kernel
theorem dX10_chartFault_21 : decode cX10_chartFault 21 = .ok (.iload_n 3, 1) := by decide +kernel
theorem dX10_chartFault_22 : decode cX10_chartFault 22 = .ok (.ifCond .le 14, 3) := by decide +kernel
theorem dX10_chartFault_25 : decode cX10_chartFault 25 = .ok (.aload_n 0, 1) := by decide +kernel
theorem dX10_chartFault_26 : decode cX10_chartFault 26 = .ok (.iload_n 2, 1) := by decide +kernel
theorem dX10_chartFault_27 : decode cX10_chartFault 27 = .ok (.iload_n 3, 1) := by decide +kernel
theorem dX10_chartFault_28 : decode cX10_chartFault 28 = .ok (.invokevirtual 117, 3) := by decide +kernel
theorem dX10_chartFault_31 : decode cX10_chartFault 31 = .ok (.ifCond .ne 5, 3) := by decide +kernel
theorem dX10_chartFault_34 : decode cX10_chartFault 34 = .ok (.iconst 3, 1) := by decide +kernel
theorem dX10_chartFault_35 : decode cX10_chartFault 35 = .ok (.ireturn, 1) := by decide +kernel
theorem dX10_chartFault_36 : decode cX10_chartFault 36 = .ok (.iload_n 3, 1) := by decide +kernel
theorem dX10_chartFault_37 : decode cX10_chartFault 37 = .ok (.bipush 48, 2) := by decide +kernel
theorem dX10_chartFault_39 : decode cX10_chartFault 39 = .ok (.iload 4, 2) := by decide +kernel
theorem dX10_chartFault_41 : decode cX10_chartFault 41 = .ok (.isub, 1) := by decide +kernel
theorem dX10_chartFault_42 : decode cX10_chartFault 42 = .ok (.if_icmp .le 7, 3) := by decide +kernel
theorem dX10_chartFault_45 : decode cX10_chartFault 45 = .ok (.iconst 3, 1) := by decide +kernel
theorem dX10_chartFault_46 : decode cX10_chartFault 46 = .ok (.goto 4, 3) := by decide +kernel
theorem dX10_chartFault_49 : decode cX10_chartFault 49 = .ok (.iconst 0, 1) := by decide +kernel
theorem dX10_chartFault_50 : decode cX10_chartFault 50 = .ok (.ireturn, 1) := by decide +kernel
set_option maxRecDepth 20000 in
theorem ggX10_pitch_X3_hasSquare : GoodIn wsX10_pitch wsX3_hasSquare := goodIn_r _ [9, 10, 11, 12] (by decide +kernel) (by decide +kernel)
set_option maxRecDepth 20000 in
theorem gX10_pitch_X3_hasSquare : GoodIn wsX10_pitch (va_wsS RX10 60 yX3_hasSquare wsX3_hasSquare) := goodIn_app (goodIn_of _ (by decide +kernel)) ggX10_pitch_X3_hasSquare
set_option maxRecDepth 20000 in
theorem ggX10_pitch_X10_isWithin : GoodIn wsX10_pitch wsX10_isWithin := goodIn_r _ [12] (by decide +kernel) (by decide +kernel)
set_option maxRecDepth 20000 in
theorem gX10_pitch_X10_isWithin : GoodIn wsX10_pitch (va_wsS RX10 64 yX10_isWithin wsX10_isWithin) := goodIn_app (goodIn_of _ (by decide +kernel)) ggX10_pitch_X10_isWithin
set_option maxRecDepth 20000 in
theorem ggX10_pitch_X10_isAnyPitched : GoodIn wsX10_pitch wsX10_isAnyPitched := goodIn_r _ [17, 1, 2, 18, 19, 20, 5, 21, 22, 23, 24, 25, 34, 35, 36, 37, 38, 39, 40, 41, 42, 43, 44, 45, 46, 47, 48, 49, 50, 51, 52, 53, 54] (by decide +kernel) (by decide +kernel)
set_option maxRecDepth 20000 in
theorem gX10_pitch_X10_isAnyPitched : GoodIn wsX10_pitch (wsV RX10 120 RX10 yX10_isAnyPitched wsX10_isAnyPitched) := goodIn_app (goodIn_of _ (by decide +kernel)) ggX10_pitch_X10_isAnyPitched
set_option maxRecDepth 20000 in
theorem ggX10_pitch_X6_init : GoodIn wsX10_pitch wsX6_init := goodIn_r _ [28, 29, 30, 31, 32, 22, 24, 23, 25, 33, 47, 48, 49, 50, 51, 52, 53, 54] (by decide +kernel) (by decide +kernel)
set_option maxRecDepth 20000 in
theorem gX10_pitch_X6_init : GoodIn wsX10_pitch (wsX6_init) := ggX10_pitch_X6_init
theorem dX10_pitch_0 : decode cX10_pitch 0 = .ok (.iload_n 1, 1) := by decide +kernel
theorem dX10_pitch_1 : decode cX10_pitch 1 = .ok (.iload_n 2, 1) := by decide +kernel
theorem dX10_pitch_2 : decode cX10_pitch 2 = .ok (.invokestatic 60, 3) := by decide +kernel
theorem dX10_pitch_5 : decode cX10_pitch 5 = .ok (.ifCond .eq 12, 3) := by decide +kernel
theorem dX10_pitch_8 : decode cX10_pitch 8 = .ok (.iload_n 3, 1) := by decide +kernel
theorem dX10_pitch_9 : decode cX10_pitch 9 = .ok (.iload 4, 2) := by decide +kernel
theorem dX10_pitch_11 : decode cX10_pitch 11 = .ok (.invokestatic 60, 3) := by decide +kernel
theorem dX10_pitch_14 : decode cX10_pitch 14 = .ok (.ifCond .ne 5, 3) := by decide +kernel
theorem dX10_pitch_17 : decode cX10_pitch 17 = .ok (.iconst (-1), 1) := by decide +kernel
theorem dX10_pitch_18 : decode cX10_pitch 18 = .ok (.ireturn, 1) := by decide +kernel
theorem dX10_pitch_19 : decode cX10_pitch 19 = .ok (.iload_n 1, 1) := by decide +kernel
theorem dX10_pitch_20 : decode cX10_pitch 20 = .ok (.iload_n 3, 1) := by decide +kernel
theorem dX10_pitch_21 : decode cX10_pitch 21 = .ok (.if_icmp .gt 20, 3) := by decide +kernel
theorem dX10_pitch_24 : decode cX10_pitch 24 = .ok (.iload_n 2, 1) := by decide +kernel
theorem dX10_pitch_25 : decode cX10_pitch 25 = .ok (.iload 4, 2) := by decide +kernel
theorem dX10_pitch_27 : decode cX10_pitch 27 = .ok (.if_icmp .gt 14, 3) := by decide +kernel
theorem dX10_pitch_30 : decode cX10_pitch 30 = .ok (.iload 5, 2) := by decide +kernel
theorem dX10_pitch_32 : decode cX10_pitch 32 = .ok (.iconst 1, 1) := by decide +kernel
theorem dX10_pitch_33 : decode cX10_pitch 33 = .ok (.bipush 100, 2) := by decide +kernel
theorem dX10_pitch_35 : decode cX10_pitch 35 = .ok (.invokestatic 64, 3) := by decide +kernel
theorem dX10_pitch_38 : decode cX10_pitch 38 = .ok (.ifCond .ne 6, 3) := by decide +kernel
theorem dX10_pitch_41 : decode cX10_pitch 41 = .ok (.bipush (-2), 2) := by decide +kernel
theorem dX10_pitch_43 : decode cX10_pitch 43 = .ok (.ireturn, 1) := by decide +kernel
theorem dX10_pitch_44 : decode cX10_pitch 44 = .ok (.aload_n 0, 1) := by decide +kernel
theorem dX10_pitch_45 : decode cX10_pitch 45 = .ok (.iload_n 1, 1) := by decide +kernel
theorem dX10_pitch_46 : decode cX10_pitch 46 = .ok (.iload_n 2, 1) := by decide +kernel
theorem dX10_pitch_47 : decode cX10_pitch 47 = .ok (.iload_n 3, 1) := by decide +kernel
theorem dX10_pitch_48 : decode cX10_pitch 48 = .ok (.iload 4, 2) := by decide +kernel
theorem dX10_pitch_50 : decode cX10_pitch 50 = .ok (.invokevirtual 120, 3) := by decide +kernel
theorem dX10_pitch_53 : decode cX10_pitch 53 = .ok (.ifCond .eq 6, 3) := by decide +kernel
theorem dX10_pitch_56 : decode cX10_pitch 56 = .ok (.bipush (-3), 2) := by decide +kernel
theorem dX10_pitch_58 : decode cX10_pitch 58 = .ok (.ireturn, 1) := by decide +kernel
theorem dX10_pitch_59 : decode cX10_pitch 59 = .ok (.aload_n 0, 1) := by decide +kernel
theorem dX10_pitch_60 : decode cX10_pitch 60 = .ok (.getfield 124, 3) := by decide +kernel
theorem dX10_pitch_63 : decode cX10_pitch 63 = .ok (.bipush 12, 2) := by decide +kernel
theorem dX10_pitch_65 : decode cX10_pitch 65 = .ok (.if_icmp .lt 6, 3) := by decide +kernel
theorem dX10_pitch_68 : decode cX10_pitch 68 = .ok (.bipush (-4), 2) := by decide +kernel
theorem dX10_pitch_70 : decode cX10_pitch 70 = .ok (.ireturn, 1) := by decide +kernel
theorem dX10_pitch_71 : decode cX10_pitch 71 = .ok (.aload_n 0, 1) := by decide +kernel
theorem dX10_pitch_72 : decode cX10_pitch 72 = .ok (.getfield 20, 3) := by decide +kernel
theorem dX10_pitch_75 : decode cX10_pitch 75 = .ok (.aload_n 0, 1) := by decide +kernel
theorem dX10_pitch_76 : decode cX10_pitch 76 = .ok (.getfield 124, 3) := by decide +kernel
theorem dX10_pitch_79 : decode cX10_pitch 79 = .ok (.new 18, 3) := by decide +kernel
theorem dX10_pitch_82 : decode cX10_pitch 82 = .ok (.dup, 1) := by decide +kernel
theorem dX10_pitch_83 : decode cX10_pitch 83 = .ok (.aload_n 0, 1) := by decide +kernel
theorem dX10_pitch_84 : decode cX10_pitch 84 = .ok (.getfield 124, 3) := by decide +kernel
theorem dX10_pitch_87 : decode cX10_pitch 87 = .ok (.iload_n 1, 1) := by decide +kernel
theorem dX10_pitch_88 : decode cX10_pitch 88 = .ok (.iload_n 2, 1) := by decide +kernel
theorem dX10_pitch_89 : decode cX10_pitch 89 = .ok (.iload_n 3, 1) := by decide +kernel
theorem dX10_pitch_90 : decode cX10_pitch 90 = .ok (.iload 4, 2) := by decide +kernel
theorem dX10_pitch_92 : decode cX10_pitch 92 = .ok (.iload 5, 2) := by decide +kernel
theorem dX10_pitch_94 : decode cX10_pitch 94 = .ok (.invokespecial 127, 3) := by decide +kernel
theorem dX10_pitch_97 : decode cX10_pitch 97 = .ok (.aastore, 1) := by decide +kernel
theorem dX10_pitch_98 : decode cX10_pitch 98 = .ok (.aload_n 0, 1) := by decide +kernel
theorem dX10_pitch_99 : decode cX10_pitch 99 = .ok (.dup, 1) := by decide +kernel
theorem dX10_pitch_100 : decode cX10_pitch 100 = .ok (.getfield 124, 3) := by decide +kernel
theorem dX10_pitch_103 : decode cX10_pitch 103 = .ok (.dup_x1, 1) := by decide +kernel
theorem dX10_pitch_104 : decode cX10_pitch 104 = .ok (.iconst 1, 1) := by decide +kernel
theorem dX10_pitch_105 : decode cX10_pitch 105 = .ok (.iadd, 1) := by decide +kernel
theorem dX10_pitch_106 : decode cX10_pitch 106 = .ok (.putfield 124, 3) := by decide +kernel
theorem dX10_pitch_109 : decode cX10_pitch 109 = .ok (.ireturn, 1) := by decide +kernel
set_option maxRecDepth 20000 in
theorem ggX10_isAnyPitched_X6_meets : GoodIn wsX10_isAnyPitched wsX6_meets := goodIn_r _ [7, 8, 9, 10, 11, 25, 26, 27, 28, 29, 30, 31, 32] (by decide +kernel) (by decide +kernel)
set_option maxRecDepth 20000 in
theorem gX10_isAnyPitched_X6_meets : GoodIn wsX10_isAnyPitched (wsV RX10 130 RX6 yX6_meets wsX6_meets) := goodIn_app (goodIn_of _ (by decide +kernel)) ggX10_isAnyPitched_X6_meets
theorem dX10_isAnyPitched_0 : decode cX10_isAnyPitched 0 = .ok (.iconst 0, 1) := by decide +kernel
theorem dX10_isAnyPitched_1 : decode cX10_isAnyPitched 1 = .ok (.istore 5, 2) := by decide +kernel
theorem dX10_isAnyPitched_3 : decode cX10_isAnyPitched 3 = .ok (.iload 5, 2) := by decide +kernel
theorem dX10_isAnyPitched_5 : decode cX10_isAnyPitched 5 = .ok (.aload_n 0, 1) := by decide +kernel
theorem dX10_isAnyPitched_6 : decode cX10_isAnyPitched 6 = .ok (.getfield 124, 3) := by decide +kernel
theorem dX10_isAnyPitched_9 : decode cX10_isAnyPitched 9 = .ok (.if_icmp .ge 29, 3) := by decide +kernel
theorem dX10_isAnyPitched_12 : decode cX10_isAnyPitched 12 = .ok (.aload_n 0, 1) := by decide +kernel
theorem dX10_isAnyPitched_13 : decode cX10_isAnyPitched 13 = .ok (.getfield 20, 3) := by decide +kernel
theorem dX10_isAnyPitched_16 : decode cX10_isAnyPitched 16 = .ok (.iload 5, 2) := by decide +kernel
theorem dX10_isAnyPitched_18 : decode cX10_isAnyPitched 18 = .ok (.aaload, 1) := by decide +kernel
theorem dX10_isAnyPitched_19 : decode cX10_isAnyPitched 19 = .ok (.iload_n 1, 1) := by decide +kernel
theorem dX10_isAnyPitched_20 : decode cX10_isAnyPitched 20 = .ok (.iload_n 2, 1) := by decide +kernel
theorem dX10_isAnyPitched_21 : decode cX10_isAnyPitched 21 = .ok (.iload_n 3, 1) := by decide +kernel
theorem dX10_isAnyPitched_22 : decode cX10_isAnyPitched 22 = .ok (.iload 4, 2) := by decide +kernel
theorem dX10_isAnyPitched_24 : decode cX10_isAnyPitched 24 = .ok (.invokevirtual 130, 3) := by decide +kernel
theorem dX10_isAnyPitched_27 : decode cX10_isAnyPitched 27 = .ok (.ifCond .eq 5, 3) := by decide +kernel
theorem dX10_isAnyPitched_30 : decode cX10_isAnyPitched 30 = .ok (.iconst 1, 1) := by decide +kernel
theorem dX10_isAnyPitched_31 : decode cX10_isAnyPitched 31 = .ok (.ireturn, 1) := by decide +kernel
theorem dX10_isAnyPitched_32 : decode cX10_isAnyPitched 32 = .ok (.iinc 5 1, 3) := by decide +kernel
theorem dX10_isAnyPitched_35 : decode cX10_isAnyPitched 35 = .ok (.goto (-32), 3) := by decide +kernel
theorem dX10_isAnyPitched_38 : decode cX10_isAnyPitched 38 = .ok (.iconst 0, 1) := by decide +kernel
theorem dX10_isAnyPitched_39 : decode cX10_isAnyPitched 39 = .ok (.ireturn, 1) := by decide +kernel
set_option maxRecDepth 20000 in
theorem ggX10_foretold_X10_pitchAt : GoodIn wsX10_foretold wsX10_pitchAt := goodIn_r _ [9, 10, 11, 12, 13, 8, 14, 29, 30, 31, 32, 33, 34, 35, 36, 37, 38, 39, 40, 41] (by decide +kernel) (by decide +kernel)
set_option maxRecDepth 20000 in
theorem gX10_foretold_X10_pitchAt : GoodIn wsX10_foretold (wsV RX10 133 RX10 yX10_pitchAt wsX10_pitchAt) := goodIn_app (goodIn_of _ (by decide +kernel)) ggX10_foretold_X10_pitchAt
set_option maxRecDepth 20000 in
theorem ggX10_foretold_X10_isWithin : GoodIn wsX10_foretold wsX10_isWithin := goodIn_r _ [14] (by decide +kernel) (by decide +kernel)
set_option maxRecDepth 20000 in
theorem gX10_foretold_X10_isWithin : GoodIn wsX10_foretold (va_wsS RX10 64 yX10_isWithin wsX10_isWithin) := goodIn_app (goodIn_of _ (by decide +kernel)) ggX10_foretold_X10_isWithin
set_option maxRecDepth 20000 in
theorem ggX10_foretold_X6_foretoldBy : GoodIn wsX10_foretold wsX6_foretoldBy := goodIn_r _ [19, 20, 21, 22, 23, 24, 25, 26, 27, 28, 47, 48, 49, 50, 51, 52, 53, 54] (by decide +kernel) (by decide +kernel)
set_option maxRecDepth 20000 in
theorem gX10_foretold_X6_foretoldBy : GoodIn wsX10_foretold (wsV RX10 139 RX6 yX6_foretoldBy wsX6_foretoldBy) := goodIn_app (goodIn_of _ (by decide +kernel)) ggX10_foretold_X6_foretoldBy
theorem dX10_foretold_0 : decode cX10_foretold 0 = .ok (.aload_n 0, 1) := by decide +kernel
theorem dX10_foretold_1 : decode cX10_foretold 1 = .ok (.iload_n 1, 1) := by decide +kernel
theorem dX10_foretold_2 : decode cX10_foretold 2 = .ok (.invokevirtual 133, 3) := by decide +kernel
theorem dX10_foretold_5 : decode cX10_foretold 5 = .ok (.astore_n 3, 1) := by decide +kernel
theorem dX10_foretold_6 : decode cX10_foretold 6 = .ok (.aload_n 3, 1) := by decide +kernel
theorem dX10_foretold_7 : decode cX10_foretold 7 = .ok (.ifnull 12, 3) := by decide +kernel
theorem dX10_foretold_10 : decode cX10_foretold 10 = .ok (.iload_n 2, 1) := by decide +kernel
theorem dX10_foretold_11 : decode cX10_foretold 11 = .ok (.iconst 0, 1) := by decide +kernel
theorem dX10_foretold_12 : decode cX10_foretold 12 = .ok (.iconst 1, 1) := by decide +kernel
theorem dX10_foretold_13 : decode cX10_foretold 13 = .ok (.invokestatic 64, 3) := by decide +kernel
theorem dX10_foretold_16 : decode cX10_foretold 16 = .ok (.ifCond .ne 7, 3) := by decide +kernel
theorem dX10_foretold_19 : decode cX10_foretold 19 = .ok (.ldc2_w 137, 3) := by decide +kernel
theorem dX10_foretold_22 : decode cX10_foretold 22 = .ok (.lreturn, 1) := by decide +kernel
theorem dX10_foretold_23 : decode cX10_foretold 23 = .ok (.iload_n 2, 1) := by decide +kernel
theorem dX10_foretold_24 : decode cX10_foretold 24 = .ok (.ifCond .ne 17, 3) := by decide +kernel
theorem dX10_foretold_27 : decode cX10_foretold 27 = .ok (.aload_n 3, 1) := by decide +kernel
theorem dX10_foretold_28 : decode cX10_foretold 28 = .ok (.aload_n 0, 1) := by decide +kernel
theorem dX10_foretold_29 : decode cX10_foretold 29 = .ok (.getfield 12, 3) := by decide +kernel
theorem dX10_foretold_32 : decode cX10_foretold 32 = .ok (.getfield 86, 3) := by decide +kernel
theorem dX10_foretold_35 : decode cX10_foretold 35 = .ok (.invokevirtual 139, 3) := by decide +kernel
theorem dX10_foretold_38 : decode cX10_foretold 38 = .ok (.goto 14, 3) := by decide +kernel
theorem dX10_foretold_41 : decode cX10_foretold 41 = .ok (.aload_n 3, 1) := by decide +kernel
theorem dX10_foretold_42 : decode cX10_foretold 42 = .ok (.aload_n 0, 1) := by decide +kernel
theorem dX10_foretold_43 : decode cX10_foretold 43 = .ok (.getfield 12, 3) := by decide +kernel
theorem dX10_foretold_46 : decode cX10_foretold 46 = .ok (.getfield 90, 3) := by decide +kernel
theorem dX10_foretold_49 : decode cX10_foretold 49 = .ok (.invokevirtual 139, 3) := by decide +kernel
theorem dX10_foretold_52 : decode cX10_foretold 52 = .ok (.lreturn, 1) := by decide +kernel
set_option maxRecDepth 20000 in
theorem ggX10_gang_X10_isWithin : GoodIn wsX10_gang wsX10_isWithin := goodIn_r _ [6] (by decide +kernel) (by decide +kernel)
set_option maxRecDepth 20000 in
theorem gX10_gang_X10_isWithin : GoodIn wsX10_gang (va_wsS RX10 64 yX10_isWithin wsX10_isWithin) := goodIn_app (goodIn_of _ (by decide +kernel)) ggX10_gang_X10_isWithin
set_option maxRecDepth 20000 in
theorem ggX10_gang_X10_newGang : GoodIn wsX10_gang wsX10_newGang := goodIn_r _ [9, 10, 11, 12, 13, 14, 15, 16, 17, 18, 19, 20, 21, 22, 23, 24, 25, 26, 27, 28, 29, 30, 31, 32, 33, 47, 48, 49, 50, 51, 52, 53, 54, 55, 56, 57, 58] (by decide +kernel) (by decide +kernel)
set_option maxRecDepth 20000 in
theorem gX10_gang_X10_newGang : GoodIn wsX10_gang (va_wsS RX10 146 yX10_newGang wsX10_newGang) := goodIn_app (goodIn_of _ (by decide +kernel)) ggX10_gang_X10_newGang
theorem dX10_gang_0 : decode cX10_gang 0 = .ok (.iload_n 1, 1) := by decide +kernel
theorem dX10_gang_1 : decode cX10_gang 1 = .ok (.iconst 0, 1) := by decide +kernel
theorem dX10_gang_2 : decode cX10_gang 2 = .ok (.iconst 2, 1) := by decide +kernel
theorem dX10_gang_3 : decode cX10_gang 3 = .ok (.invokestatic 64, 3) := by decide +kernel
theorem dX10_gang_6 : decode cX10_gang 6 = .ok (.ifCond .ne 6, 3) := by decide +kernel
theorem dX10_gang_9 : decode cX10_gang 9 = .ok (.bipush (-2), 2) := by decide +kernel
theorem dX10_gang_11 : decode cX10_gang 11 = .ok (.ireturn, 1) := by decide +kernel
theorem dX10_gang_12 : decode cX10_gang 12 = .ok (.aload_n 0, 1) := by decide +kernel
theorem dX10_gang_13 : decode cX10_gang 13 = .ok (.getfield 143, 3) := by decide +kernel
theorem dX10_gang_16 : decode cX10_gang 16 = .ok (.bipush 8, 2) := by decide +kernel
theorem dX10_gang_18 : decode cX10_gang 18 = .ok (.if_icmp .lt 6, 3) := by decide +kernel
theorem dX10_gang_21 : decode cX10_gang 21 = .ok (.bipush (-4), 2) := by decide +kernel
theorem dX10_gang_23 : decode cX10_gang 23 = .ok (.ireturn, 1) := by decide +kernel
theorem dX10_gang_24 : decode cX10_gang 24 = .ok (.aload_n 0, 1) := by decide +kernel
theorem dX10_gang_25 : decode cX10_gang 25 = .ok (.getfield 26, 3) := by decide +kernel
theorem dX10_gang_28 : decode cX10_gang 28 = .ok (.aload_n 0, 1) := by decide +kernel
theorem dX10_gang_29 : decode cX10_gang 29 = .ok (.getfield 143, 3) := by decide +kernel
theorem dX10_gang_32 : decode cX10_gang 32 = .ok (.iload_n 1, 1) := by decide +kernel
theorem dX10_gang_33 : decode cX10_gang 33 = .ok (.aload_n 0, 1) := by decide +kernel
theorem dX10_gang_34 : decode cX10_gang 34 = .ok (.getfield 143, 3) := by decide +kernel
theorem dX10_gang_37 : decode cX10_gang 37 = .ok (.invokestatic 146, 3) := by decide +kernel
theorem dX10_gang_40 : decode cX10_gang 40 = .ok (.aastore, 1) := by decide +kernel
theorem dX10_gang_41 : decode cX10_gang 41 = .ok (.aload_n 0, 1) := by decide +kernel
theorem dX10_gang_42 : decode cX10_gang 42 = .ok (.dup, 1) := by decide +kernel
theorem dX10_gang_43 : decode cX10_gang 43 = .ok (.getfield 143, 3) := by decide +kernel
theorem dX10_gang_46 : decode cX10_gang 46 = .ok (.dup_x1, 1) := by decide +kernel
theorem dX10_gang_47 : decode cX10_gang 47 = .ok (.iconst 1, 1) := by decide +kernel
theorem dX10_gang_48 : decode cX10_gang 48 = .ok (.iadd, 1) := by decide +kernel
theorem dX10_gang_49 : decode cX10_gang 49 = .ok (.putfield 143, 3) := by decide +kernel
theorem dX10_gang_52 : decode cX10_gang 52 = .ok (.ireturn, 1) := by decide +kernel
set_option maxRecDepth 20000 in
theorem ggX10_newGang_X4_init : GoodIn wsX10_newGang wsX4_init := goodIn_r _ [12, 13, 14, 6, 15, 16, 17, 9, 18, 19, 20, 21, 22, 29, 30, 31, 32, 33, 34, 35, 36, 25, 26, 27, 28] (by decide +kernel) (by decide +kernel)
set_option maxRecDepth 20000 in
theorem gX10_newGang_X4_init : GoodIn wsX10_newGang (wsX4_init) := ggX10_newGang_X4_init
set_option maxRecDepth 20000 in
theorem ggX10_newGang_X1_init : GoodIn wsX10_newGang wsX1_init := goodIn_r _ [15, 16, 17, 9, 18, 19, 20, 21, 22, 29, 30, 31, 32, 33, 34, 35, 36, 25, 26, 27, 28] (by decide +kernel) (by decide +kernel)
set_option maxRecDepth 20000 in
theorem gX10_newGang_X1_init : GoodIn wsX10_newGang (wsX1_init) := ggX10_newGang_X1_init
set_option maxRecDepth 20000 in
theorem ggX10_newGang_X2_init : GoodIn wsX10_newGang wsX2_init := goodIn_r _ [18, 19, 20, 21, 22, 29, 30, 31, 32, 33, 34, 35, 36, 25, 26, 27, 28] (by decide +kernel) (by decide +kernel)
set_option maxRecDepth 20000 in
theorem gX10_newGang_X2_init : GoodIn wsX10_newGang (wsX2_init) := ggX10_newGang_X2_init
theorem dX10_newGang_0 : decode cX10_newGang 0 = .ok (.iload_n 0, 1) := by decide +kernel
theorem dX10_newGang_1 : decode cX10_newGang 1 = .ok (.lookupswitch 45 #[(1, 36), (2, 27)], 27) := by decide +kernel
theorem dX10_newGang_28 : decode cX10_newGang 28 = .ok (.new 150, 3) := by decide +kernel
theorem dX10_newGang_31 : decode cX10_newGang 31 = .ok (.dup, 1) := by decide +kernel
theorem dX10_newGang_32 : decode cX10_newGang 32 = .ok (.iload_n 1, 1) := by decide +kernel
theorem dX10_newGang_33 : decode cX10_newGang 33 = .ok (.invokespecial 152, 3) := by decide +kernel
theorem dX10_newGang_36 : decode cX10_newGang 36 = .ok (.areturn, 1) := by decide +kernel
theorem dX10_newGang_37 : decode cX10_newGang 37 = .ok (.new 155, 3) := by decide +kernel
theorem dX10_newGang_40 : decode cX10_newGang 40 = .ok (.dup, 1) := by decide +kernel
theorem dX10_newGang_41 : decode cX10_newGang 41 = .ok (.iload_n 1, 1) := by decide +kernel
theorem dX10_newGang_42 : decode cX10_newGang 42 = .ok (.invokespecial 157, 3) := by decide +kernel
theorem dX10_newGang_45 : decode cX10_newGang 45 = .ok (.areturn, 1) := by decide +kernel
theorem dX10_newGang_46 : decode cX10_newGang 46 = .ok (.new 24, 3) := by decide +kernel
theorem dX10_newGang_49 : decode cX10_newGang 49 = .ok (.dup, 1) := by decide +kernel
theorem dX10_newGang_50 : decode cX10_newGang 50 = .ok (.iload_n 1, 1) := by decide +kernel
theorem dX10_newGang_51 : decode cX10_newGang 51 = .ok (.invokespecial 158, 3) := by decide +kernel
theorem dX10_newGang_54 : decode cX10_newGang 54 = .ok (.areturn, 1) := by decide +kernel
set_option maxRecDepth 20000 in
theorem ggX10_auction_X10_pitchAt : GoodIn wsX10_auction wsX10_pitchAt := goodIn_r _ [10, 11, 12, 13, 14, 9, 15, 32, 33, 34, 35, 36, 37, 38, 39, 40, 41, 42, 43, 44] (by decide +kernel) (by decide +kernel)
set_option maxRecDepth 20000 in
theorem gX10_auction_X10_pitchAt : GoodIn wsX10_auction (wsV RX10 133 RX10 yX10_pitchAt wsX10_pitchAt) := goodIn_app (goodIn_of _ (by decide +kernel)) ggX10_auction_X10_pitchAt
set_option maxRecDepth 20000 in
theorem ggX10_auction_X10_isWithin : GoodIn wsX10_auction wsX10_isWithin := goodIn_r _ [15] (by decide +kernel) (by decide +kernel)
set_option maxRecDepth 20000 in
theorem gX10_auction_X10_isWithin : GoodIn wsX10_auction (va_wsS RX10 64 yX10_isWithin wsX10_isWithin) := goodIn_app (goodIn_of _ (by decide +kernel)) ggX10_auction_X10_isWithin
set_option maxRecDepth 20000 in
theorem ggX10_auction_X0_init : GoodIn wsX10_auction wsX0_init := goodIn_r _ [18, 19, 20, 21, 22, 23, 45, 46, 47, 48] (by decide +kernel) (by decide +kernel)
set_option maxRecDepth 20000 in
theorem gX10_auction_X0_init : GoodIn wsX10_auction (wsX0_init) := ggX10_auction_X0_init
theorem dX10_auction_0 : decode cX10_auction 0 = .ok (.aload_n 0, 1) := by decide +kernel
theorem dX10_auction_1 : decode cX10_auction 1 = .ok (.iload_n 1, 1) := by decide +kernel
theorem dX10_auction_2 : decode cX10_auction 2 = .ok (.invokevirtual 133, 3) := by decide +kernel
theorem dX10_auction_5 : decode cX10_auction 5 = .ok (.astore_n 3, 1) := by decide +kernel
theorem dX10_auction_6 : decode cX10_auction 6 = .ok (.aload_n 3, 1) := by decide +kernel
theorem dX10_auction_7 : decode cX10_auction 7 = .ok (.ifnonnull 5, 3) := by decide +kernel
theorem dX10_auction_10 : decode cX10_auction 10 = .ok (.iconst (-1), 1) := by decide +kernel
theorem dX10_auction_11 : decode cX10_auction 11 = .ok (.ireturn, 1) := by decide +kernel
theorem dX10_auction_12 : decode cX10_auction 12 = .ok (.iload_n 2, 1) := by decide +kernel
theorem dX10_auction_13 : decode cX10_auction 13 = .ok (.iconst 1, 1) := by decide +kernel
theorem dX10_auction_14 : decode cX10_auction 14 = .ok (.sipush 240, 3) := by decide +kernel
theorem dX10_auction_17 : decode cX10_auction 17 = .ok (.invokestatic 64, 3) := by decide +kernel
theorem dX10_auction_20 : decode cX10_auction 20 = .ok (.ifCond .ne 6, 3) := by decide +kernel
theorem dX10_auction_23 : decode cX10_auction 23 = .ok (.bipush (-2), 2) := by decide +kernel
theorem dX10_auction_25 : decode cX10_auction 25 = .ok (.ireturn, 1) := by decide +kernel
theorem dX10_auction_26 : decode cX10_auction 26 = .ok (.aload_n 3, 1) := by decide +kernel
theorem dX10_auction_27 : decode cX10_auction 27 = .ok (.getfield 159, 3) := by decide +kernel
theorem dX10_auction_30 : decode cX10_auction 30 = .ok (.ifnonnull 10, 3) := by decide +kernel
theorem dX10_auction_33 : decode cX10_auction 33 = .ok (.aload_n 0, 1) := by decide +kernel
theorem dX10_auction_34 : decode cX10_auction 34 = .ok (.getfield 163, 3) := by decide +kernel
theorem dX10_auction_37 : decode cX10_auction 37 = .ok (.ifnull 6, 3) := by decide +kernel
theorem dX10_auction_40 : decode cX10_auction 40 = .ok (.bipush (-3), 2) := by decide +kernel
theorem dX10_auction_42 : decode cX10_auction 42 = .ok (.ireturn, 1) := by decide +kernel
theorem dX10_auction_43 : decode cX10_auction 43 = .ok (.aload_n 0, 1) := by decide +kernel
theorem dX10_auction_44 : decode cX10_auction 44 = .ok (.new 167, 3) := by decide +kernel
theorem dX10_auction_47 : decode cX10_auction 47 = .ok (.dup, 1) := by decide +kernel
theorem dX10_auction_48 : decode cX10_auction 48 = .ok (.aload_n 3, 1) := by decide +kernel
theorem dX10_auction_49 : decode cX10_auction 49 = .ok (.iload_n 2, 1) := by decide +kernel
theorem dX10_auction_50 : decode cX10_auction 50 = .ok (.invokespecial 169, 3) := by decide +kernel
theorem dX10_auction_53 : decode cX10_auction 53 = .ok (.putfield 163, 3) := by decide +kernel
theorem dX10_auction_56 : decode cX10_auction 56 = .ok (.iconst 1, 1) := by decide +kernel
theorem dX10_auction_57 : decode cX10_auction 57 = .ok (.ireturn, 1) := by decide +kernel
set_option maxRecDepth 20000 in
theorem ggX10_bid_X10_gangAt : GoodIn wsX10_bid wsX10_gangAt := goodIn_r _ [10, 11, 12, 13, 14, 9, 15, 23, 24, 25, 26, 27, 28, 29, 30, 31, 32, 33, 34, 35] (by decide +kernel) (by decide +kernel)
set_option maxRecDepth 20000 in
theorem gX10_bid_X10_gangAt : GoodIn wsX10_bid (wsV RX10 172 RX10 yX10_gangAt wsX10_gangAt) := goodIn_app (goodIn_of _ (by decide +kernel)) ggX10_bid_X10_gangAt
set_option maxRecDepth 20000 in
theorem ggX10_bid_X0_mostShare : GoodIn wsX10_bid wsX0_mostShare := goodIn_r _ [20, 21, 22, 36, 37, 38, 39] (by decide +kernel) (by decide +kernel)
set_option maxRecDepth 20000 in
theorem gX10_bid_X0_mostShare : GoodIn wsX10_bid (wsV RX10 176 RX0 yX0_mostShare wsX0_mostShare) := goodIn_app (goodIn_of _ (by decide +kernel)) ggX10_bid_X0_mostShare
set_option maxRecDepth 20000 in
theorem ggX10_bid_X10_isWithin : GoodIn wsX10_bid wsX10_isWithin := goodIn_r _ [15] (by decide +kernel) (by decide +kernel)
set_option maxRecDepth 20000 in
theorem gX10_bid_X10_isWithin : GoodIn wsX10_bid (va_wsS RX10 64 yX10_isWithin wsX10_isWithin) := goodIn_app (goodIn_of _ (by decide +kernel)) ggX10_bid_X10_isWithin
theorem dX10_bid_0 : decode cX10_bid 0 = .ok (.aload_n 0, 1) := by decide +kernel
theorem dX10_bid_1 : decode cX10_bid 1 = .ok (.iload_n 1, 1) := by decide +kernel
theorem dX10_bid_2 : decode cX10_bid 2 = .ok (.invokevirtual 172, 3) := by decide +kernel
theorem dX10_bid_5 : decode cX10_bid 5 = .ok (.astore_n 3, 1) := by decide +kernel
theorem dX10_bid_6 : decode cX10_bid 6 = .ok (.aload_n 3, 1) := by decide +kernel
theorem dX10_bid_7 : decode cX10_bid 7 = .ok (.ifnonnull 5, 3) := by decide +kernel
theorem dX10_bid_10 : decode cX10_bid 10 = .ok (.iconst (-1), 1) := by decide +kernel
theorem dX10_bid_11 : decode cX10_bid 11 = .ok (.ireturn, 1) := by decide +kernel
theorem dX10_bid_12 : decode cX10_bid 12 = .ok (.aload_n 0, 1) := by decide +kernel
theorem dX10_bid_13 : decode cX10_bid 13 = .ok (.getfield 163, 3) := by decide +kernel
theorem dX10_bid_16 : decode cX10_bid 16 = .ok (.ifnonnull 6, 3) := by decide +kernel
theorem dX10_bid_19 : decode cX10_bid 19 = .ok (.bipush (-3), 2) := by decide +kernel
theorem dX10_bid_21 : decode cX10_bid 21 = .ok (.ireturn, 1) := by decide +kernel
theorem dX10_bid_22 : decode cX10_bid 22 = .ok (.iload_n 2, 1) := by decide +kernel
theorem dX10_bid_23 : decode cX10_bid 23 = .ok (.iconst 1, 1) := by decide +kernel
theorem dX10_bid_24 : decode cX10_bid 24 = .ok (.aload_n 0, 1) := by decide +kernel
theorem dX10_bid_25 : decode cX10_bid 25 = .ok (.getfield 163, 3) := by decide +kernel
theorem dX10_bid_28 : decode cX10_bid 28 = .ok (.invokevirtual 176, 3) := by decide +kernel
theorem dX10_bid_31 : decode cX10_bid 31 = .ok (.invokestatic 64, 3) := by decide +kernel
theorem dX10_bid_34 : decode cX10_bid 34 = .ok (.ifCond .ne 6, 3) := by decide +kernel
theorem dX10_bid_37 : decode cX10_bid 37 = .ok (.bipush (-2), 2) := by decide +kernel
theorem dX10_bid_39 : decode cX10_bid 39 = .ok (.ireturn, 1) := by decide +kernel
theorem dX10_bid_40 : decode cX10_bid 40 = .ok (.aload_n 0, 1) := by decide +kernel
theorem dX10_bid_41 : decode cX10_bid 41 = .ok (.getfield 163, 3) := by decide +kernel
theorem dX10_bid_44 : decode cX10_bid 44 = .ok (.getfield 180, 3) := by decide +kernel
theorem dX10_bid_47 : decode cX10_bid 47 = .ok (.aload_n 3, 1) := by decide +kernel
theorem dX10_bid_48 : decode cX10_bid 48 = .ok (.if_acmp .eq 11, 3) := by decide +kernel
theorem dX10_bid_51 : decode cX10_bid 51 = .ok (.aload_n 3, 1) := by decide +kernel
theorem dX10_bid_52 : decode cX10_bid 52 = .ok (.getfield 184, 3) := by decide +kernel
theorem dX10_bid_55 : decode cX10_bid 55 = .ok (.iconst 3, 1) := by decide +kernel
theorem dX10_bid_56 : decode cX10_bid 56 = .ok (.if_icmp .lt 6, 3) := by decide +kernel
theorem dX10_bid_59 : decode cX10_bid 59 = .ok (.bipush (-3), 2) := by decide +kernel
theorem dX10_bid_61 : decode cX10_bid 61 = .ok (.ireturn, 1) := by decide +kernel
theorem dX10_bid_62 : decode cX10_bid 62 = .ok (.aload_n 0, 1) := by decide +kernel
theorem dX10_bid_63 : decode cX10_bid 63 = .ok (.getfield 163, 3) := by decide +kernel
theorem dX10_bid_66 : decode cX10_bid 66 = .ok (.getfield 187, 3) := by decide +kernel
theorem dX10_bid_69 : decode cX10_bid 69 = .ok (.bipush 20, 2) := by decide +kernel
theorem dX10_bid_71 : decode cX10_bid 71 = .ok (.if_icmp .lt 6, 3) := by decide +kernel
theorem dX10_bid_74 : decode cX10_bid 74 = .ok (.bipush (-4), 2) := by decide +kernel
theorem dX10_bid_76 : decode cX10_bid 76 = .ok (.ireturn, 1) := by decide +kernel
theorem dX10_bid_77 : decode cX10_bid 77 = .ok (.aload_n 0, 1) := by decide +kernel
theorem dX10_bid_78 : decode cX10_bid 78 = .ok (.getfield 163, 3) := by decide +kernel
theorem dX10_bid_81 : decode cX10_bid 81 = .ok (.aload_n 3, 1) := by decide +kernel
theorem dX10_bid_82 : decode cX10_bid 82 = .ok (.putfield 180, 3) := by decide +kernel
theorem dX10_bid_85 : decode cX10_bid 85 = .ok (.aload_n 0, 1) := by decide +kernel
theorem dX10_bid_86 : decode cX10_bid 86 = .ok (.getfield 163, 3) := by decide +kernel
theorem dX10_bid_89 : decode cX10_bid 89 = .ok (.iload_n 2, 1) := by decide +kernel
theorem dX10_bid_90 : decode cX10_bid 90 = .ok (.putfield 190, 3) := by decide +kernel
theorem dX10_bid_93 : decode cX10_bid 93 = .ok (.aload_n 0, 1) := by decide +kernel
theorem dX10_bid_94 : decode cX10_bid 94 = .ok (.getfield 163, 3) := by decide +kernel
theorem dX10_bid_97 : decode cX10_bid 97 = .ok (.dup, 1) := by decide +kernel
theorem dX10_bid_98 : decode cX10_bid 98 = .ok (.getfield 187, 3) := by decide +kernel
theorem dX10_bid_101 : decode cX10_bid 101 = .ok (.iconst 1, 1) := by decide +kernel
theorem dX10_bid_102 : decode cX10_bid 102 = .ok (.iadd, 1) := by decide +kernel
theorem dX10_bid_103 : decode cX10_bid 103 = .ok (.putfield 187, 3) := by decide +kernel
theorem dX10_bid_106 : decode cX10_bid 106 = .ok (.aload_n 0, 1) := by decide +kernel
theorem dX10_bid_107 : decode cX10_bid 107 = .ok (.getfield 163, 3) := by decide +kernel
theorem dX10_bid_110 : decode cX10_bid 110 = .ok (.getfield 187, 3) := by decide +kernel
theorem dX10_bid_113 : decode cX10_bid 113 = .ok (.ireturn, 1) := by decide +kernel
set_option maxRecDepth 20000 in
theorem ggX10_strike_X8_init : GoodIn wsX10_strike wsX8_init := goodIn_r _ [17, 18, 19, 20, 21, 22, 23, 24, 64, 65, 66, 67, 68, 69, 70, 71, 72, 73, 74, 75] (by decide +kernel) (by decide +kernel)
set_option maxRecDepth 20000 in
theorem gX10_strike_X8_init : GoodIn wsX10_strike (wsX8_init) := ggX10_strike_X8_init
set_option maxRecDepth 20000 in
theorem ggX10_strike_X6_foretoldBy : GoodIn wsX10_strike wsX6_foretoldBy := goodIn_r _ [29, 30, 31, 32, 33, 34, 35, 36, 37, 38, 81, 82, 83, 84, 85, 86, 87, 88] (by decide +kernel) (by decide +kernel)
set_option maxRecDepth 20000 in
theorem gX10_strike_X6_foretoldBy : GoodIn wsX10_strike (wsV RX10 139 RX6 yX6_foretoldBy wsX6_foretoldBy) := goodIn_app (goodIn_of _ (by decide +kernel)) ggX10_strike_X6_foretoldBy
set_option maxRecDepth 20000 in
theorem ggX10_strike_X8_begin : GoodIn wsX10_strike wsX8_begin := goodIn_r _ [42, 23, 43, 44, 22, 45, 46, 64, 65, 66, 67, 68, 69, 70, 71, 72, 73, 74, 75, 81, 82, 83, 84, 85, 86, 87, 88, 89, 90, 91, 92, 93, 94, 95, 96, 97, 98, 99, 100] (by decide +kernel) (by decide +kernel)
set_option maxRecDepth 20000 in
theorem gX10_strike_X8_begin : GoodIn wsX10_strike (wsV RX10 210 RX8 yX8_begin wsX8_begin) := goodIn_app (goodIn_of _ (by decide +kernel)) ggX10_strike_X8_begin
theorem dX10_strike_0 : decode cX10_strike 0 = .ok (.aload_n 0, 1) := by decide +kernel
theorem dX10_strike_1 : decode cX10_strike 1 = .ok (.getfield 163, 3) := by decide +kernel
theorem dX10_strike_4 : decode cX10_strike 4 = .ok (.ifnonnull 6, 3) := by decide +kernel
theorem dX10_strike_7 : decode cX10_strike 7 = .ok (.bipush (-3), 2) := by decide +kernel
theorem dX10_strike_9 : decode cX10_strike 9 = .ok (.ireturn, 1) := by decide +kernel
theorem dX10_strike_10 : decode cX10_strike 10 = .ok (.aload_n 0, 1) := by decide +kernel
theorem dX10_strike_11 : decode cX10_strike 11 = .ok (.getfield 163, 3) := by decide +kernel
theorem dX10_strike_14 : decode cX10_strike 14 = .ok (.getfield 193, 3) := by decide +kernel
theorem dX10_strike_17 : decode cX10_strike 17 = .ok (.astore_n 1, 1) := by decide +kernel
theorem dX10_strike_18 : decode cX10_strike 18 = .ok (.aload_n 0, 1) := by decide +kernel
theorem dX10_strike_19 : decode cX10_strike 19 = .ok (.getfield 163, 3) := by decide +kernel
theorem dX10_strike_22 : decode cX10_strike 22 = .ok (.getfield 180, 3) := by decide +kernel
theorem dX10_strike_25 : decode cX10_strike 25 = .ok (.astore_n 2, 1) := by decide +kernel
theorem dX10_strike_26 : decode cX10_strike 26 = .ok (.aload_n 2, 1) := by decide +kernel
theorem dX10_strike_27 : decode cX10_strike 27 = .ok (.ifnonnull 11, 3) := by decide +kernel
theorem dX10_strike_30 : decode cX10_strike 30 = .ok (.aload_n 0, 1) := by decide +kernel
theorem dX10_strike_31 : decode cX10_strike 31 = .ok (.aconst_null, 1) := by decide +kernel
theorem dX10_strike_32 : decode cX10_strike 32 = .ok (.putfield 163, 3) := by decide +kernel
theorem dX10_strike_35 : decode cX10_strike 35 = .ok (.bipush (-9), 2) := by decide +kernel
theorem dX10_strike_37 : decode cX10_strike 37 = .ok (.ireturn, 1) := by decide +kernel
theorem dX10_strike_38 : decode cX10_strike 38 = .ok (.aload_n 0, 1) := by decide +kernel
theorem dX10_strike_39 : decode cX10_strike 39 = .ok (.getfield 197, 3) := by decide +kernel
theorem dX10_strike_42 : decode cX10_strike 42 = .ok (.bipush 40, 2) := by decide +kernel
theorem dX10_strike_44 : decode cX10_strike 44 = .ok (.if_icmp .lt 6, 3) := by decide +kernel
theorem dX10_strike_47 : decode cX10_strike 47 = .ok (.bipush (-4), 2) := by decide +kernel
theorem dX10_strike_49 : decode cX10_strike 49 = .ok (.ireturn, 1) := by decide +kernel
theorem dX10_strike_50 : decode cX10_strike 50 = .ok (.new 30, 3) := by decide +kernel
theorem dX10_strike_53 : decode cX10_strike 53 = .ok (.dup, 1) := by decide +kernel
theorem dX10_strike_54 : decode cX10_strike 54 = .ok (.aload_n 0, 1) := by decide +kernel
theorem dX10_strike_55 : decode cX10_strike 55 = .ok (.getfield 197, 3) := by decide +kernel
theorem dX10_strike_58 : decode cX10_strike 58 = .ok (.aload_n 2, 1) := by decide +kernel
theorem dX10_strike_59 : decode cX10_strike 59 = .ok (.aload_n 1, 1) := by decide +kernel
theorem dX10_strike_60 : decode cX10_strike 60 = .ok (.aload_n 0, 1) := by decide +kernel
theorem dX10_strike_61 : decode cX10_strike 61 = .ok (.getfield 163, 3) := by decide +kernel
theorem dX10_strike_64 : decode cX10_strike 64 = .ok (.getfield 190, 3) := by decide +kernel
theorem dX10_strike_67 : decode cX10_strike 67 = .ok (.invokespecial 200, 3) := by decide +kernel
theorem dX10_strike_70 : decode cX10_strike 70 = .ok (.astore_n 3, 1) := by decide +kernel
theorem dX10_strike_71 : decode cX10_strike 71 = .ok (.aload_n 3, 1) := by decide +kernel
theorem dX10_strike_72 : decode cX10_strike 72 = .ok (.aload_n 1, 1) := by decide +kernel
theorem dX10_strike_73 : decode cX10_strike 73 = .ok (.aload_n 0, 1) := by decide +kernel
theorem dX10_strike_74 : decode cX10_strike 74 = .ok (.getfield 12, 3) := by decide +kernel
theorem dX10_strike_77 : decode cX10_strike 77 = .ok (.getfield 86, 3) := by decide +kernel
theorem dX10_strike_80 : decode cX10_strike 80 = .ok (.invokevirtual 139, 3) := by decide +kernel
theorem dX10_strike_83 : decode cX10_strike 83 = .ok (.putfield 203, 3) := by decide +kernel
theorem dX10_strike_86 : decode cX10_strike 86 = .ok (.aload_n 3, 1) := by decide +kernel
theorem dX10_strike_87 : decode cX10_strike 87 = .ok (.aload_n 1, 1) := by decide +kernel
theorem dX10_strike_88 : decode cX10_strike 88 = .ok (.aload_n 0, 1) := by decide +kernel
theorem dX10_strike_89 : decode cX10_strike 89 = .ok (.getfield 12, 3) := by decide +kernel
theorem dX10_strike_92 : decode cX10_strike 92 = .ok (.getfield 90, 3) := by decide +kernel
theorem dX10_strike_95 : decode cX10_strike 95 = .ok (.invokevirtual 139, 3) := by decide +kernel
theorem dX10_strike_98 : decode cX10_strike 98 = .ok (.putfield 207, 3) := by decide +kernel
theorem dX10_strike_101 : decode cX10_strike 101 = .ok (.aload_n 3, 1) := by decide +kernel
theorem dX10_strike_102 : decode cX10_strike 102 = .ok (.invokevirtual 210, 3) := by decide +kernel
theorem dX10_strike_105 : decode cX10_strike 105 = .ok (.aload_n 0, 1) := by decide +kernel
theorem dX10_strike_106 : decode cX10_strike 106 = .ok (.getfield 32, 3) := by decide +kernel
theorem dX10_strike_109 : decode cX10_strike 109 = .ok (.aload_n 0, 1) := by decide +kernel
theorem dX10_strike_110 : decode cX10_strike 110 = .ok (.getfield 197, 3) := by decide +kernel
theorem dX10_strike_113 : decode cX10_strike 113 = .ok (.aload_n 3, 1) := by decide +kernel
theorem dX10_strike_114 : decode cX10_strike 114 = .ok (.aastore, 1) := by decide +kernel
theorem dX10_strike_115 : decode cX10_strike 115 = .ok (.aload_n 0, 1) := by decide +kernel
theorem dX10_strike_116 : decode cX10_strike 116 = .ok (.aconst_null, 1) := by decide +kernel
theorem dX10_strike_117 : decode cX10_strike 117 = .ok (.putfield 163, 3) := by decide +kernel
theorem dX10_strike_120 : decode cX10_strike 120 = .ok (.aload_n 0, 1) := by decide +kernel
theorem dX10_strike_121 : decode cX10_strike 121 = .ok (.dup, 1) := by decide +kernel
theorem dX10_strike_122 : decode cX10_strike 122 = .ok (.getfield 197, 3) := by decide +kernel
theorem dX10_strike_125 : decode cX10_strike 125 = .ok (.dup_x1, 1) := by decide +kernel
theorem dX10_strike_126 : decode cX10_strike 126 = .ok (.iconst 1, 1) := by decide +kernel
theorem dX10_strike_127 : decode cX10_strike 127 = .ok (.iadd, 1) := by decide +kernel
theorem dX10_strike_128 : decode cX10_strike 128 = .ok (.putfield 197, 3) := by decide +kernel
theorem dX10_strike_131 : decode cX10_strike 131 = .ok (.ireturn, 1) := by decide +kernel
set_option maxRecDepth 20000 in
theorem ggX10_about_X10_pitchAt : GoodIn wsX10_about wsX10_pitchAt := goodIn_r _ [13, 14, 15, 16, 17, 12, 18, 39, 40, 41, 42, 43, 44, 45, 46, 47, 48, 49, 50, 51] (by decide +kernel) (by decide +kernel)
set_option maxRecDepth 20000 in
theorem gX10_about_X10_pitchAt : GoodIn wsX10_about (wsV RX10 133 RX10 yX10_pitchAt wsX10_pitchAt) := goodIn_app (goodIn_of _ (by decide +kernel)) ggX10_about_X10_pitchAt
theorem dX10_about_0 : decode cX10_about 0 = .ok (.aload_n 0, 1) := by decide +kernel
theorem dX10_about_1 : decode cX10_about 1 = .ok (.iload_n 1, 1) := by decide +kernel
theorem dX10_about_2 : decode cX10_about 2 = .ok (.invokevirtual 133, 3) := by decide +kernel
theorem dX10_about_5 : decode cX10_about 5 = .ok (.astore_n 3, 1) := by decide +kernel
theorem dX10_about_6 : decode cX10_about 6 = .ok (.aload_n 3, 1) := by decide +kernel
theorem dX10_about_7 : decode cX10_about 7 = .ok (.ifnonnull 5, 3) := by decide +kernel
theorem dX10_about_10 : decode cX10_about 10 = .ok (.iconst (-1), 1) := by decide +kernel
theorem dX10_about_11 : decode cX10_about 11 = .ok (.ireturn, 1) := by decide +kernel
theorem dX10_about_12 : decode cX10_about 12 = .ok (.iload_n 2, 1) := by decide +kernel
theorem dX10_about_13 : decode cX10_about 13 = .ok (.tableswitch 93 0 6 #[43, 48, 53, 58, 63, 68, 88], 43) := by decide +kernel
theorem dX10_about_56 : decode cX10_about 56 = .ok (.aload_n 3, 1) := by decide +kernel
theorem dX10_about_57 : decode cX10_about 57 = .ok (.getfield 213, 3) := by decide +kernel
theorem dX10_about_60 : decode cX10_about 60 = .ok (.ireturn, 1) := by decide +kernel
theorem dX10_about_61 : decode cX10_about 61 = .ok (.aload_n 3, 1) := by decide +kernel
theorem dX10_about_62 : decode cX10_about 62 = .ok (.getfield 216, 3) := by decide +kernel
theorem dX10_about_65 : decode cX10_about 65 = .ok (.ireturn, 1) := by decide +kernel
theorem dX10_about_66 : decode cX10_about 66 = .ok (.aload_n 3, 1) := by decide +kernel
theorem dX10_about_67 : decode cX10_about 67 = .ok (.getfield 219, 3) := by decide +kernel
theorem dX10_about_70 : decode cX10_about 70 = .ok (.ireturn, 1) := by decide +kernel
theorem dX10_about_71 : decode cX10_about 71 = .ok (.aload_n 3, 1) := by decide +kernel
theorem dX10_about_72 : decode cX10_about 72 = .ok (.getfield 222, 3) := by decide +kernel
theorem dX10_about_75 : decode cX10_about 75 = .ok (.ireturn, 1) := by decide +kernel
theorem dX10_about_76 : decode cX10_about 76 = .ok (.aload_n 3, 1) := by decide +kernel
theorem dX10_about_77 : decode cX10_about 77 = .ok (.getfield 225, 3) := by decide +kernel
theorem dX10_about_80 : decode cX10_about 80 = .ok (.ireturn, 1) := by decide +kernel
theorem dX10_about_81 : decode cX10_about 81 = .ok (.aload_n 3, 1) := by decide +kernel
theorem dX10_about_82 : decode cX10_about 82 = .ok (.getfield 159, 3) := by decide +kernel
theorem dX10_about_85 : decode cX10_about 85 = .ok (.ifnonnull 8, 3) := by decide +kernel
theorem dX10_about_88 : decode cX10_about 88 = .ok (.bipush (-9), 2) := by decide +kernel
theorem dX10_about_90 : decode cX10_about 90 = .ok (.goto 10, 3) := by decide +kernel
theorem dX10_about_93 : decode cX10_about 93 = .ok (.aload_n 3, 1) := by decide +kernel
theorem dX10_about_94 : decode cX10_about 94 = .ok (.getfield 159, 3) := by decide +kernel
theorem dX10_about_97 : decode cX10_about 97 = .ok (.getfield 228, 3) := by decide +kernel
theorem dX10_about_100 : decode cX10_about 100 = .ok (.ireturn, 1) := by decide +kernel
theorem dX10_about_101 : decode cX10_about 101 = .ok (.aload_n 3, 1) := by decide +kernel
theorem dX10_about_102 : decode cX10_about 102 = .ok (.getfield 231, 3) := by decide +kernel
theorem dX10_about_105 : decode cX10_about 105 = .ok (.ireturn, 1) := by decide +kernel
theorem dX10_about_106 : decode cX10_about 106 = .ok (.bipush (-2), 2) := by decide +kernel
theorem dX10_about_108 : decode cX10_about 108 = .ok (.ireturn, 1) := by decide +kernel
set_option maxRecDepth 20000 in
theorem ggX10_parcel_X10_takeAt : GoodIn wsX10_parcel wsX10_takeAt := goodIn_r _ [14, 15, 16, 17, 18, 13, 19, 40, 41, 42, 43, 44, 45, 46, 47, 48, 49, 50, 51, 52] (by decide +kernel) (by decide +kernel)
set_option maxRecDepth 20000 in
theorem gX10_parcel_X10_takeAt : GoodIn wsX10_parcel (wsV RX10 234 RX10 yX10_takeAt wsX10_takeAt) := goodIn_app (goodIn_of _ (by decide +kernel)) ggX10_parcel_X10_takeAt
set_option maxRecDepth 20000 in
theorem ggX10_parcel_X10_isWithin : GoodIn wsX10_parcel wsX10_isWithin := goodIn_r _ [19] (by decide +kernel) (by decide +kernel)
set_option maxRecDepth 20000 in
theorem gX10_parcel_X10_isWithin : GoodIn wsX10_parcel (va_wsS RX10 64 yX10_isWithin wsX10_isWithin) := goodIn_app (goodIn_of _ (by decide +kernel)) ggX10_parcel_X10_isWithin
set_option maxRecDepth 20000 in
theorem ggX10_parcel_X5_init : GoodIn wsX10_parcel wsX5_init := goodIn_r _ [22, 23, 24, 25, 26, 27, 53, 54] (by decide +kernel) (by decide +kernel)
set_option maxRecDepth 20000 in
theorem gX10_parcel_X5_init : GoodIn wsX10_parcel (wsX5_init) := ggX10_parcel_X5_init
theorem dX10_parcel_0 : decode cX10_parcel 0 = .ok (.aload_n 0, 1) := by decide +kernel
theorem dX10_parcel_1 : decode cX10_parcel 1 = .ok (.iload_n 1, 1) := by decide +kernel
theorem dX10_parcel_2 : decode cX10_parcel 2 = .ok (.invokevirtual 234, 3) := by decide +kernel
theorem dX10_parcel_5 : decode cX10_parcel 5 = .ok (.astore 4, 2) := by decide +kernel
theorem dX10_parcel_7 : decode cX10_parcel 7 = .ok (.aload 4, 2) := by decide +kernel
theorem dX10_parcel_9 : decode cX10_parcel 9 = .ok (.ifnonnull 5, 3) := by decide +kernel
theorem dX10_parcel_12 : decode cX10_parcel 12 = .ok (.iconst (-1), 1) := by decide +kernel
theorem dX10_parcel_13 : decode cX10_parcel 13 = .ok (.ireturn, 1) := by decide +kernel
theorem dX10_parcel_14 : decode cX10_parcel 14 = .ok (.iload_n 2, 1) := by decide +kernel
theorem dX10_parcel_15 : decode cX10_parcel 15 = .ok (.iconst 1, 1) := by decide +kernel
theorem dX10_parcel_16 : decode cX10_parcel 16 = .ok (.sipush 1000, 3) := by decide +kernel
theorem dX10_parcel_19 : decode cX10_parcel 19 = .ok (.invokestatic 64, 3) := by decide +kernel
theorem dX10_parcel_22 : decode cX10_parcel 22 = .ok (.ifCond .eq 14, 3) := by decide +kernel
theorem dX10_parcel_25 : decode cX10_parcel 25 = .ok (.iload_n 3, 1) := by decide +kernel
theorem dX10_parcel_26 : decode cX10_parcel 26 = .ok (.iconst 0, 1) := by decide +kernel
theorem dX10_parcel_27 : decode cX10_parcel 27 = .ok (.sipush 1000, 3) := by decide +kernel
theorem dX10_parcel_30 : decode cX10_parcel 30 = .ok (.invokestatic 64, 3) := by decide +kernel
theorem dX10_parcel_33 : decode cX10_parcel 33 = .ok (.ifCond .ne 6, 3) := by decide +kernel
theorem dX10_parcel_36 : decode cX10_parcel 36 = .ok (.bipush (-2), 2) := by decide +kernel
theorem dX10_parcel_38 : decode cX10_parcel 38 = .ok (.ireturn, 1) := by decide +kernel
theorem dX10_parcel_39 : decode cX10_parcel 39 = .ok (.aload 4, 2) := by decide +kernel
theorem dX10_parcel_41 : decode cX10_parcel 41 = .ok (.getfield 238, 3) := by decide +kernel
theorem dX10_parcel_44 : decode cX10_parcel 44 = .ok (.ifCond .eq 6, 3) := by decide +kernel
theorem dX10_parcel_47 : decode cX10_parcel 47 = .ok (.bipush (-3), 2) := by decide +kernel
theorem dX10_parcel_49 : decode cX10_parcel 49 = .ok (.ireturn, 1) := by decide +kernel
theorem dX10_parcel_50 : decode cX10_parcel 50 = .ok (.aload_n 0, 1) := by decide +kernel
theorem dX10_parcel_51 : decode cX10_parcel 51 = .ok (.getfield 242, 3) := by decide +kernel
theorem dX10_parcel_54 : decode cX10_parcel 54 = .ok (.bipush 80, 2) := by decide +kernel
theorem dX10_parcel_56 : decode cX10_parcel 56 = .ok (.if_icmp .lt 6, 3) := by decide +kernel
theorem dX10_parcel_59 : decode cX10_parcel 59 = .ok (.bipush (-4), 2) := by decide +kernel
theorem dX10_parcel_61 : decode cX10_parcel 61 = .ok (.ireturn, 1) := by decide +kernel
theorem dX10_parcel_62 : decode cX10_parcel 62 = .ok (.aload_n 0, 1) := by decide +kernel
theorem dX10_parcel_63 : decode cX10_parcel 63 = .ok (.getfield 38, 3) := by decide +kernel
theorem dX10_parcel_66 : decode cX10_parcel 66 = .ok (.aload_n 0, 1) := by decide +kernel
theorem dX10_parcel_67 : decode cX10_parcel 67 = .ok (.getfield 242, 3) := by decide +kernel
theorem dX10_parcel_70 : decode cX10_parcel 70 = .ok (.new 36, 3) := by decide +kernel
theorem dX10_parcel_73 : decode cX10_parcel 73 = .ok (.dup, 1) := by decide +kernel
theorem dX10_parcel_74 : decode cX10_parcel 74 = .ok (.aload 4, 2) := by decide +kernel
theorem dX10_parcel_76 : decode cX10_parcel 76 = .ok (.getfield 245, 3) := by decide +kernel
theorem dX10_parcel_79 : decode cX10_parcel 79 = .ok (.iload_n 3, 1) := by decide +kernel
theorem dX10_parcel_80 : decode cX10_parcel 80 = .ok (.invokespecial 246, 3) := by decide +kernel
theorem dX10_parcel_83 : decode cX10_parcel 83 = .ok (.aastore, 1) := by decide +kernel
theorem dX10_parcel_84 : decode cX10_parcel 84 = .ok (.aload 4, 2) := by decide +kernel
theorem dX10_parcel_86 : decode cX10_parcel 86 = .ok (.dup, 1) := by decide +kernel
theorem dX10_parcel_87 : decode cX10_parcel 87 = .ok (.getfield 247, 3) := by decide +kernel
theorem dX10_parcel_90 : decode cX10_parcel 90 = .ok (.iconst 1, 1) := by decide +kernel
theorem dX10_parcel_91 : decode cX10_parcel 91 = .ok (.iadd, 1) := by decide +kernel
theorem dX10_parcel_92 : decode cX10_parcel 92 = .ok (.putfield 247, 3) := by decide +kernel
theorem dX10_parcel_95 : decode cX10_parcel 95 = .ok (.aload 4, 2) := by decide +kernel
theorem dX10_parcel_97 : decode cX10_parcel 97 = .ok (.dup, 1) := by decide +kernel
theorem dX10_parcel_98 : decode cX10_parcel 98 = .ok (.getfield 249, 3) := by decide +kernel
theorem dX10_parcel_101 : decode cX10_parcel 101 = .ok (.iload_n 2, 1) := by decide +kernel
theorem dX10_parcel_102 : decode cX10_parcel 102 = .ok (.i2l, 1) := by decide +kernel
theorem dX10_parcel_103 : decode cX10_parcel 103 = .ok (.iload_n 3, 1) := by decide +kernel
theorem dX10_parcel_104 : decode cX10_parcel 104 = .ok (.i2l, 1) := by decide +kernel
theorem dX10_parcel_105 : decode cX10_parcel 105 = .ok (.lmul, 1) := by decide +kernel
theorem dX10_parcel_106 : decode cX10_parcel 106 = .ok (.ladd, 1) := by decide +kernel
theorem dX10_parcel_107 : decode cX10_parcel 107 = .ok (.putfield 249, 3) := by decide +kernel
theorem dX10_parcel_110 : decode cX10_parcel 110 = .ok (.aload_n 0, 1) := by decide +kernel
theorem dX10_parcel_111 : decode cX10_parcel 111 = .ok (.dup, 1) := by decide +kernel
theorem dX10_parcel_112 : decode cX10_parcel 112 = .ok (.getfield 242, 3) := by decide +kernel
theorem dX10_parcel_115 : decode cX10_parcel 115 = .ok (.dup_x1, 1) := by decide +kernel
theorem dX10_parcel_116 : decode cX10_parcel 116 = .ok (.iconst 1, 1) := by decide +kernel
theorem dX10_parcel_117 : decode cX10_parcel 117 = .ok (.iadd, 1) := by decide +kernel
theorem dX10_parcel_118 : decode cX10_parcel 118 = .ok (.putfield 242, 3) := by decide +kernel
theorem dX10_parcel_121 : decode cX10_parcel 121 = .ok (.ireturn, 1) := by decide +kernel
set_option maxRecDepth 20000 in
theorem ggX10_spend_X10_takeAt : GoodIn wsX10_spend wsX10_takeAt := goodIn_r _ [10, 11, 12, 13, 14, 9, 15, 28, 29, 30, 31, 32, 33, 34, 35, 36, 37, 38, 39, 40] (by decide +kernel) (by decide +kernel)
set_option maxRecDepth 20000 in
theorem gX10_spend_X10_takeAt : GoodIn wsX10_spend (wsV RX10 234 RX10 yX10_takeAt wsX10_takeAt) := goodIn_app (goodIn_of _ (by decide +kernel)) ggX10_spend_X10_takeAt
set_option maxRecDepth 20000 in
theorem ggX10_spend_X10_isWithin : GoodIn wsX10_spend wsX10_isWithin := goodIn_r _ [15] (by decide +kernel) (by decide +kernel)
set_option maxRecDepth 20000 in
theorem gX10_spend_X10_isWithin : GoodIn wsX10_spend (va_wsS RX10 64 yX10_isWithin wsX10_isWithin) := goodIn_app (goodIn_of _ (by decide +kernel)) ggX10_spend_X10_isWithin
theorem dX10_spend_0 : decode cX10_spend 0 = .ok (.aload_n 0, 1) := by decide +kernel
theorem dX10_spend_1 : decode cX10_spend 1 = .ok (.iload_n 1, 1) := by decide +kernel
theorem dX10_spend_2 : decode cX10_spend 2 = .ok (.invokevirtual 234, 3) := by decide +kernel
theorem dX10_spend_5 : decode cX10_spend 5 = .ok (.astore 4, 2) := by decide +kernel
theorem dX10_spend_7 : decode cX10_spend 7 = .ok (.aload 4, 2) := by decide +kernel
theorem dX10_spend_9 : decode cX10_spend 9 = .ok (.ifnull 22, 3) := by decide +kernel
theorem dX10_spend_12 : decode cX10_spend 12 = .ok (.iload_n 2, 1) := by decide +kernel
theorem dX10_spend_13 : decode cX10_spend 13 = .ok (.iconst 0, 1) := by decide +kernel
theorem dX10_spend_14 : decode cX10_spend 14 = .ok (.iconst 1, 1) := by decide +kernel
theorem dX10_spend_15 : decode cX10_spend 15 = .ok (.invokestatic 64, 3) := by decide +kernel
theorem dX10_spend_18 : decode cX10_spend 18 = .ok (.ifCond .eq 13, 3) := by decide +kernel
theorem dX10_spend_21 : decode cX10_spend 21 = .ok (.iload_n 3, 1) := by decide +kernel
theorem dX10_spend_22 : decode cX10_spend 22 = .ok (.iconst 0, 1) := by decide +kernel
theorem dX10_spend_23 : decode cX10_spend 23 = .ok (.ldc 252, 2) := by decide +kernel
theorem dX10_spend_25 : decode cX10_spend 25 = .ok (.invokestatic 64, 3) := by decide +kernel
theorem dX10_spend_28 : decode cX10_spend 28 = .ok (.ifCond .ne 7, 3) := by decide +kernel
theorem dX10_spend_31 : decode cX10_spend 31 = .ok (.ldc2_w 137, 3) := by decide +kernel
theorem dX10_spend_34 : decode cX10_spend 34 = .ok (.lreturn, 1) := by decide +kernel
theorem dX10_spend_35 : decode cX10_spend 35 = .ok (.aload 4, 2) := by decide +kernel
theorem dX10_spend_37 : decode cX10_spend 37 = .ok (.getfield 238, 3) := by decide +kernel
theorem dX10_spend_40 : decode cX10_spend 40 = .ok (.ifCond .eq 7, 3) := by decide +kernel
theorem dX10_spend_43 : decode cX10_spend 43 = .ok (.ldc2_w 137, 3) := by decide +kernel
theorem dX10_spend_46 : decode cX10_spend 46 = .ok (.lreturn, 1) := by decide +kernel
theorem dX10_spend_47 : decode cX10_spend 47 = .ok (.iload_n 2, 1) := by decide +kernel
theorem dX10_spend_48 : decode cX10_spend 48 = .ok (.ifCond .ne 21, 3) := by decide +kernel
theorem dX10_spend_51 : decode cX10_spend 51 = .ok (.aload 4, 2) := by decide +kernel
theorem dX10_spend_53 : decode cX10_spend 53 = .ok (.dup, 1) := by decide +kernel
theorem dX10_spend_54 : decode cX10_spend 54 = .ok (.getfield 253, 3) := by decide +kernel
theorem dX10_spend_57 : decode cX10_spend 57 = .ok (.iload_n 3, 1) := by decide +kernel
theorem dX10_spend_58 : decode cX10_spend 58 = .ok (.i2l, 1) := by decide +kernel
theorem dX10_spend_59 : decode cX10_spend 59 = .ok (.ladd, 1) := by decide +kernel
theorem dX10_spend_60 : decode cX10_spend 60 = .ok (.putfield 253, 3) := by decide +kernel
theorem dX10_spend_63 : decode cX10_spend 63 = .ok (.aload 4, 2) := by decide +kernel
theorem dX10_spend_65 : decode cX10_spend 65 = .ok (.getfield 253, 3) := by decide +kernel
theorem dX10_spend_68 : decode cX10_spend 68 = .ok (.lreturn, 1) := by decide +kernel
theorem dX10_spend_69 : decode cX10_spend 69 = .ok (.aload 4, 2) := by decide +kernel
theorem dX10_spend_71 : decode cX10_spend 71 = .ok (.dup, 1) := by decide +kernel
theorem dX10_spend_72 : decode cX10_spend 72 = .ok (.getfield 256, 3) := by decide +kernel
theorem dX10_spend_75 : decode cX10_spend 75 = .ok (.iload_n 3, 1) := by decide +kernel
theorem dX10_spend_76 : decode cX10_spend 76 = .ok (.i2l, 1) := by decide +kernel
theorem dX10_spend_77 : decode cX10_spend 77 = .ok (.ladd, 1) := by decide +kernel
theorem dX10_spend_78 : decode cX10_spend 78 = .ok (.putfield 256, 3) := by decide +kernel
theorem dX10_spend_81 : decode cX10_spend 81 = .ok (.aload 4, 2) := by decide +kernel
theorem dX10_spend_83 : decode cX10_spend 83 = .ok (.getfield 256, 3) := by decide +kernel
theorem dX10_spend_86 : decode cX10_spend 86 = .ok (.lreturn, 1) := by decide +kernel
set_option maxRecDepth 20000 in
theorem ggX10_settle_X10_takeAt : GoodIn wsX10_settle wsX10_takeAt := goodIn_r _ [8, 9, 10, 11, 12, 7, 13, 77, 78, 79, 80, 81, 82, 83, 84, 85, 86, 87, 88, 89] (by decide +kernel) (by decide +kernel)
set_option maxRecDepth 20000 in
theorem gX10_settle_X10_takeAt : GoodIn wsX10_settle (wsV RX10 234 RX10 yX10_takeAt wsX10_takeAt) := goodIn_app (goodIn_of _ (by decide +kernel)) ggX10_settle_X10_takeAt
set_option maxRecDepth 20000 in
theorem ggX10_settle_X8_end : GoodIn wsX10_settle wsX8_end := goodIn_r _ [18, 19, 20, 21, 22, 23, 24, 25, 26, 27, 28, 29, 30, 31, 32, 33, 34, 35, 36, 37, 38, 39, 40, 41, 42, 43, 44, 45, 46, 47, 48, 49, 50, 51, 52, 53, 54, 55, 56, 57, 58, 59, 60, 61, 62, 63, 64, 65, 66, 67, 68, 69, 70, 71, 72, 73, 74, 75, 76, 90, 91, 92, 93, 94, 95, 96, 97, 98, 99, 100, 101, 102, 103, 104, 105, 106, 107, 108, 109] (by decide +kernel) (by decide +kernel)
set_option maxRecDepth 20000 in
theorem gX10_settle_X8_end : GoodIn wsX10_settle (wsV RX10 259 RX8 yX8_end wsX8_end) := goodIn_app (goodIn_of _ (by decide +kernel)) ggX10_settle_X8_end
theorem dX10_settle_0 : decode cX10_settle 0 = .ok (.aload_n 0, 1) := by decide +kernel
theorem dX10_settle_1 : decode cX10_settle 1 = .ok (.iload_n 1, 1) := by decide +kernel
theorem dX10_settle_2 : decode cX10_settle 2 = .ok (.invokevirtual 234, 3) := by decide +kernel
theorem dX10_settle_5 : decode cX10_settle 5 = .ok (.astore_n 2, 1) := by decide +kernel
theorem dX10_settle_6 : decode cX10_settle 6 = .ok (.aload_n 2, 1) := by decide +kernel
theorem dX10_settle_7 : decode cX10_settle 7 = .ok (.ifnull 10, 3) := by decide +kernel
theorem dX10_settle_10 : decode cX10_settle 10 = .ok (.aload_n 2, 1) := by decide +kernel
theorem dX10_settle_11 : decode cX10_settle 11 = .ok (.getfield 238, 3) := by decide +kernel
theorem dX10_settle_14 : decode cX10_settle 14 = .ok (.ifCond .eq 7, 3) := by decide +kernel
theorem dX10_settle_17 : decode cX10_settle 17 = .ok (.ldc2_w 137, 3) := by decide +kernel
theorem dX10_settle_20 : decode cX10_settle 20 = .ok (.lreturn, 1) := by decide +kernel
theorem dX10_settle_21 : decode cX10_settle 21 = .ok (.aload_n 2, 1) := by decide +kernel
theorem dX10_settle_22 : decode cX10_settle 22 = .ok (.invokevirtual 259, 3) := by decide +kernel
theorem dX10_settle_25 : decode cX10_settle 25 = .ok (.aload_n 2, 1) := by decide +kernel
theorem dX10_settle_26 : decode cX10_settle 26 = .ok (.getfield 262, 3) := by decide +kernel
theorem dX10_settle_29 : decode cX10_settle 29 = .ok (.lreturn, 1) := by decide +kernel
set_option maxRecDepth 20000 in
theorem ggX10_taken_X10_takeAt : GoodIn wsX10_taken wsX10_takeAt := goodIn_r _ [12, 13, 14, 15, 16, 11, 17, 50, 51, 52, 53, 54, 55, 56, 57, 58, 59, 60, 61, 62] (by decide +kernel) (by decide +kernel)
set_option maxRecDepth 20000 in
theorem gX10_taken_X10_takeAt : GoodIn wsX10_taken (wsV RX10 234 RX10 yX10_takeAt wsX10_takeAt) := goodIn_app (goodIn_of _ (by decide +kernel)) ggX10_taken_X10_takeAt
theorem dX10_taken_0 : decode cX10_taken 0 = .ok (.aload_n 0, 1) := by decide +kernel
theorem dX10_taken_1 : decode cX10_taken 1 = .ok (.iload_n 1, 1) := by decide +kernel
theorem dX10_taken_2 : decode cX10_taken 2 = .ok (.invokevirtual 234, 3) := by decide +kernel
theorem dX10_taken_5 : decode cX10_taken 5 = .ok (.astore_n 3, 1) := by decide +kernel
theorem dX10_taken_6 : decode cX10_taken 6 = .ok (.aload_n 3, 1) := by decide +kernel
theorem dX10_taken_7 : decode cX10_taken 7 = .ok (.ifnonnull 5, 3) := by decide +kernel
theorem dX10_taken_10 : decode cX10_taken 10 = .ok (.iconst (-1), 1) := by decide +kernel
theorem dX10_taken_11 : decode cX10_taken 11 = .ok (.ireturn, 1) := by decide +kernel
theorem dX10_taken_12 : decode cX10_taken 12 = .ok (.iload_n 2, 1) := by decide +kernel
theorem dX10_taken_13 : decode cX10_taken 13 = .ok (.tableswitch 74 0 4 #[35, 43, 51, 56, 69], 35) := by decide +kernel
theorem dX10_taken_48 : decode cX10_taken 48 = .ok (.aload_n 3, 1) := by decide +kernel
theorem dX10_taken_49 : decode cX10_taken 49 = .ok (.getfield 265, 3) := by decide +kernel
theorem dX10_taken_52 : decode cX10_taken 52 = .ok (.getfield 268, 3) := by decide +kernel
theorem dX10_taken_55 : decode cX10_taken 55 = .ok (.ireturn, 1) := by decide +kernel
theorem dX10_taken_56 : decode cX10_taken 56 = .ok (.aload_n 3, 1) := by decide +kernel
theorem dX10_taken_57 : decode cX10_taken 57 = .ok (.getfield 245, 3) := by decide +kernel
theorem dX10_taken_60 : decode cX10_taken 60 = .ok (.getfield 269, 3) := by decide +kernel
theorem dX10_taken_63 : decode cX10_taken 63 = .ok (.ireturn, 1) := by decide +kernel
theorem dX10_taken_64 : decode cX10_taken 64 = .ok (.aload_n 3, 1) := by decide +kernel
theorem dX10_taken_65 : decode cX10_taken 65 = .ok (.getfield 270, 3) := by decide +kernel
theorem dX10_taken_68 : decode cX10_taken 68 = .ok (.ireturn, 1) := by decide +kernel
theorem dX10_taken_69 : decode cX10_taken 69 = .ok (.aload_n 3, 1) := by decide +kernel
theorem dX10_taken_70 : decode cX10_taken 70 = .ok (.getfield 238, 3) := by decide +kernel
theorem dX10_taken_73 : decode cX10_taken 73 = .ok (.ifCond .eq 7, 3) := by decide +kernel
theorem dX10_taken_76 : decode cX10_taken 76 = .ok (.iconst 1, 1) := by decide +kernel
theorem dX10_taken_77 : decode cX10_taken 77 = .ok (.goto 4, 3) := by decide +kernel
theorem dX10_taken_80 : decode cX10_taken 80 = .ok (.iconst 0, 1) := by decide +kernel
theorem dX10_taken_81 : decode cX10_taken 81 = .ok (.ireturn, 1) := by decide +kernel
theorem dX10_taken_82 : decode cX10_taken 82 = .ok (.aload_n 3, 1) := by decide +kernel
theorem dX10_taken_83 : decode cX10_taken 83 = .ok (.getfield 247, 3) := by decide +kernel
theorem dX10_taken_86 : decode cX10_taken 86 = .ok (.ireturn, 1) := by decide +kernel
theorem dX10_taken_87 : decode cX10_taken 87 = .ok (.bipush (-2), 2) := by decide +kernel
theorem dX10_taken_89 : decode cX10_taken 89 = .ok (.ireturn, 1) := by decide +kernel
set_option maxRecDepth 20000 in
theorem ggX10_money_X10_takeAt : GoodIn wsX10_money wsX10_takeAt := goodIn_r _ [12, 13, 14, 15, 16, 11, 17, 30, 31, 32, 33, 34, 35, 36, 37, 38, 39, 40, 41, 42] (by decide +kernel) (by decide +kernel)
set_option maxRecDepth 20000 in
theorem gX10_money_X10_takeAt : GoodIn wsX10_money (wsV RX10 234 RX10 yX10_takeAt wsX10_takeAt) := goodIn_app (goodIn_of _ (by decide +kernel)) ggX10_money_X10_takeAt
theorem dX10_money_0 : decode cX10_money 0 = .ok (.aload_n 0, 1) := by decide +kernel
theorem dX10_money_1 : decode cX10_money 1 = .ok (.iload_n 1, 1) := by decide +kernel
theorem dX10_money_2 : decode cX10_money 2 = .ok (.invokevirtual 234, 3) := by decide +kernel
theorem dX10_money_5 : decode cX10_money 5 = .ok (.astore_n 3, 1) := by decide +kernel
theorem dX10_money_6 : decode cX10_money 6 = .ok (.aload_n 3, 1) := by decide +kernel
theorem dX10_money_7 : decode cX10_money 7 = .ok (.ifnonnull 7, 3) := by decide +kernel
theorem dX10_money_10 : decode cX10_money 10 = .ok (.ldc2_w 137, 3) := by decide +kernel
theorem dX10_money_13 : decode cX10_money 13 = .ok (.lreturn, 1) := by decide +kernel
theorem dX10_money_14 : decode cX10_money 14 = .ok (.iload_n 2, 1) := by decide +kernel
theorem dX10_money_15 : decode cX10_money 15 = .ok (.tableswitch 67 0 5 #[37, 42, 47, 52, 57, 62], 37) := by decide +kernel
theorem dX10_money_52 : decode cX10_money 52 = .ok (.aload_n 3, 1) := by decide +kernel
theorem dX10_money_53 : decode cX10_money 53 = .ok (.getfield 249, 3) := by decide +kernel
theorem dX10_money_56 : decode cX10_money 56 = .ok (.lreturn, 1) := by decide +kernel
theorem dX10_money_57 : decode cX10_money 57 = .ok (.aload_n 3, 1) := by decide +kernel
theorem dX10_money_58 : decode cX10_money 58 = .ok (.getfield 253, 3) := by decide +kernel
theorem dX10_money_61 : decode cX10_money 61 = .ok (.lreturn, 1) := by decide +kernel
theorem dX10_money_62 : decode cX10_money 62 = .ok (.aload_n 3, 1) := by decide +kernel
theorem dX10_money_63 : decode cX10_money 63 = .ok (.getfield 256, 3) := by decide +kernel
theorem dX10_money_66 : decode cX10_money 66 = .ok (.lreturn, 1) := by decide +kernel
theorem dX10_money_67 : decode cX10_money 67 = .ok (.aload_n 3, 1) := by decide +kernel
theorem dX10_money_68 : decode cX10_money 68 = .ok (.getfield 262, 3) := by decide +kernel
theorem dX10_money_71 : decode cX10_money 71 = .ok (.lreturn, 1) := by decide +kernel
theorem dX10_money_72 : decode cX10_money 72 = .ok (.aload_n 3, 1) := by decide +kernel
theorem dX10_money_73 : decode cX10_money 73 = .ok (.getfield 203, 3) := by decide +kernel
theorem dX10_money_76 : decode cX10_money 76 = .ok (.lreturn, 1) := by decide +kernel
theorem dX10_money_77 : decode cX10_money 77 = .ok (.aload_n 3, 1) := by decide +kernel
theorem dX10_money_78 : decode cX10_money 78 = .ok (.getfield 207, 3) := by decide +kernel
theorem dX10_money_81 : decode cX10_money 81 = .ok (.lreturn, 1) := by decide +kernel
theorem dX10_money_82 : decode cX10_money 82 = .ok (.ldc2_w 137, 3) := by decide +kernel
theorem dX10_money_85 : decode cX10_money 85 = .ok (.lreturn, 1) := by decide +kernel
set_option maxRecDepth 20000 in
theorem ggX10_debt_X10_gangAt : GoodIn wsX10_debt wsX10_gangAt := goodIn_r _ [7, 8, 9, 10, 11, 6, 12, 25, 26, 27, 28, 29, 30, 31, 32, 33, 34, 35, 36, 37] (by decide +kernel) (by decide +kernel)
set_option maxRecDepth 20000 in
theorem gX10_debt_X10_gangAt : GoodIn wsX10_debt (wsV RX10 172 RX10 yX10_gangAt wsX10_gangAt) := goodIn_app (goodIn_of _ (by decide +kernel)) ggX10_debt_X10_gangAt
theorem dX10_debt_0 : decode cX10_debt 0 = .ok (.aload_n 0, 1) := by decide +kernel
theorem dX10_debt_1 : decode cX10_debt 1 = .ok (.iload_n 1, 1) := by decide +kernel
theorem dX10_debt_2 : decode cX10_debt 2 = .ok (.invokevirtual 172, 3) := by decide +kernel
theorem dX10_debt_5 : decode cX10_debt 5 = .ok (.astore_n 2, 1) := by decide +kernel
theorem dX10_debt_6 : decode cX10_debt 6 = .ok (.aload_n 2, 1) := by decide +kernel
theorem dX10_debt_7 : decode cX10_debt 7 = .ok (.ifnonnull 9, 3) := by decide +kernel
theorem dX10_debt_10 : decode cX10_debt 10 = .ok (.ldc2_w 137, 3) := by decide +kernel
theorem dX10_debt_13 : decode cX10_debt 13 = .ok (.goto 7, 3) := by decide +kernel
theorem dX10_debt_16 : decode cX10_debt 16 = .ok (.aload_n 2, 1) := by decide +kernel
theorem dX10_debt_17 : decode cX10_debt 17 = .ok (.getfield 271, 3) := by decide +kernel
theorem dX10_debt_20 : decode cX10_debt 20 = .ok (.lreturn, 1) := by decide +kernel
set_option maxRecDepth 20000 in
theorem ggX10_suspects_X5_isSuspect : GoodIn wsX10_suspects wsX5_isSuspect := goodIn_r _ [8, 9, 10, 11, 12, 13, 14, 15, 16, 17, 18, 19, 20, 21, 22, 23, 24, 25, 26, 27, 28, 42, 43, 44, 45, 46, 47, 48, 49, 50, 51, 52, 53, 54, 55, 56] (by decide +kernel) (by decide +kernel)
set_option maxRecDepth 20000 in
theorem gX10_suspects_X5_isSuspect : GoodIn wsX10_suspects (wsV RX10 274 RX5 yX5_isSuspect wsX5_isSuspect) := goodIn_app (goodIn_of _ (by decide +kernel)) ggX10_suspects_X5_isSuspect
theorem dX10_suspects_0 : decode cX10_suspects 0 = .ok (.iconst 0, 1) := by decide +kernel
theorem dX10_suspects_1 : decode cX10_suspects 1 = .ok (.istore_n 1, 1) := by decide +kernel
theorem dX10_suspects_2 : decode cX10_suspects 2 = .ok (.iconst 0, 1) := by decide +kernel
theorem dX10_suspects_3 : decode cX10_suspects 3 = .ok (.istore_n 2, 1) := by decide +kernel
theorem dX10_suspects_4 : decode cX10_suspects 4 = .ok (.iload_n 2, 1) := by decide +kernel
theorem dX10_suspects_5 : decode cX10_suspects 5 = .ok (.aload_n 0, 1) := by decide +kernel
theorem dX10_suspects_6 : decode cX10_suspects 6 = .ok (.getfield 242, 3) := by decide +kernel
theorem dX10_suspects_9 : decode cX10_suspects 9 = .ok (.if_icmp .ge 28, 3) := by decide +kernel
theorem dX10_suspects_12 : decode cX10_suspects 12 = .ok (.aload_n 0, 1) := by decide +kernel
theorem dX10_suspects_13 : decode cX10_suspects 13 = .ok (.getfield 38, 3) := by decide +kernel
theorem dX10_suspects_16 : decode cX10_suspects 16 = .ok (.iload_n 2, 1) := by decide +kernel
theorem dX10_suspects_17 : decode cX10_suspects 17 = .ok (.aaload, 1) := by decide +kernel
theorem dX10_suspects_18 : decode cX10_suspects 18 = .ok (.aload_n 0, 1) := by decide +kernel
theorem dX10_suspects_19 : decode cX10_suspects 19 = .ok (.getfield 12, 3) := by decide +kernel
theorem dX10_suspects_22 : decode cX10_suspects 22 = .ok (.invokevirtual 274, 3) := by decide +kernel
theorem dX10_suspects_25 : decode cX10_suspects 25 = .ok (.ifCond .eq 6, 3) := by decide +kernel
theorem dX10_suspects_28 : decode cX10_suspects 28 = .ok (.iinc 1 1, 3) := by decide +kernel
theorem dX10_suspects_31 : decode cX10_suspects 31 = .ok (.iinc 2 1, 3) := by decide +kernel
theorem dX10_suspects_34 : decode cX10_suspects 34 = .ok (.goto (-30), 3) := by decide +kernel
theorem dX10_suspects_37 : decode cX10_suspects 37 = .ok (.iload_n 1, 1) := by decide +kernel
theorem dX10_suspects_38 : decode cX10_suspects 38 = .ok (.ireturn, 1) := by decide +kernel
set_option maxRecDepth 20000 in
theorem ggX10_suspect_X5_isSuspect : GoodIn wsX10_suspect wsX5_isSuspect := goodIn_r _ [8, 9, 10, 11, 12, 13, 14, 15, 16, 17, 18, 19, 20, 21, 22, 23, 24, 25, 26, 27, 28, 42, 43, 44, 45, 46, 47, 48, 49, 50, 51, 52, 53, 54, 55, 56] (by decide +kernel) (by decide +kernel)
set_option maxRecDepth 20000 in
theorem gX10_suspect_X5_isSuspect : GoodIn wsX10_suspect (wsV RX10 274 RX5 yX5_isSuspect wsX5_isSuspect) := goodIn_app (goodIn_of _ (by decide +kernel)) ggX10_suspect_X5_isSuspect
theorem dX10_suspect_0 : decode cX10_suspect 0 = .ok (.iconst 0, 1) := by decide +kernel
theorem dX10_suspect_1 : decode cX10_suspect 1 = .ok (.istore_n 2, 1) := by decide +kernel
theorem dX10_suspect_2 : decode cX10_suspect 2 = .ok (.iconst 0, 1) := by decide +kernel
theorem dX10_suspect_3 : decode cX10_suspect 3 = .ok (.istore_n 3, 1) := by decide +kernel
theorem dX10_suspect_4 : decode cX10_suspect 4 = .ok (.iload_n 3, 1) := by decide +kernel
theorem dX10_suspect_5 : decode cX10_suspect 5 = .ok (.aload_n 0, 1) := by decide +kernel
theorem dX10_suspect_6 : decode cX10_suspect 6 = .ok (.getfield 242, 3) := by decide +kernel
theorem dX10_suspect_9 : decode cX10_suspect 9 = .ok (.if_icmp .ge 38, 3) := by decide +kernel
theorem dX10_suspect_12 : decode cX10_suspect 12 = .ok (.aload_n 0, 1) := by decide +kernel
theorem dX10_suspect_13 : decode cX10_suspect 13 = .ok (.getfield 38, 3) := by decide +kernel
theorem dX10_suspect_16 : decode cX10_suspect 16 = .ok (.iload_n 3, 1) := by decide +kernel
theorem dX10_suspect_17 : decode cX10_suspect 17 = .ok (.aaload, 1) := by decide +kernel
theorem dX10_suspect_18 : decode cX10_suspect 18 = .ok (.aload_n 0, 1) := by decide +kernel
theorem dX10_suspect_19 : decode cX10_suspect 19 = .ok (.getfield 12, 3) := by decide +kernel
theorem dX10_suspect_22 : decode cX10_suspect 22 = .ok (.invokevirtual 274, 3) := by decide +kernel
theorem dX10_suspect_25 : decode cX10_suspect 25 = .ok (.ifCond .ne 6, 3) := by decide +kernel
theorem dX10_suspect_28 : decode cX10_suspect 28 = .ok (.goto 13, 3) := by decide +kernel
theorem dX10_suspect_31 : decode cX10_suspect 31 = .ok (.iload_n 2, 1) := by decide +kernel
theorem dX10_suspect_32 : decode cX10_suspect 32 = .ok (.iload_n 1, 1) := by decide +kernel
theorem dX10_suspect_33 : decode cX10_suspect 33 = .ok (.if_icmp .ne 5, 3) := by decide +kernel
theorem dX10_suspect_36 : decode cX10_suspect 36 = .ok (.iload_n 3, 1) := by decide +kernel
theorem dX10_suspect_37 : decode cX10_suspect 37 = .ok (.ireturn, 1) := by decide +kernel
theorem dX10_suspect_38 : decode cX10_suspect 38 = .ok (.iinc 2 1, 3) := by decide +kernel
theorem dX10_suspect_41 : decode cX10_suspect 41 = .ok (.iinc 3 1, 3) := by decide +kernel
theorem dX10_suspect_44 : decode cX10_suspect 44 = .ok (.goto (-40), 3) := by decide +kernel
theorem dX10_suspect_47 : decode cX10_suspect 47 = .ok (.iconst (-1), 1) := by decide +kernel
theorem dX10_suspect_48 : decode cX10_suspect 48 = .ok (.ireturn, 1) := by decide +kernel
set_option maxRecDepth 20000 in
theorem ggX10_skill_X10_gangAt : GoodIn wsX10_skill wsX10_gangAt := goodIn_r _ [14, 15, 16, 17, 18, 13, 19, 23, 24, 25, 26, 27, 28, 29, 30, 31, 32, 33, 34, 35] (by decide +kernel) (by decide +kernel)
set_option maxRecDepth 20000 in
theorem gX10_skill_X10_gangAt : GoodIn wsX10_skill (wsV RX10 172 RX10 yX10_gangAt wsX10_gangAt) := goodIn_app (goodIn_of _ (by decide +kernel)) ggX10_skill_X10_gangAt
set_option maxRecDepth 20000 in
theorem ggX10_skill_X10_isWithin : GoodIn wsX10_skill wsX10_isWithin := goodIn_r _ [19] (by decide +kernel) (by decide +kernel)
set_option maxRecDepth 20000 in
theorem gX10_skill_X10_isWithin : GoodIn wsX10_skill (va_wsS RX10 64 yX10_isWithin wsX10_isWithin) := goodIn_app (goodIn_of _ (by decide +kernel)) ggX10_skill_X10_isWithin
set_option maxRecDepth 20000 in
theorem ggX10_skill_X10_commonDivisor : GoodIn wsX10_skill wsX10_commonDivisor := goodIn_r _ [22] (by decide +kernel) (by decide +kernel)
set_option maxRecDepth 20000 in
theorem gX10_skill_X10_commonDivisor : GoodIn wsX10_skill (va_wsS RX10 280 yX10_commonDivisor wsX10_commonDivisor) := goodIn_app (goodIn_of _ (by decide +kernel)) ggX10_skill_X10_commonDivisor
theorem dX10_skill_0 : decode cX10_skill 0 = .ok (.aload_n 0, 1) := by decide +kernel
theorem dX10_skill_1 : decode cX10_skill 1 = .ok (.iload_n 1, 1) := by decide +kernel
theorem dX10_skill_2 : decode cX10_skill 2 = .ok (.invokevirtual 172, 3) := by decide +kernel
theorem dX10_skill_5 : decode cX10_skill 5 = .ok (.astore_n 3, 1) := by decide +kernel
theorem dX10_skill_6 : decode cX10_skill 6 = .ok (.aload_n 3, 1) := by decide +kernel
theorem dX10_skill_7 : decode cX10_skill 7 = .ok (.ifnull 12, 3) := by decide +kernel
theorem dX10_skill_10 : decode cX10_skill 10 = .ok (.iload_n 2, 1) := by decide +kernel
theorem dX10_skill_11 : decode cX10_skill 11 = .ok (.iconst 0, 1) := by decide +kernel
theorem dX10_skill_12 : decode cX10_skill 12 = .ok (.iconst 1, 1) := by decide +kernel
theorem dX10_skill_13 : decode cX10_skill 13 = .ok (.invokestatic 64, 3) := by decide +kernel
theorem dX10_skill_16 : decode cX10_skill 16 = .ok (.ifCond .ne 7, 3) := by decide +kernel
theorem dX10_skill_19 : decode cX10_skill 19 = .ok (.ldc2_w 137, 3) := by decide +kernel
theorem dX10_skill_22 : decode cX10_skill 22 = .ok (.lreturn, 1) := by decide +kernel
theorem dX10_skill_23 : decode cX10_skill 23 = .ok (.lconst 0, 1) := by decide +kernel
theorem dX10_skill_24 : decode cX10_skill 24 = .ok (.lstore 4, 2) := by decide +kernel
theorem dX10_skill_26 : decode cX10_skill 26 = .ok (.lconst 0, 1) := by decide +kernel
theorem dX10_skill_27 : decode cX10_skill 27 = .ok (.lstore 6, 2) := by decide +kernel
theorem dX10_skill_29 : decode cX10_skill 29 = .ok (.iconst 0, 1) := by decide +kernel
theorem dX10_skill_30 : decode cX10_skill 30 = .ok (.istore 8, 2) := by decide +kernel
theorem dX10_skill_32 : decode cX10_skill 32 = .ok (.iload 8, 2) := by decide +kernel
theorem dX10_skill_34 : decode cX10_skill 34 = .ok (.aload_n 0, 1) := by decide +kernel
theorem dX10_skill_35 : decode cX10_skill 35 = .ok (.getfield 197, 3) := by decide +kernel
theorem dX10_skill_38 : decode cX10_skill 38 = .ok (.if_icmp .ge 78, 3) := by decide +kernel
theorem dX10_skill_41 : decode cX10_skill 41 = .ok (.aload_n 0, 1) := by decide +kernel
theorem dX10_skill_42 : decode cX10_skill 42 = .ok (.getfield 32, 3) := by decide +kernel
theorem dX10_skill_45 : decode cX10_skill 45 = .ok (.iload 8, 2) := by decide +kernel
theorem dX10_skill_47 : decode cX10_skill 47 = .ok (.aaload, 1) := by decide +kernel
theorem dX10_skill_48 : decode cX10_skill 48 = .ok (.astore 9, 2) := by decide +kernel
theorem dX10_skill_50 : decode cX10_skill 50 = .ok (.aload 9, 2) := by decide +kernel
theorem dX10_skill_52 : decode cX10_skill 52 = .ok (.getfield 265, 3) := by decide +kernel
theorem dX10_skill_55 : decode cX10_skill 55 = .ok (.aload_n 3, 1) := by decide +kernel
theorem dX10_skill_56 : decode cX10_skill 56 = .ok (.if_acmp .ne 54, 3) := by decide +kernel
theorem dX10_skill_59 : decode cX10_skill 59 = .ok (.aload 9, 2) := by decide +kernel
theorem dX10_skill_61 : decode cX10_skill 61 = .ok (.getfield 238, 3) := by decide +kernel
theorem dX10_skill_64 : decode cX10_skill 64 = .ok (.ifCond .ne 6, 3) := by decide +kernel
theorem dX10_skill_67 : decode cX10_skill 67 = .ok (.goto 43, 3) := by decide +kernel
theorem dX10_skill_70 : decode cX10_skill 70 = .ok (.aload 9, 2) := by decide +kernel
theorem dX10_skill_72 : decode cX10_skill 72 = .ok (.getfield 203, 3) := by decide +kernel
theorem dX10_skill_75 : decode cX10_skill 75 = .ok (.aload 9, 2) := by decide +kernel
theorem dX10_skill_77 : decode cX10_skill 77 = .ok (.getfield 207, 3) := by decide +kernel
theorem dX10_skill_80 : decode cX10_skill 80 = .ok (.ladd, 1) := by decide +kernel
theorem dX10_skill_81 : decode cX10_skill 81 = .ok (.lstore 10, 2) := by decide +kernel
theorem dX10_skill_83 : decode cX10_skill 83 = .ok (.lload 4, 2) := by decide +kernel
theorem dX10_skill_85 : decode cX10_skill 85 = .ok (.lload 10, 2) := by decide +kernel
theorem dX10_skill_87 : decode cX10_skill 87 = .ok (.ldc2_w 278, 3) := by decide +kernel
theorem dX10_skill_90 : decode cX10_skill 90 = .ok (.aload 9, 2) := by decide +kernel
theorem dX10_skill_92 : decode cX10_skill 92 = .ok (.getfield 249, 3) := by decide +kernel
theorem dX10_skill_95 : decode cX10_skill 95 = .ok (.lmul, 1) := by decide +kernel
theorem dX10_skill_96 : decode cX10_skill 96 = .ok (.lmul, 1) := by decide +kernel
theorem dX10_skill_97 : decode cX10_skill 97 = .ok (.ladd, 1) := by decide +kernel
theorem dX10_skill_98 : decode cX10_skill 98 = .ok (.lstore 4, 2) := by decide +kernel
theorem dX10_skill_100 : decode cX10_skill 100 = .ok (.lload 6, 2) := by decide +kernel
theorem dX10_skill_102 : decode cX10_skill 102 = .ok (.lload 10, 2) := by decide +kernel
theorem dX10_skill_104 : decode cX10_skill 104 = .ok (.lload 10, 2) := by decide +kernel
theorem dX10_skill_106 : decode cX10_skill 106 = .ok (.lmul, 1) := by decide +kernel
theorem dX10_skill_107 : decode cX10_skill 107 = .ok (.ladd, 1) := by decide +kernel
theorem dX10_skill_108 : decode cX10_skill 108 = .ok (.lstore 6, 2) := by decide +kernel
theorem dX10_skill_110 : decode cX10_skill 110 = .ok (.iinc 8 1, 3) := by decide +kernel
theorem dX10_skill_113 : decode cX10_skill 113 = .ok (.goto (-81), 3) := by decide +kernel
theorem dX10_skill_116 : decode cX10_skill 116 = .ok (.lload 4, 2) := by decide +kernel
theorem dX10_skill_118 : decode cX10_skill 118 = .ok (.lload 6, 2) := by decide +kernel
theorem dX10_skill_120 : decode cX10_skill 120 = .ok (.invokestatic 280, 3) := by decide +kernel
theorem dX10_skill_123 : decode cX10_skill 123 = .ok (.lstore 8, 2) := by decide +kernel
theorem dX10_skill_125 : decode cX10_skill 125 = .ok (.lload 8, 2) := by decide +kernel
theorem dX10_skill_127 : decode cX10_skill 127 = .ok (.lconst 0, 1) := by decide +kernel
theorem dX10_skill_128 : decode cX10_skill 128 = .ok (.lcmp, 1) := by decide +kernel
theorem dX10_skill_129 : decode cX10_skill 129 = .ok (.ifCond .ne 13, 3) := by decide +kernel
theorem dX10_skill_132 : decode cX10_skill 132 = .ok (.iload_n 2, 1) := by decide +kernel
theorem dX10_skill_133 : decode cX10_skill 133 = .ok (.ifCond .ne 7, 3) := by decide +kernel
theorem dX10_skill_136 : decode cX10_skill 136 = .ok (.lconst 0, 1) := by decide +kernel
theorem dX10_skill_137 : decode cX10_skill 137 = .ok (.goto 4, 3) := by decide +kernel
theorem dX10_skill_140 : decode cX10_skill 140 = .ok (.lconst 1, 1) := by decide +kernel
theorem dX10_skill_141 : decode cX10_skill 141 = .ok (.lreturn, 1) := by decide +kernel
theorem dX10_skill_142 : decode cX10_skill 142 = .ok (.iload_n 2, 1) := by decide +kernel
theorem dX10_skill_143 : decode cX10_skill 143 = .ok (.ifCond .ne 11, 3) := by decide +kernel
theorem dX10_skill_146 : decode cX10_skill 146 = .ok (.lload 4, 2) := by decide +kernel
theorem dX10_skill_148 : decode cX10_skill 148 = .ok (.lload 8, 2) := by decide +kernel
theorem dX10_skill_150 : decode cX10_skill 150 = .ok (.ldiv, 1) := by decide +kernel
theorem dX10_skill_151 : decode cX10_skill 151 = .ok (.goto 8, 3) := by decide +kernel
theorem dX10_skill_154 : decode cX10_skill 154 = .ok (.lload 6, 2) := by decide +kernel
theorem dX10_skill_156 : decode cX10_skill 156 = .ok (.lload 8, 2) := by decide +kernel
theorem dX10_skill_158 : decode cX10_skill 158 = .ok (.ldiv, 1) := by decide +kernel
theorem dX10_skill_159 : decode cX10_skill 159 = .ok (.lreturn, 1) := by decide +kernel
theorem dX10_commonDivisor_0 : decode cX10_commonDivisor 0 = .ok (.lload_n 0, 1) := by decide +kernel
theorem dX10_commonDivisor_1 : decode cX10_commonDivisor 1 = .ok (.lstore 4, 2) := by decide +kernel
theorem dX10_commonDivisor_3 : decode cX10_commonDivisor 3 = .ok (.lload_n 2, 1) := by decide +kernel
theorem dX10_commonDivisor_4 : decode cX10_commonDivisor 4 = .ok (.lstore 6, 2) := by decide +kernel
theorem dX10_commonDivisor_6 : decode cX10_commonDivisor 6 = .ok (.iconst 0, 1) := by decide +kernel
theorem dX10_commonDivisor_7 : decode cX10_commonDivisor 7 = .ok (.istore 8, 2) := by decide +kernel
theorem dX10_commonDivisor_9 : decode cX10_commonDivisor 9 = .ok (.iload 8, 2) := by decide +kernel
theorem dX10_commonDivisor_11 : decode cX10_commonDivisor 11 = .ok (.sipush 128, 3) := by decide +kernel
theorem dX10_commonDivisor_14 : decode cX10_commonDivisor 14 = .ok (.if_icmp .ge 31, 3) := by decide +kernel
theorem dX10_commonDivisor_17 : decode cX10_commonDivisor 17 = .ok (.lload 6, 2) := by decide +kernel
theorem dX10_commonDivisor_19 : decode cX10_commonDivisor 19 = .ok (.lconst 0, 1) := by decide +kernel
theorem dX10_commonDivisor_20 : decode cX10_commonDivisor 20 = .ok (.lcmp, 1) := by decide +kernel
theorem dX10_commonDivisor_21 : decode cX10_commonDivisor 21 = .ok (.ifCond .eq 24, 3) := by decide +kernel
theorem dX10_commonDivisor_24 : decode cX10_commonDivisor 24 = .ok (.lload 4, 2) := by decide +kernel
theorem dX10_commonDivisor_26 : decode cX10_commonDivisor 26 = .ok (.lload 6, 2) := by decide +kernel
theorem dX10_commonDivisor_28 : decode cX10_commonDivisor 28 = .ok (.lrem, 1) := by decide +kernel
theorem dX10_commonDivisor_29 : decode cX10_commonDivisor 29 = .ok (.lstore 9, 2) := by decide +kernel
theorem dX10_commonDivisor_31 : decode cX10_commonDivisor 31 = .ok (.lload 6, 2) := by decide +kernel
theorem dX10_commonDivisor_33 : decode cX10_commonDivisor 33 = .ok (.lstore 4, 2) := by decide +kernel
theorem dX10_commonDivisor_35 : decode cX10_commonDivisor 35 = .ok (.lload 9, 2) := by decide +kernel
theorem dX10_commonDivisor_37 : decode cX10_commonDivisor 37 = .ok (.lstore 6, 2) := by decide +kernel
theorem dX10_commonDivisor_39 : decode cX10_commonDivisor 39 = .ok (.iinc 8 1, 3) := by decide +kernel
theorem dX10_commonDivisor_42 : decode cX10_commonDivisor 42 = .ok (.goto (-33), 3) := by decide +kernel
theorem dX10_commonDivisor_45 : decode cX10_commonDivisor 45 = .ok (.lload 4, 2) := by decide +kernel
theorem dX10_commonDivisor_47 : decode cX10_commonDivisor 47 = .ok (.lreturn, 1) := by decide +kernel
set_option maxRecDepth 20000 in
theorem ggX10_sheet_X10_sheetAt : GoodIn wsX10_sheet wsX10_sheetAt := goodIn_r _ [6, 7, 8, 9, 5, 10, 30, 31, 32, 33, 34, 35, 36, 37, 38, 39, 40, 41, 42] (by decide +kernel) (by decide +kernel)
set_option maxRecDepth 20000 in
theorem gX10_sheet_X10_sheetAt : GoodIn wsX10_sheet (wsV RX10 93 RX10 yX10_sheetAt wsX10_sheetAt) := goodIn_app (goodIn_of _ (by decide +kernel)) ggX10_sheet_X10_sheetAt
set_option maxRecDepth 20000 in
theorem ggX10_sheet_X7_isLane : GoodIn wsX10_sheet wsX7_isLane := goodIn_r _ [14, 9, 5, 10] (by decide +kernel) (by decide +kernel)
set_option maxRecDepth 20000 in
theorem gX10_sheet_X7_isLane : GoodIn wsX10_sheet (va_wsS RX10 97 yX7_isLane wsX7_isLane) := goodIn_app (goodIn_of _ (by decide +kernel)) ggX10_sheet_X7_isLane
set_option maxRecDepth 20000 in
theorem ggX10_sheet_X10_faulted : GoodIn wsX10_sheet wsX10_faulted := goodIn_r _ [18, 1, 30, 31, 32, 33, 34, 35, 36, 37, 38, 39, 40, 41, 42] (by decide +kernel) (by decide +kernel)
set_option maxRecDepth 20000 in
theorem gX10_sheet_X10_faulted : GoodIn wsX10_sheet (wsV RX10 105 RX10 yX10_faulted wsX10_faulted) := goodIn_app (goodIn_of _ (by decide +kernel)) ggX10_sheet_X10_faulted
set_option maxRecDepth 20000 in
theorem ggX10_sheet_X7_renew : GoodIn wsX10_sheet wsX7_renew := goodIn_r _ [22, 23, 24, 25, 26, 27, 28, 29, 43, 44, 45] (by decide +kernel) (by decide +kernel)
set_option maxRecDepth 20000 in
theorem gX10_sheet_X7_renew : GoodIn wsX10_sheet (wsV RX10 284 RX7 yX7_renew wsX7_renew) := goodIn_app (goodIn_of _ (by decide +kernel)) ggX10_sheet_X7_renew
theorem dX10_sheet_0 : decode cX10_sheet 0 = .ok (.aload_n 0, 1) := by decide +kernel
theorem dX10_sheet_1 : decode cX10_sheet 1 = .ok (.iconst 0, 1) := by decide +kernel
theorem dX10_sheet_2 : decode cX10_sheet 2 = .ok (.putfield 56, 3) := by decide +kernel
theorem dX10_sheet_5 : decode cX10_sheet 5 = .ok (.aload_n 0, 1) := by decide +kernel
theorem dX10_sheet_6 : decode cX10_sheet 6 = .ok (.iload_n 1, 1) := by decide +kernel
theorem dX10_sheet_7 : decode cX10_sheet 7 = .ok (.invokevirtual 93, 3) := by decide +kernel
theorem dX10_sheet_10 : decode cX10_sheet 10 = .ok (.astore 4, 2) := by decide +kernel
theorem dX10_sheet_12 : decode cX10_sheet 12 = .ok (.aload 4, 2) := by decide +kernel
theorem dX10_sheet_14 : decode cX10_sheet 14 = .ok (.ifnonnull 5, 3) := by decide +kernel
theorem dX10_sheet_17 : decode cX10_sheet 17 = .ok (.iconst (-1), 1) := by decide +kernel
theorem dX10_sheet_18 : decode cX10_sheet 18 = .ok (.ireturn, 1) := by decide +kernel
theorem dX10_sheet_19 : decode cX10_sheet 19 = .ok (.iload_n 2, 1) := by decide +kernel
theorem dX10_sheet_20 : decode cX10_sheet 20 = .ok (.invokestatic 97, 3) := by decide +kernel
theorem dX10_sheet_23 : decode cX10_sheet 23 = .ok (.ifCond .eq 9, 3) := by decide +kernel
theorem dX10_sheet_26 : decode cX10_sheet 26 = .ok (.iload_n 3, 1) := by decide +kernel
theorem dX10_sheet_27 : decode cX10_sheet 27 = .ok (.bipush 48, 2) := by decide +kernel
theorem dX10_sheet_29 : decode cX10_sheet 29 = .ok (.if_icmp .le 6, 3) := by decide +kernel
theorem dX10_sheet_32 : decode cX10_sheet 32 = .ok (.bipush (-2), 2) := by decide +kernel
theorem dX10_sheet_34 : decode cX10_sheet 34 = .ok (.ireturn, 1) := by decide +kernel
theorem dX10_sheet_35 : decode cX10_sheet 35 = .ok (.iload_n 3, 1) := by decide +kernel
theorem dX10_sheet_36 : decode cX10_sheet 36 = .ok (.ifCond .ge 9, 3) := by decide +kernel
theorem dX10_sheet_39 : decode cX10_sheet 39 = .ok (.aload_n 0, 1) := by decide +kernel
theorem dX10_sheet_40 : decode cX10_sheet 40 = .ok (.iconst 4, 1) := by decide +kernel
theorem dX10_sheet_41 : decode cX10_sheet 41 = .ok (.invokevirtual 105, 3) := by decide +kernel
theorem dX10_sheet_44 : decode cX10_sheet 44 = .ok (.ireturn, 1) := by decide +kernel
theorem dX10_sheet_45 : decode cX10_sheet 45 = .ok (.aload 4, 2) := by decide +kernel
theorem dX10_sheet_47 : decode cX10_sheet 47 = .ok (.iload_n 2, 1) := by decide +kernel
theorem dX10_sheet_48 : decode cX10_sheet 48 = .ok (.iload_n 3, 1) := by decide +kernel
theorem dX10_sheet_49 : decode cX10_sheet 49 = .ok (.invokevirtual 284, 3) := by decide +kernel
theorem dX10_sheet_52 : decode cX10_sheet 52 = .ok (.iconst 1, 1) := by decide +kernel
theorem dX10_sheet_53 : decode cX10_sheet 53 = .ok (.ireturn, 1) := by decide +kernel
set_option maxRecDepth 20000 in
theorem ggX10_lose_X10_sheetAt : GoodIn wsX10_lose wsX10_sheetAt := goodIn_r _ [5, 6, 7, 8, 4, 9, 26, 27, 28, 29, 30, 31, 32, 33, 34, 35, 36, 37, 38] (by decide +kernel) (by decide +kernel)
set_option maxRecDepth 20000 in
theorem gX10_lose_X10_sheetAt : GoodIn wsX10_lose (wsV RX10 93 RX10 yX10_sheetAt wsX10_sheetAt) := goodIn_app (goodIn_of _ (by decide +kernel)) ggX10_lose_X10_sheetAt
set_option maxRecDepth 20000 in
theorem ggX10_lose_X7_hasNothing : GoodIn wsX10_lose wsX7_hasNothing := goodIn_r _ [14, 15, 39, 40, 41] (by decide +kernel) (by decide +kernel)
set_option maxRecDepth 20000 in
theorem gX10_lose_X7_hasNothing : GoodIn wsX10_lose (wsV RX10 288 RX7 yX7_hasNothing wsX7_hasNothing) := goodIn_app (goodIn_of _ (by decide +kernel)) ggX10_lose_X7_hasNothing
set_option maxRecDepth 20000 in
theorem ggX10_lose_X7_renew : GoodIn wsX10_lose wsX7_renew := goodIn_r _ [19, 20, 15, 21, 22, 23, 24, 25, 39, 40, 41] (by decide +kernel) (by decide +kernel)
set_option maxRecDepth 20000 in
theorem gX10_lose_X7_renew : GoodIn wsX10_lose (wsV RX10 284 RX7 yX7_renew wsX7_renew) := goodIn_app (goodIn_of _ (by decide +kernel)) ggX10_lose_X7_renew
theorem dX10_lose_0 : decode cX10_lose 0 = .ok (.aload_n 0, 1) := by decide +kernel
theorem dX10_lose_1 : decode cX10_lose 1 = .ok (.iload_n 1, 1) := by decide +kernel
theorem dX10_lose_2 : decode cX10_lose 2 = .ok (.invokevirtual 93, 3) := by decide +kernel
theorem dX10_lose_5 : decode cX10_lose 5 = .ok (.astore_n 2, 1) := by decide +kernel
theorem dX10_lose_6 : decode cX10_lose 6 = .ok (.aload_n 2, 1) := by decide +kernel
theorem dX10_lose_7 : decode cX10_lose 7 = .ok (.ifnonnull 5, 3) := by decide +kernel
theorem dX10_lose_10 : decode cX10_lose 10 = .ok (.iconst (-1), 1) := by decide +kernel
theorem dX10_lose_11 : decode cX10_lose 11 = .ok (.ireturn, 1) := by decide +kernel
theorem dX10_lose_12 : decode cX10_lose 12 = .ok (.aload_n 2, 1) := by decide +kernel
theorem dX10_lose_13 : decode cX10_lose 13 = .ok (.invokevirtual 288, 3) := by decide +kernel
theorem dX10_lose_16 : decode cX10_lose 16 = .ok (.ifCond .eq 5, 3) := by decide +kernel
theorem dX10_lose_19 : decode cX10_lose 19 = .ok (.iconst 0, 1) := by decide +kernel
theorem dX10_lose_20 : decode cX10_lose 20 = .ok (.ireturn, 1) := by decide +kernel
theorem dX10_lose_21 : decode cX10_lose 21 = .ok (.aload_n 2, 1) := by decide +kernel
theorem dX10_lose_22 : decode cX10_lose 22 = .ok (.iconst (-1), 1) := by decide +kernel
theorem dX10_lose_23 : decode cX10_lose 23 = .ok (.iconst 0, 1) := by decide +kernel
theorem dX10_lose_24 : decode cX10_lose 24 = .ok (.invokevirtual 284, 3) := by decide +kernel
theorem dX10_lose_27 : decode cX10_lose 27 = .ok (.iconst 1, 1) := by decide +kernel
theorem dX10_lose_28 : decode cX10_lose 28 = .ok (.ireturn, 1) := by decide +kernel
end
section
set_option maxRecDepth 20000 in
theorem ggX10_put_X10_sheetAt : GoodIn wsX10_put wsX10_sheetAt := goodIn_r _ [7, 8, 9, 10, 6, 11, 31, 32, 33, 34, 35, 36, 37, 38, 39, 40, 41, 42, 43] (by decide +kernel) (by decide +kernel)
set_option maxRecDepth 20000 in
theorem gX10_put_X10_sheetAt : GoodIn wsX10_put (wsV RX10 93 RX10 yX10_sheetAt wsX10_sheetAt) := goodIn_app (goodIn_of _ (by decide +kernel)) ggX10_put_X10_sheetAt
set_option maxRecDepth 20000 in
theorem ggX10_put_X7_hasNothing : GoodIn wsX10_put wsX7_hasNothing := goodIn_r _ [16, 17, 44, 45, 46] (by decide +kernel) (by decide +kernel)
set_option maxRecDepth 20000 in
theorem gX10_put_X7_hasNothing : GoodIn wsX10_put (wsV RX10 288 RX7 yX7_hasNothing wsX7_hasNothing) := goodIn_app (goodIn_of _ (by decide +kernel)) ggX10_put_X7_hasNothing
set_option maxRecDepth 20000 in
theorem ggX10_put_X10_faulted : GoodIn wsX10_put wsX10_faulted := goodIn_r _ [21, 1, 31, 32, 33, 34, 35, 36, 37, 38, 39, 40, 41, 42, 43] (by decide +kernel) (by decide +kernel)
set_option maxRecDepth 20000 in
theorem gX10_put_X10_faulted : GoodIn wsX10_put (wsV RX10 105 RX10 yX10_faulted wsX10_faulted) := goodIn_app (goodIn_of _ (by decide +kernel)) ggX10_put_X10_faulted
set_option maxRecDepth 20000 in
theorem ggX10_put_X7_holds : GoodIn wsX10_put wsX7_holds := goodIn_r _ [25, 26, 44, 45, 46] (by decide +kernel) (by decide +kernel)
set_option maxRecDepth 20000 in
theorem gX10_put_X7_holds : GoodIn wsX10_put (wsV RX10 117 RX7 yX7_holds wsX7_holds) := goodIn_app (goodIn_of _ (by decide +kernel)) ggX10_put_X7_holds
set_option maxRecDepth 20000 in
theorem ggX10_put_X7_cut : GoodIn wsX10_put wsX7_cut := goodIn_r _ [30, 17, 44, 45, 46] (by decide +kernel) (by decide +kernel)
set_option maxRecDepth 20000 in
theorem gX10_put_X7_cut : GoodIn wsX10_put (wsV RX10 292 RX7 yX7_cut wsX7_cut) := goodIn_app (goodIn_of _ (by decide +kernel)) ggX10_put_X7_cut
theorem dX10_put_0 : decode cX10_put 0 = .ok (.aload_n 0, 1) := by decide +kernel
theorem dX10_put_1 : decode cX10_put 1 = .ok (.iconst 0, 1) := by decide +kernel
theorem dX10_put_2 : decode cX10_put 2 = .ok (.putfield 56, 3) := by decide +kernel
theorem dX10_put_5 : decode cX10_put 5 = .ok (.aload_n 0, 1) := by decide +kernel
theorem dX10_put_6 : decode cX10_put 6 = .ok (.iload_n 1, 1) := by decide +kernel
theorem dX10_put_7 : decode cX10_put 7 = .ok (.invokevirtual 93, 3) := by decide +kernel
theorem dX10_put_10 : decode cX10_put 10 = .ok (.astore 4, 2) := by decide +kernel
theorem dX10_put_12 : decode cX10_put 12 = .ok (.aload 4, 2) := by decide +kernel
theorem dX10_put_14 : decode cX10_put 14 = .ok (.ifnonnull 5, 3) := by decide +kernel
theorem dX10_put_17 : decode cX10_put 17 = .ok (.iconst (-1), 1) := by decide +kernel
theorem dX10_put_18 : decode cX10_put 18 = .ok (.ireturn, 1) := by decide +kernel
theorem dX10_put_19 : decode cX10_put 19 = .ok (.aload 4, 2) := by decide +kernel
theorem dX10_put_21 : decode cX10_put 21 = .ok (.invokevirtual 288, 3) := by decide +kernel
theorem dX10_put_24 : decode cX10_put 24 = .ok (.ifCond .eq 9, 3) := by decide +kernel
theorem dX10_put_27 : decode cX10_put 27 = .ok (.aload_n 0, 1) := by decide +kernel
theorem dX10_put_28 : decode cX10_put 28 = .ok (.iconst 1, 1) := by decide +kernel
theorem dX10_put_29 : decode cX10_put 29 = .ok (.invokevirtual 105, 3) := by decide +kernel
theorem dX10_put_32 : decode cX10_put 32 = .ok (.ireturn, 1) := by decide +kernel
theorem dX10_put_33 : decode cX10_put 33 = .ok (.aload 4, 2) := by decide +kernel
theorem dX10_put_35 : decode cX10_put 35 = .ok (.iload_n 2, 1) := by decide +kernel
theorem dX10_put_36 : decode cX10_put 36 = .ok (.iconst 1, 1) := by decide +kernel
theorem dX10_put_37 : decode cX10_put 37 = .ok (.invokevirtual 117, 3) := by decide +kernel
theorem dX10_put_40 : decode cX10_put 40 = .ok (.ifCond .ne 9, 3) := by decide +kernel
theorem dX10_put_43 : decode cX10_put 43 = .ok (.aload_n 0, 1) := by decide +kernel
theorem dX10_put_44 : decode cX10_put 44 = .ok (.iconst 3, 1) := by decide +kernel
theorem dX10_put_45 : decode cX10_put 45 = .ok (.invokevirtual 105, 3) := by decide +kernel
theorem dX10_put_48 : decode cX10_put 48 = .ok (.ireturn, 1) := by decide +kernel
theorem dX10_put_49 : decode cX10_put 49 = .ok (.aload 4, 2) := by decide +kernel
theorem dX10_put_51 : decode cX10_put 51 = .ok (.getfield 111, 3) := by decide +kernel
theorem dX10_put_54 : decode cX10_put 54 = .ok (.iload_n 2, 1) := by decide +kernel
theorem dX10_put_55 : decode cX10_put 55 = .ok (.aload 4, 2) := by decide +kernel
theorem dX10_put_57 : decode cX10_put 57 = .ok (.iload_n 3, 1) := by decide +kernel
theorem dX10_put_58 : decode cX10_put 58 = .ok (.invokevirtual 292, 3) := by decide +kernel
theorem dX10_put_61 : decode cX10_put 61 = .ok (.iastore, 1) := by decide +kernel
theorem dX10_put_62 : decode cX10_put 62 = .ok (.iconst 1, 1) := by decide +kernel
theorem dX10_put_63 : decode cX10_put 63 = .ok (.ireturn, 1) := by decide +kernel
set_option maxRecDepth 20000 in
theorem ggX10_cell_X10_sheetAt : GoodIn wsX10_cell wsX10_sheetAt := goodIn_r _ [8, 9, 10, 11, 7, 12, 31, 32, 33, 34, 35, 36, 37, 38, 39, 40, 41, 42, 43] (by decide +kernel) (by decide +kernel)
set_option maxRecDepth 20000 in
theorem gX10_cell_X10_sheetAt : GoodIn wsX10_cell (wsV RX10 93 RX10 yX10_sheetAt wsX10_sheetAt) := goodIn_app (goodIn_of _ (by decide +kernel)) ggX10_cell_X10_sheetAt
set_option maxRecDepth 20000 in
theorem ggX10_cell_X7_isLane : GoodIn wsX10_cell wsX7_isLane := goodIn_r _ [16, 11, 7, 12] (by decide +kernel) (by decide +kernel)
set_option maxRecDepth 20000 in
theorem gX10_cell_X7_isLane : GoodIn wsX10_cell (va_wsS RX10 97 yX7_isLane wsX7_isLane) := goodIn_app (goodIn_of _ (by decide +kernel)) ggX10_cell_X7_isLane
set_option maxRecDepth 20000 in
theorem ggX10_cell_X7_faultAs : GoodIn wsX10_cell wsX7_faultAs := goodIn_r _ [20, 21, 22, 23, 24, 15, 25, 44, 45, 46] (by decide +kernel) (by decide +kernel)
set_option maxRecDepth 20000 in
theorem gX10_cell_X7_faultAs : GoodIn wsX10_cell (wsV RX10 114 RX7 yX7_faultAs wsX7_faultAs) := goodIn_app (goodIn_of _ (by decide +kernel)) ggX10_cell_X7_faultAs
set_option maxRecDepth 20000 in
theorem ggX10_cell_X7_holds : GoodIn wsX10_cell wsX7_holds := goodIn_r _ [29, 30, 44, 45, 46] (by decide +kernel) (by decide +kernel)
set_option maxRecDepth 20000 in
theorem gX10_cell_X7_holds : GoodIn wsX10_cell (wsV RX10 117 RX7 yX7_holds wsX7_holds) := goodIn_app (goodIn_of _ (by decide +kernel)) ggX10_cell_X7_holds
theorem dX10_cell_0 : decode cX10_cell 0 = .ok (.aload_n 0, 1) := by decide +kernel
theorem dX10_cell_1 : decode cX10_cell 1 = .ok (.iconst 0, 1) := by decide +kernel
theorem dX10_cell_2 : decode cX10_cell 2 = .ok (.putfield 56, 3) := by decide +kernel
theorem dX10_cell_5 : decode cX10_cell 5 = .ok (.aload_n 0, 1) := by decide +kernel
theorem dX10_cell_6 : decode cX10_cell 6 = .ok (.iload_n 1, 1) := by decide +kernel
theorem dX10_cell_7 : decode cX10_cell 7 = .ok (.invokevirtual 93, 3) := by decide +kernel
theorem dX10_cell_10 : decode cX10_cell 10 = .ok (.astore 4, 2) := by decide +kernel
theorem dX10_cell_12 : decode cX10_cell 12 = .ok (.aload 4, 2) := by decide +kernel
theorem dX10_cell_14 : decode cX10_cell 14 = .ok (.ifnull 10, 3) := by decide +kernel
theorem dX10_cell_17 : decode cX10_cell 17 = .ok (.iload_n 3, 1) := by decide +kernel
theorem dX10_cell_18 : decode cX10_cell 18 = .ok (.invokestatic 97, 3) := by decide +kernel
theorem dX10_cell_21 : decode cX10_cell 21 = .ok (.ifCond .ne 7, 3) := by decide +kernel
theorem dX10_cell_24 : decode cX10_cell 24 = .ok (.ldc2_w 137, 3) := by decide +kernel
theorem dX10_cell_27 : decode cX10_cell 27 = .ok (.lreturn, 1) := by decide +kernel
theorem dX10_cell_28 : decode cX10_cell 28 = .ok (.aload_n 0, 1) := by decide +kernel
theorem dX10_cell_29 : decode cX10_cell 29 = .ok (.aload 4, 2) := by decide +kernel
theorem dX10_cell_31 : decode cX10_cell 31 = .ok (.iload_n 3, 1) := by decide +kernel
theorem dX10_cell_32 : decode cX10_cell 32 = .ok (.invokevirtual 114, 3) := by decide +kernel
theorem dX10_cell_35 : decode cX10_cell 35 = .ok (.putfield 56, 3) := by decide +kernel
theorem dX10_cell_38 : decode cX10_cell 38 = .ok (.aload_n 0, 1) := by decide +kernel
theorem dX10_cell_39 : decode cX10_cell 39 = .ok (.getfield 56, 3) := by decide +kernel
theorem dX10_cell_42 : decode cX10_cell 42 = .ok (.ifCond .ne 18, 3) := by decide +kernel
theorem dX10_cell_45 : decode cX10_cell 45 = .ok (.aload 4, 2) := by decide +kernel
theorem dX10_cell_47 : decode cX10_cell 47 = .ok (.iload_n 2, 1) := by decide +kernel
theorem dX10_cell_48 : decode cX10_cell 48 = .ok (.iconst 1, 1) := by decide +kernel
theorem dX10_cell_49 : decode cX10_cell 49 = .ok (.invokevirtual 117, 3) := by decide +kernel
theorem dX10_cell_52 : decode cX10_cell 52 = .ok (.ifCond .ne 8, 3) := by decide +kernel
theorem dX10_cell_55 : decode cX10_cell 55 = .ok (.aload_n 0, 1) := by decide +kernel
theorem dX10_cell_56 : decode cX10_cell 56 = .ok (.iconst 3, 1) := by decide +kernel
theorem dX10_cell_57 : decode cX10_cell 57 = .ok (.putfield 56, 3) := by decide +kernel
theorem dX10_cell_60 : decode cX10_cell 60 = .ok (.aload_n 0, 1) := by decide +kernel
theorem dX10_cell_61 : decode cX10_cell 61 = .ok (.getfield 56, 3) := by decide +kernel
theorem dX10_cell_64 : decode cX10_cell 64 = .ok (.ifCond .ne 14, 3) := by decide +kernel
theorem dX10_cell_67 : decode cX10_cell 67 = .ok (.aload 4, 2) := by decide +kernel
theorem dX10_cell_69 : decode cX10_cell 69 = .ok (.getfield 111, 3) := by decide +kernel
theorem dX10_cell_72 : decode cX10_cell 72 = .ok (.iload_n 2, 1) := by decide +kernel
theorem dX10_cell_73 : decode cX10_cell 73 = .ok (.iaload, 1) := by decide +kernel
theorem dX10_cell_74 : decode cX10_cell 74 = .ok (.i2l, 1) := by decide +kernel
theorem dX10_cell_75 : decode cX10_cell 75 = .ok (.goto 6, 3) := by decide +kernel
theorem dX10_cell_78 : decode cX10_cell 78 = .ok (.ldc2_w 137, 3) := by decide +kernel
theorem dX10_cell_81 : decode cX10_cell 81 = .ok (.lreturn, 1) := by decide +kernel
set_option maxRecDepth 20000 in
theorem ggX10_copy_X10_sheetAt : GoodIn wsX10_copy wsX10_sheetAt := goodIn_r _ [12, 13, 14, 15, 11, 16, 32, 33, 34, 35, 36, 37, 38, 39, 40, 41, 42, 43, 44] (by decide +kernel) (by decide +kernel)
set_option maxRecDepth 20000 in
theorem gX10_copy_X10_sheetAt : GoodIn wsX10_copy (wsV RX10 93 RX10 yX10_sheetAt wsX10_sheetAt) := goodIn_app (goodIn_of _ (by decide +kernel)) ggX10_copy_X10_sheetAt
set_option maxRecDepth 20000 in
theorem ggX10_copy_X7_hasNothing : GoodIn wsX10_copy wsX7_hasNothing := goodIn_r _ [21, 22, 45, 46, 47] (by decide +kernel) (by decide +kernel)
set_option maxRecDepth 20000 in
theorem gX10_copy_X7_hasNothing : GoodIn wsX10_copy (wsV RX10 288 RX7 yX7_hasNothing wsX7_hasNothing) := goodIn_app (goodIn_of _ (by decide +kernel)) ggX10_copy_X7_hasNothing
set_option maxRecDepth 20000 in
theorem ggX10_copy_X10_faulted : GoodIn wsX10_copy wsX10_faulted := goodIn_r _ [26, 1, 32, 33, 34, 35, 36, 37, 38, 39, 40, 41, 42, 43, 44] (by decide +kernel) (by decide +kernel)
set_option maxRecDepth 20000 in
theorem gX10_copy_X10_faulted : GoodIn wsX10_copy (wsV RX10 105 RX10 yX10_faulted wsX10_faulted) := goodIn_app (goodIn_of _ (by decide +kernel)) ggX10_copy_X10_faulted
set_option maxRecDepth 20000 in
theorem ggX10_copy_X7_holds : GoodIn wsX10_copy wsX7_holds := goodIn_r _ [30, 31, 45, 46, 47] (by decide +kernel) (by decide +kernel)
set_option maxRecDepth 20000 in
theorem gX10_copy_X7_holds : GoodIn wsX10_copy (wsV RX10 117 RX7 yX7_holds wsX7_holds) := goodIn_app (goodIn_of _ (by decide +kernel)) ggX10_copy_X7_holds
theorem dX10_copy_0 : decode cX10_copy 0 = .ok (.aload_n 0, 1) := by decide +kernel
theorem dX10_copy_1 : decode cX10_copy 1 = .ok (.iconst 0, 1) := by decide +kernel
theorem dX10_copy_2 : decode cX10_copy 2 = .ok (.putfield 56, 3) := by decide +kernel
theorem dX10_copy_5 : decode cX10_copy 5 = .ok (.aload_n 0, 1) := by decide +kernel
theorem dX10_copy_6 : decode cX10_copy 6 = .ok (.iload_n 1, 1) := by decide +kernel
theorem dX10_copy_7 : decode cX10_copy 7 = .ok (.invokevirtual 93, 3) := by decide +kernel
theorem dX10_copy_10 : decode cX10_copy 10 = .ok (.astore 6, 2) := by decide +kernel
theorem dX10_copy_12 : decode cX10_copy 12 = .ok (.aload_n 0, 1) := by decide +kernel
theorem dX10_copy_13 : decode cX10_copy 13 = .ok (.iload_n 3, 1) := by decide +kernel
theorem dX10_copy_14 : decode cX10_copy 14 = .ok (.invokevirtual 93, 3) := by decide +kernel
theorem dX10_copy_17 : decode cX10_copy 17 = .ok (.astore 7, 2) := by decide +kernel
theorem dX10_copy_19 : decode cX10_copy 19 = .ok (.aload 6, 2) := by decide +kernel
theorem dX10_copy_21 : decode cX10_copy 21 = .ok (.ifnull 8, 3) := by decide +kernel
theorem dX10_copy_24 : decode cX10_copy 24 = .ok (.aload 7, 2) := by decide +kernel
theorem dX10_copy_26 : decode cX10_copy 26 = .ok (.ifnonnull 5, 3) := by decide +kernel
theorem dX10_copy_29 : decode cX10_copy 29 = .ok (.iconst (-1), 1) := by decide +kernel
theorem dX10_copy_30 : decode cX10_copy 30 = .ok (.ireturn, 1) := by decide +kernel
theorem dX10_copy_31 : decode cX10_copy 31 = .ok (.aload 6, 2) := by decide +kernel
theorem dX10_copy_33 : decode cX10_copy 33 = .ok (.invokevirtual 288, 3) := by decide +kernel
theorem dX10_copy_36 : decode cX10_copy 36 = .ok (.ifCond .ne 11, 3) := by decide +kernel
theorem dX10_copy_39 : decode cX10_copy 39 = .ok (.aload 7, 2) := by decide +kernel
theorem dX10_copy_41 : decode cX10_copy 41 = .ok (.invokevirtual 288, 3) := by decide +kernel
theorem dX10_copy_44 : decode cX10_copy 44 = .ok (.ifCond .eq 9, 3) := by decide +kernel
theorem dX10_copy_47 : decode cX10_copy 47 = .ok (.aload_n 0, 1) := by decide +kernel
theorem dX10_copy_48 : decode cX10_copy 48 = .ok (.iconst 1, 1) := by decide +kernel
theorem dX10_copy_49 : decode cX10_copy 49 = .ok (.invokevirtual 105, 3) := by decide +kernel
theorem dX10_copy_52 : decode cX10_copy 52 = .ok (.ireturn, 1) := by decide +kernel
theorem dX10_copy_53 : decode cX10_copy 53 = .ok (.aload 6, 2) := by decide +kernel
theorem dX10_copy_55 : decode cX10_copy 55 = .ok (.getfield 295, 3) := by decide +kernel
theorem dX10_copy_58 : decode cX10_copy 58 = .ok (.aload 7, 2) := by decide +kernel
theorem dX10_copy_60 : decode cX10_copy 60 = .ok (.getfield 295, 3) := by decide +kernel
theorem dX10_copy_63 : decode cX10_copy 63 = .ok (.if_icmp .eq 9, 3) := by decide +kernel
theorem dX10_copy_66 : decode cX10_copy 66 = .ok (.aload_n 0, 1) := by decide +kernel
theorem dX10_copy_67 : decode cX10_copy 67 = .ok (.iconst 2, 1) := by decide +kernel
theorem dX10_copy_68 : decode cX10_copy 68 = .ok (.invokevirtual 105, 3) := by decide +kernel
theorem dX10_copy_71 : decode cX10_copy 71 = .ok (.ireturn, 1) := by decide +kernel
theorem dX10_copy_72 : decode cX10_copy 72 = .ok (.aload 6, 2) := by decide +kernel
theorem dX10_copy_74 : decode cX10_copy 74 = .ok (.iload_n 2, 1) := by decide +kernel
theorem dX10_copy_75 : decode cX10_copy 75 = .ok (.iload 5, 2) := by decide +kernel
theorem dX10_copy_77 : decode cX10_copy 77 = .ok (.invokevirtual 117, 3) := by decide +kernel
theorem dX10_copy_80 : decode cX10_copy 80 = .ok (.ifCond .eq 15, 3) := by decide +kernel
theorem dX10_copy_83 : decode cX10_copy 83 = .ok (.aload 7, 2) := by decide +kernel
theorem dX10_copy_85 : decode cX10_copy 85 = .ok (.iload 4, 2) := by decide +kernel
theorem dX10_copy_87 : decode cX10_copy 87 = .ok (.iload 5, 2) := by decide +kernel
theorem dX10_copy_89 : decode cX10_copy 89 = .ok (.invokevirtual 117, 3) := by decide +kernel
theorem dX10_copy_92 : decode cX10_copy 92 = .ok (.ifCond .ne 9, 3) := by decide +kernel
theorem dX10_copy_95 : decode cX10_copy 95 = .ok (.aload_n 0, 1) := by decide +kernel
theorem dX10_copy_96 : decode cX10_copy 96 = .ok (.iconst 3, 1) := by decide +kernel
theorem dX10_copy_97 : decode cX10_copy 97 = .ok (.invokevirtual 105, 3) := by decide +kernel
theorem dX10_copy_100 : decode cX10_copy 100 = .ok (.ireturn, 1) := by decide +kernel
theorem dX10_copy_101 : decode cX10_copy 101 = .ok (.aload 6, 2) := by decide +kernel
theorem dX10_copy_103 : decode cX10_copy 103 = .ok (.getfield 111, 3) := by decide +kernel
theorem dX10_copy_106 : decode cX10_copy 106 = .ok (.iload_n 2, 1) := by decide +kernel
theorem dX10_copy_107 : decode cX10_copy 107 = .ok (.aload 7, 2) := by decide +kernel
theorem dX10_copy_109 : decode cX10_copy 109 = .ok (.getfield 111, 3) := by decide +kernel
theorem dX10_copy_112 : decode cX10_copy 112 = .ok (.iload 4, 2) := by decide +kernel
theorem dX10_copy_114 : decode cX10_copy 114 = .ok (.iload 5, 2) := by decide +kernel
theorem dX10_copy_116 : decode cX10_copy 116 = .ok (.invokestatic 298, 3) := by decide +kernel
theorem dX10_copy_119 : decode cX10_copy 119 = .ok (.iload 5, 2) := by decide +kernel
theorem dX10_copy_121 : decode cX10_copy 121 = .ok (.ireturn, 1) := by decide +kernel
set_option maxRecDepth 20000 in
theorem ggX10_tell_X10_gangAt : GoodIn wsX10_tell wsX10_gangAt := goodIn_r _ [6, 7, 8, 9, 10, 5, 11, 52, 53, 54, 55, 56, 57, 58, 59, 60, 61, 62, 63, 64] (by decide +kernel) (by decide +kernel)
set_option maxRecDepth 20000 in
theorem gX10_tell_X10_gangAt : GoodIn wsX10_tell (wsV RX10 172 RX10 yX10_gangAt wsX10_gangAt) := goodIn_app (goodIn_of _ (by decide +kernel)) ggX10_tell_X10_gangAt
set_option maxRecDepth 20000 in
theorem ggX10_tell_X1_telling : GoodIn wsX10_tell wsX1_telling := goodIn_r _ [18, 19, 20, 21, 22, 23, 24, 25, 26, 27, 28, 29, 30, 31, 32, 33, 65, 66, 67, 68, 69, 70, 71, 72, 73, 74, 75, 76, 77] (by decide +kernel) (by decide +kernel)
set_option maxRecDepth 20000 in
theorem gX10_tell_X1_telling_u304X1 : GoodIn wsX10_tell (va_wsO RX10 304 RX1 "TributePitches$Gang" ⟨"TributePitches$Gang", "telling", "(LTributePitches$Trace;)I"⟩ yX1_telling wsX1_telling) := goodIn_app (goodIn_of _ (by decide +kernel)) ggX10_tell_X1_telling
set_option maxRecDepth 20000 in
theorem ggX10_tell_X2_telling : GoodIn wsX10_tell wsX2_telling := goodIn_r _ [34, 38, 39, 40, 28, 29, 30, 31, 32, 20, 21, 22, 23, 24, 41, 42, 43, 66, 67, 68, 69, 70, 71, 72, 73, 74, 75, 76, 77, 65] (by decide +kernel) (by decide +kernel)
set_option maxRecDepth 20000 in
theorem gX10_tell_X2_telling : GoodIn wsX10_tell (wsV RX10 304 RX2 yX2_telling wsX2_telling) := goodIn_app (goodIn_of _ (by decide +kernel)) ggX10_tell_X2_telling
set_option maxRecDepth 20000 in
theorem ggX10_tell_X4_telling : GoodIn wsX10_tell wsX4_telling := goodIn_r _ [47, 48, 20, 21, 22, 23, 24, 49, 50, 51, 28, 29, 30, 31, 32, 65, 66, 67, 68, 69, 70, 71, 72, 73, 74, 75, 76, 77] (by decide +kernel) (by decide +kernel)
set_option maxRecDepth 20000 in
theorem gX10_tell_X4_telling_u304X4 : GoodIn wsX10_tell (va_wsO RX10 304 RX4 "TributePitches$Gang" ⟨"TributePitches$Gang", "telling", "(LTributePitches$Trace;)I"⟩ yX4_telling wsX4_telling) := goodIn_app (goodIn_of _ (by decide +kernel)) ggX10_tell_X4_telling
theorem dX10_tell_0 : decode cX10_tell 0 = .ok (.aload_n 0, 1) := by decide +kernel
theorem dX10_tell_1 : decode cX10_tell 1 = .ok (.iload_n 1, 1) := by decide +kernel
theorem dX10_tell_2 : decode cX10_tell 2 = .ok (.invokevirtual 172, 3) := by decide +kernel
theorem dX10_tell_5 : decode cX10_tell 5 = .ok (.astore_n 2, 1) := by decide +kernel
theorem dX10_tell_6 : decode cX10_tell 6 = .ok (.aload_n 2, 1) := by decide +kernel
theorem dX10_tell_7 : decode cX10_tell 7 = .ok (.ifnonnull 7, 3) := by decide +kernel
theorem dX10_tell_10 : decode cX10_tell 10 = .ok (.iconst (-1), 1) := by decide +kernel
theorem dX10_tell_11 : decode cX10_tell 11 = .ok (.goto 11, 3) := by decide +kernel
theorem dX10_tell_14 : decode cX10_tell 14 = .ok (.aload_n 2, 1) := by decide +kernel
theorem dX10_tell_15 : decode cX10_tell 15 = .ok (.aload_n 0, 1) := by decide +kernel
theorem dX10_tell_16 : decode cX10_tell 16 = .ok (.getfield 52, 3) := by decide +kernel
theorem dX10_tell_19 : decode cX10_tell 19 = .ok (.invokevirtual 304, 3) := by decide +kernel
theorem dX10_tell_22 : decode cX10_tell 22 = .ok (.ireturn, 1) := by decide +kernel
set_option maxRecDepth 20000 in
theorem ggX10_greet_X10_gangAt : GoodIn wsX10_greet wsX10_gangAt := goodIn_r _ [6, 7, 8, 9, 10, 5, 11, 40, 41, 42, 43, 44, 45, 46, 47, 48, 49, 50, 51, 52] (by decide +kernel) (by decide +kernel)
set_option maxRecDepth 20000 in
theorem gX10_greet_X10_gangAt : GoodIn wsX10_greet (wsV RX10 172 RX10 yX10_gangAt wsX10_gangAt) := goodIn_app (goodIn_of _ (by decide +kernel)) ggX10_greet_X10_gangAt
set_option maxRecDepth 20000 in
theorem ggX10_greet_X1_greeting : GoodIn wsX10_greet wsX1_greeting := goodIn_r _ [18, 19, 20, 21, 22, 23, 24, 53] (by decide +kernel) (by decide +kernel)
set_option maxRecDepth 20000 in
theorem gX10_greet_X1_greeting_u308X1 : GoodIn wsX10_greet (va_wsO RX10 308 RX1 "TributePitches$Gang" ⟨"TributePitches$Gang", "greeting", "(LTributePitches$Trace;)I"⟩ yX1_greeting wsX1_greeting) := goodIn_app (goodIn_of _ (by decide +kernel)) ggX10_greet_X1_greeting
set_option maxRecDepth 20000 in
theorem ggX10_greet_X2_greeting : GoodIn wsX10_greet wsX2_greeting := goodIn_r _ [25, 30, 31, 20, 21, 22, 23, 24, 54, 55, 56, 57, 58, 59, 60, 61, 62, 63, 64, 65, 53] (by decide +kernel) (by decide +kernel)
set_option maxRecDepth 20000 in
theorem gX10_greet_X2_greeting : GoodIn wsX10_greet (wsV RX10 308 RX2 yX2_greeting wsX2_greeting) := goodIn_app (goodIn_of _ (by decide +kernel)) ggX10_greet_X2_greeting
set_option maxRecDepth 20000 in
theorem ggX10_greet_X4_greeting : GoodIn wsX10_greet wsX4_greeting := goodIn_r _ [35, 36, 20, 21, 22, 23, 24, 37, 38, 39, 16, 17, 18, 19, 53] (by decide +kernel) (by decide +kernel)
set_option maxRecDepth 20000 in
theorem gX10_greet_X4_greeting_u308X4 : GoodIn wsX10_greet (va_wsO RX10 308 RX4 "TributePitches$Gang" ⟨"TributePitches$Gang", "greeting", "(LTributePitches$Trace;)I"⟩ yX4_greeting wsX4_greeting) := goodIn_app (goodIn_of _ (by decide +kernel)) ggX10_greet_X4_greeting
theorem dX10_greet_0 : decode cX10_greet 0 = .ok (.aload_n 0, 1) := by decide +kernel
theorem dX10_greet_1 : decode cX10_greet 1 = .ok (.iload_n 1, 1) := by decide +kernel
theorem dX10_greet_2 : decode cX10_greet 2 = .ok (.invokevirtual 172, 3) := by decide +kernel
theorem dX10_greet_5 : decode cX10_greet 5 = .ok (.astore_n 2, 1) := by decide +kernel
theorem dX10_greet_6 : decode cX10_greet 6 = .ok (.aload_n 2, 1) := by decide +kernel
theorem dX10_greet_7 : decode cX10_greet 7 = .ok (.ifnonnull 7, 3) := by decide +kernel
theorem dX10_greet_10 : decode cX10_greet 10 = .ok (.iconst (-1), 1) := by decide +kernel
theorem dX10_greet_11 : decode cX10_greet 11 = .ok (.goto 11, 3) := by decide +kernel
theorem dX10_greet_14 : decode cX10_greet 14 = .ok (.aload_n 2, 1) := by decide +kernel
theorem dX10_greet_15 : decode cX10_greet 15 = .ok (.aload_n 0, 1) := by decide +kernel
theorem dX10_greet_16 : decode cX10_greet 16 = .ok (.getfield 52, 3) := by decide +kernel
theorem dX10_greet_19 : decode cX10_greet 19 = .ok (.invokevirtual 308, 3) := by decide +kernel
theorem dX10_greet_22 : decode cX10_greet 22 = .ok (.ireturn, 1) := by decide +kernel
set_option maxRecDepth 20000 in
theorem ggX10_as_X10_gangAt : GoodIn wsX10_as wsX10_gangAt := goodIn_r _ [6, 7, 8, 9, 10, 5, 11, 21, 22, 23, 24, 25, 26, 27, 28, 29, 30, 31, 32, 33] (by decide +kernel) (by decide +kernel)
set_option maxRecDepth 20000 in
theorem gX10_as_X10_gangAt : GoodIn wsX10_as (wsV RX10 172 RX10 yX10_gangAt wsX10_gangAt) := goodIn_app (goodIn_of _ (by decide +kernel)) ggX10_as_X10_gangAt
set_option maxRecDepth 20000 in
theorem ggX10_as_X10_isWithin : GoodIn wsX10_as wsX10_isWithin := goodIn_r _ [11] (by decide +kernel) (by decide +kernel)
set_option maxRecDepth 20000 in
theorem gX10_as_X10_isWithin : GoodIn wsX10_as (va_wsS RX10 64 yX10_isWithin wsX10_isWithin) := goodIn_app (goodIn_of _ (by decide +kernel)) ggX10_as_X10_isWithin
set_option maxRecDepth 20000 in
theorem ggX10_as_X10_isOfKind : GoodIn wsX10_as wsX10_isOfKind := goodIn_r _ [14, 15, 16] (by decide +kernel) (by decide +kernel)
set_option maxRecDepth 20000 in
theorem gX10_as_X10_isOfKind : GoodIn wsX10_as (va_wsS RX10 311 yX10_isOfKind wsX10_isOfKind) := goodIn_app (goodIn_of _ (by decide +kernel)) ggX10_as_X10_isOfKind
set_option maxRecDepth 20000 in
theorem ggX10_as_X10_faulted : GoodIn wsX10_as wsX10_faulted := goodIn_r _ [20, 1, 21, 22, 23, 24, 25, 26, 27, 28, 29, 30, 31, 32, 33] (by decide +kernel) (by decide +kernel)
set_option maxRecDepth 20000 in
theorem gX10_as_X10_faulted : GoodIn wsX10_as (wsV RX10 105 RX10 yX10_faulted wsX10_faulted) := goodIn_app (goodIn_of _ (by decide +kernel)) ggX10_as_X10_faulted
theorem dX10_as_0 : decode cX10_as 0 = .ok (.aload_n 0, 1) := by decide +kernel
theorem dX10_as_1 : decode cX10_as 1 = .ok (.iconst 0, 1) := by decide +kernel
theorem dX10_as_2 : decode cX10_as 2 = .ok (.putfield 56, 3) := by decide +kernel
theorem dX10_as_5 : decode cX10_as 5 = .ok (.aload_n 0, 1) := by decide +kernel
theorem dX10_as_6 : decode cX10_as 6 = .ok (.iload_n 1, 1) := by decide +kernel
theorem dX10_as_7 : decode cX10_as 7 = .ok (.invokevirtual 172, 3) := by decide +kernel
theorem dX10_as_10 : decode cX10_as 10 = .ok (.astore_n 3, 1) := by decide +kernel
theorem dX10_as_11 : decode cX10_as 11 = .ok (.aload_n 3, 1) := by decide +kernel
theorem dX10_as_12 : decode cX10_as 12 = .ok (.ifnonnull 5, 3) := by decide +kernel
theorem dX10_as_15 : decode cX10_as 15 = .ok (.iconst (-1), 1) := by decide +kernel
theorem dX10_as_16 : decode cX10_as 16 = .ok (.ireturn, 1) := by decide +kernel
theorem dX10_as_17 : decode cX10_as 17 = .ok (.iload_n 2, 1) := by decide +kernel
theorem dX10_as_18 : decode cX10_as 18 = .ok (.iconst 0, 1) := by decide +kernel
theorem dX10_as_19 : decode cX10_as 19 = .ok (.iconst 2, 1) := by decide +kernel
theorem dX10_as_20 : decode cX10_as 20 = .ok (.invokestatic 64, 3) := by decide +kernel
theorem dX10_as_23 : decode cX10_as 23 = .ok (.ifCond .ne 6, 3) := by decide +kernel
theorem dX10_as_26 : decode cX10_as 26 = .ok (.bipush (-2), 2) := by decide +kernel
theorem dX10_as_28 : decode cX10_as 28 = .ok (.ireturn, 1) := by decide +kernel
theorem dX10_as_29 : decode cX10_as 29 = .ok (.aload_n 3, 1) := by decide +kernel
theorem dX10_as_30 : decode cX10_as 30 = .ok (.iload_n 2, 1) := by decide +kernel
theorem dX10_as_31 : decode cX10_as 31 = .ok (.invokestatic 311, 3) := by decide +kernel
theorem dX10_as_34 : decode cX10_as 34 = .ok (.ifCond .eq 7, 3) := by decide +kernel
theorem dX10_as_37 : decode cX10_as 37 = .ok (.iconst 1, 1) := by decide +kernel
theorem dX10_as_38 : decode cX10_as 38 = .ok (.goto 8, 3) := by decide +kernel
theorem dX10_as_41 : decode cX10_as 41 = .ok (.aload_n 0, 1) := by decide +kernel
theorem dX10_as_42 : decode cX10_as 42 = .ok (.iconst 2, 1) := by decide +kernel
theorem dX10_as_43 : decode cX10_as 43 = .ok (.invokevirtual 105, 3) := by decide +kernel
theorem dX10_as_46 : decode cX10_as 46 = .ok (.ireturn, 1) := by decide +kernel
theorem dX10_isOfKind_0 : decode cX10_isOfKind 0 = .ok (.iload_n 1, 1) := by decide +kernel
theorem dX10_isOfKind_1 : decode cX10_isOfKind 1 = .ok (.lookupswitch 37 #[(1, 32), (2, 27)], 27) := by decide +kernel
theorem dX10_isOfKind_28 : decode cX10_isOfKind 28 = .ok (.aload_n 0, 1) := by decide +kernel
theorem dX10_isOfKind_29 : decode cX10_isOfKind 29 = .ok (.instanceof 150, 3) := by decide +kernel
theorem dX10_isOfKind_32 : decode cX10_isOfKind 32 = .ok (.ireturn, 1) := by decide +kernel
theorem dX10_isOfKind_33 : decode cX10_isOfKind 33 = .ok (.aload_n 0, 1) := by decide +kernel
theorem dX10_isOfKind_34 : decode cX10_isOfKind 34 = .ok (.instanceof 155, 3) := by decide +kernel
theorem dX10_isOfKind_37 : decode cX10_isOfKind 37 = .ok (.ireturn, 1) := by decide +kernel
theorem dX10_isOfKind_38 : decode cX10_isOfKind 38 = .ok (.iconst 1, 1) := by decide +kernel
theorem dX10_isOfKind_39 : decode cX10_isOfKind 39 = .ok (.ireturn, 1) := by decide +kernel
theorem dX10_trace_0 : decode cX10_trace 0 = .ok (.aload_n 0, 1) := by decide +kernel
theorem dX10_trace_1 : decode cX10_trace 1 = .ok (.getfield 52, 3) := by decide +kernel
theorem dX10_trace_4 : decode cX10_trace 4 = .ok (.getfield 315, 3) := by decide +kernel
theorem dX10_trace_7 : decode cX10_trace 7 = .ok (.ireturn, 1) := by decide +kernel
theorem dX10_fault_0 : decode cX10_fault 0 = .ok (.aload_n 0, 1) := by decide +kernel
theorem dX10_fault_1 : decode cX10_fault 1 = .ok (.getfield 56, 3) := by decide +kernel
theorem dX10_fault_4 : decode cX10_fault 4 = .ok (.ireturn, 1) := by decide +kernel
theorem dX10_told_0 : decode cX10_told 0 = .ok (.iload_n 1, 1) := by decide +kernel
theorem dX10_told_1 : decode cX10_told 1 = .ok (.tableswitch 138 0 7 #[47, 52, 57, 62, 67, 75, 95, 118], 47) := by decide +kernel
theorem dX10_told_48 : decode cX10_told 48 = .ok (.aload_n 0, 1) := by decide +kernel
theorem dX10_told_49 : decode cX10_told 49 = .ok (.getfield 124, 3) := by decide +kernel
theorem dX10_told_52 : decode cX10_told 52 = .ok (.ireturn, 1) := by decide +kernel
theorem dX10_told_53 : decode cX10_told 53 = .ok (.aload_n 0, 1) := by decide +kernel
theorem dX10_told_54 : decode cX10_told 54 = .ok (.getfield 143, 3) := by decide +kernel
theorem dX10_told_57 : decode cX10_told 57 = .ok (.ireturn, 1) := by decide +kernel
theorem dX10_told_58 : decode cX10_told 58 = .ok (.aload_n 0, 1) := by decide +kernel
theorem dX10_told_59 : decode cX10_told 59 = .ok (.getfield 197, 3) := by decide +kernel
theorem dX10_told_62 : decode cX10_told 62 = .ok (.ireturn, 1) := by decide +kernel
theorem dX10_told_63 : decode cX10_told 63 = .ok (.aload_n 0, 1) := by decide +kernel
theorem dX10_told_64 : decode cX10_told 64 = .ok (.getfield 242, 3) := by decide +kernel
theorem dX10_told_67 : decode cX10_told 67 = .ok (.ireturn, 1) := by decide +kernel
theorem dX10_told_68 : decode cX10_told 68 = .ok (.aload_n 0, 1) := by decide +kernel
theorem dX10_told_69 : decode cX10_told 69 = .ok (.getfield 12, 3) := by decide +kernel
theorem dX10_told_72 : decode cX10_told 72 = .ok (.getfield 79, 3) := by decide +kernel
theorem dX10_told_75 : decode cX10_told 75 = .ok (.ireturn, 1) := by decide +kernel
theorem dX10_told_76 : decode cX10_told 76 = .ok (.aload_n 0, 1) := by decide +kernel
theorem dX10_told_77 : decode cX10_told 77 = .ok (.getfield 163, 3) := by decide +kernel
theorem dX10_told_80 : decode cX10_told 80 = .ok (.ifnonnull 8, 3) := by decide +kernel
theorem dX10_told_83 : decode cX10_told 83 = .ok (.bipush (-9), 2) := by decide +kernel
theorem dX10_told_85 : decode cX10_told 85 = .ok (.goto 10, 3) := by decide +kernel
theorem dX10_told_88 : decode cX10_told 88 = .ok (.aload_n 0, 1) := by decide +kernel
theorem dX10_told_89 : decode cX10_told 89 = .ok (.getfield 163, 3) := by decide +kernel
theorem dX10_told_92 : decode cX10_told 92 = .ok (.getfield 187, 3) := by decide +kernel
theorem dX10_told_95 : decode cX10_told 95 = .ok (.ireturn, 1) := by decide +kernel
theorem dX10_told_96 : decode cX10_told 96 = .ok (.aload_n 0, 1) := by decide +kernel
theorem dX10_told_97 : decode cX10_told 97 = .ok (.getfield 163, 3) := by decide +kernel
theorem dX10_told_100 : decode cX10_told 100 = .ok (.ifnonnull 8, 3) := by decide +kernel
theorem dX10_told_103 : decode cX10_told 103 = .ok (.bipush (-9), 2) := by decide +kernel
theorem dX10_told_105 : decode cX10_told 105 = .ok (.goto 13, 3) := by decide +kernel
theorem dX10_told_108 : decode cX10_told 108 = .ok (.aload_n 0, 1) := by decide +kernel
theorem dX10_told_109 : decode cX10_told 109 = .ok (.getfield 163, 3) := by decide +kernel
theorem dX10_told_112 : decode cX10_told 112 = .ok (.getfield 193, 3) := by decide +kernel
theorem dX10_told_115 : decode cX10_told 115 = .ok (.getfield 269, 3) := by decide +kernel
theorem dX10_told_118 : decode cX10_told 118 = .ok (.ireturn, 1) := by decide +kernel
theorem dX10_told_119 : decode cX10_told 119 = .ok (.aload_n 0, 1) := by decide +kernel
theorem dX10_told_120 : decode cX10_told 120 = .ok (.getfield 163, 3) := by decide +kernel
theorem dX10_told_123 : decode cX10_told 123 = .ok (.ifnonnull 8, 3) := by decide +kernel
theorem dX10_told_126 : decode cX10_told 126 = .ok (.bipush (-9), 2) := by decide +kernel
theorem dX10_told_128 : decode cX10_told 128 = .ok (.goto 10, 3) := by decide +kernel
theorem dX10_told_131 : decode cX10_told 131 = .ok (.aload_n 0, 1) := by decide +kernel
theorem dX10_told_132 : decode cX10_told 132 = .ok (.getfield 163, 3) := by decide +kernel
theorem dX10_told_135 : decode cX10_told 135 = .ok (.getfield 190, 3) := by decide +kernel
theorem dX10_told_138 : decode cX10_told 138 = .ok (.ireturn, 1) := by decide +kernel
theorem dX10_told_139 : decode cX10_told 139 = .ok (.bipush (-2), 2) := by decide +kernel
theorem dX10_told_141 : decode cX10_told 141 = .ok (.ireturn, 1) := by decide +kernel
theorem dX10_isWithin_0 : decode cX10_isWithin 0 = .ok (.iload_n 0, 1) := by decide +kernel
theorem dX10_isWithin_1 : decode cX10_isWithin 1 = .ok (.iload_n 1, 1) := by decide +kernel
theorem dX10_isWithin_2 : decode cX10_isWithin 2 = .ok (.if_icmp .lt 12, 3) := by decide +kernel
theorem dX10_isWithin_5 : decode cX10_isWithin 5 = .ok (.iload_n 0, 1) := by decide +kernel
theorem dX10_isWithin_6 : decode cX10_isWithin 6 = .ok (.iload_n 2, 1) := by decide +kernel
theorem dX10_isWithin_7 : decode cX10_isWithin 7 = .ok (.if_icmp .gt 7, 3) := by decide +kernel
theorem dX10_isWithin_10 : decode cX10_isWithin 10 = .ok (.iconst 1, 1) := by decide +kernel
theorem dX10_isWithin_11 : decode cX10_isWithin 11 = .ok (.goto 4, 3) := by decide +kernel
theorem dX10_isWithin_14 : decode cX10_isWithin 14 = .ok (.iconst 0, 1) := by decide +kernel
theorem dX10_isWithin_15 : decode cX10_isWithin 15 = .ok (.ireturn, 1) := by decide +kernel
set_option maxRecDepth 20000 in
theorem ggX10_pitchAt_X10_isWithin : GoodIn wsX10_pitchAt wsX10_isWithin := goodIn_r _ [6] (by decide +kernel) (by decide +kernel)
set_option maxRecDepth 20000 in
theorem gX10_pitchAt_X10_isWithin : GoodIn wsX10_pitchAt (va_wsS RX10 64 yX10_isWithin wsX10_isWithin) := goodIn_app (goodIn_of _ (by decide +kernel)) ggX10_pitchAt_X10_isWithin
theorem dX10_pitchAt_0 : decode cX10_pitchAt 0 = .ok (.iload_n 1, 1) := by decide +kernel
theorem dX10_pitchAt_1 : decode cX10_pitchAt 1 = .ok (.iconst 0, 1) := by decide +kernel
theorem dX10_pitchAt_2 : decode cX10_pitchAt 2 = .ok (.aload_n 0, 1) := by decide +kernel
theorem dX10_pitchAt_3 : decode cX10_pitchAt 3 = .ok (.getfield 124, 3) := by decide +kernel
theorem dX10_pitchAt_6 : decode cX10_pitchAt 6 = .ok (.iconst 1, 1) := by decide +kernel
theorem dX10_pitchAt_7 : decode cX10_pitchAt 7 = .ok (.isub, 1) := by decide +kernel
theorem dX10_pitchAt_8 : decode cX10_pitchAt 8 = .ok (.invokestatic 64, 3) := by decide +kernel
theorem dX10_pitchAt_11 : decode cX10_pitchAt 11 = .ok (.ifCond .eq 12, 3) := by decide +kernel
theorem dX10_pitchAt_14 : decode cX10_pitchAt 14 = .ok (.aload_n 0, 1) := by decide +kernel
theorem dX10_pitchAt_15 : decode cX10_pitchAt 15 = .ok (.getfield 20, 3) := by decide +kernel
theorem dX10_pitchAt_18 : decode cX10_pitchAt 18 = .ok (.iload_n 1, 1) := by decide +kernel
theorem dX10_pitchAt_19 : decode cX10_pitchAt 19 = .ok (.aaload, 1) := by decide +kernel
theorem dX10_pitchAt_20 : decode cX10_pitchAt 20 = .ok (.goto 4, 3) := by decide +kernel
theorem dX10_pitchAt_23 : decode cX10_pitchAt 23 = .ok (.aconst_null, 1) := by decide +kernel
theorem dX10_pitchAt_24 : decode cX10_pitchAt 24 = .ok (.areturn, 1) := by decide +kernel
set_option maxRecDepth 20000 in
theorem ggX10_gangAt_X10_isWithin : GoodIn wsX10_gangAt wsX10_isWithin := goodIn_r _ [6] (by decide +kernel) (by decide +kernel)
set_option maxRecDepth 20000 in
theorem gX10_gangAt_X10_isWithin : GoodIn wsX10_gangAt (va_wsS RX10 64 yX10_isWithin wsX10_isWithin) := goodIn_app (goodIn_of _ (by decide +kernel)) ggX10_gangAt_X10_isWithin
theorem dX10_gangAt_0 : decode cX10_gangAt 0 = .ok (.iload_n 1, 1) := by decide +kernel
theorem dX10_gangAt_1 : decode cX10_gangAt 1 = .ok (.iconst 0, 1) := by decide +kernel
theorem dX10_gangAt_2 : decode cX10_gangAt 2 = .ok (.aload_n 0, 1) := by decide +kernel
theorem dX10_gangAt_3 : decode cX10_gangAt 3 = .ok (.getfield 143, 3) := by decide +kernel
theorem dX10_gangAt_6 : decode cX10_gangAt 6 = .ok (.iconst 1, 1) := by decide +kernel
theorem dX10_gangAt_7 : decode cX10_gangAt 7 = .ok (.isub, 1) := by decide +kernel
theorem dX10_gangAt_8 : decode cX10_gangAt 8 = .ok (.invokestatic 64, 3) := by decide +kernel
theorem dX10_gangAt_11 : decode cX10_gangAt 11 = .ok (.ifCond .eq 12, 3) := by decide +kernel
theorem dX10_gangAt_14 : decode cX10_gangAt 14 = .ok (.aload_n 0, 1) := by decide +kernel
theorem dX10_gangAt_15 : decode cX10_gangAt 15 = .ok (.getfield 26, 3) := by decide +kernel
theorem dX10_gangAt_18 : decode cX10_gangAt 18 = .ok (.iload_n 1, 1) := by decide +kernel
theorem dX10_gangAt_19 : decode cX10_gangAt 19 = .ok (.aaload, 1) := by decide +kernel
theorem dX10_gangAt_20 : decode cX10_gangAt 20 = .ok (.goto 4, 3) := by decide +kernel
theorem dX10_gangAt_23 : decode cX10_gangAt 23 = .ok (.aconst_null, 1) := by decide +kernel
theorem dX10_gangAt_24 : decode cX10_gangAt 24 = .ok (.areturn, 1) := by decide +kernel
set_option maxRecDepth 20000 in
theorem ggX10_takeAt_X10_isWithin : GoodIn wsX10_takeAt wsX10_isWithin := goodIn_r _ [6] (by decide +kernel) (by decide +kernel)
set_option maxRecDepth 20000 in
theorem gX10_takeAt_X10_isWithin : GoodIn wsX10_takeAt (va_wsS RX10 64 yX10_isWithin wsX10_isWithin) := goodIn_app (goodIn_of _ (by decide +kernel)) ggX10_takeAt_X10_isWithin
theorem dX10_takeAt_0 : decode cX10_takeAt 0 = .ok (.iload_n 1, 1) := by decide +kernel
theorem dX10_takeAt_1 : decode cX10_takeAt 1 = .ok (.iconst 0, 1) := by decide +kernel
theorem dX10_takeAt_2 : decode cX10_takeAt 2 = .ok (.aload_n 0, 1) := by decide +kernel
theorem dX10_takeAt_3 : decode cX10_takeAt 3 = .ok (.getfield 197, 3) := by decide +kernel
theorem dX10_takeAt_6 : decode cX10_takeAt 6 = .ok (.iconst 1, 1) := by decide +kernel
theorem dX10_takeAt_7 : decode cX10_takeAt 7 = .ok (.isub, 1) := by decide +kernel
theorem dX10_takeAt_8 : decode cX10_takeAt 8 = .ok (.invokestatic 64, 3) := by decide +kernel
theorem dX10_takeAt_11 : decode cX10_takeAt 11 = .ok (.ifCond .eq 12, 3) := by decide +kernel
theorem dX10_takeAt_14 : decode cX10_takeAt 14 = .ok (.aload_n 0, 1) := by decide +kernel
theorem dX10_takeAt_15 : decode cX10_takeAt 15 = .ok (.getfield 32, 3) := by decide +kernel
theorem dX10_takeAt_18 : decode cX10_takeAt 18 = .ok (.iload_n 1, 1) := by decide +kernel
theorem dX10_takeAt_19 : decode cX10_takeAt 19 = .ok (.aaload, 1) := by decide +kernel
theorem dX10_takeAt_20 : decode cX10_takeAt 20 = .ok (.goto 4, 3) := by decide +kernel
theorem dX10_takeAt_23 : decode cX10_takeAt 23 = .ok (.aconst_null, 1) := by decide +kernel
theorem dX10_takeAt_24 : decode cX10_takeAt 24 = .ok (.areturn, 1) := by decide +kernel
set_option maxRecDepth 20000 in
theorem ggX10_sheetAt_X10_isWithin : GoodIn wsX10_sheetAt wsX10_isWithin := goodIn_r _ [5] (by decide +kernel) (by decide +kernel)
set_option maxRecDepth 20000 in
theorem gX10_sheetAt_X10_isWithin : GoodIn wsX10_sheetAt (va_wsS RX10 64 yX10_isWithin wsX10_isWithin) := goodIn_app (goodIn_of _ (by decide +kernel)) ggX10_sheetAt_X10_isWithin
theorem dX10_sheetAt_0 : decode cX10_sheetAt 0 = .ok (.iload_n 1, 1) := by decide +kernel
theorem dX10_sheetAt_1 : decode cX10_sheetAt 1 = .ok (.iconst 0, 1) := by decide +kernel
theorem dX10_sheetAt_2 : decode cX10_sheetAt 2 = .ok (.aload_n 0, 1) := by decide +kernel
theorem dX10_sheetAt_3 : decode cX10_sheetAt 3 = .ok (.getfield 45, 3) := by decide +kernel
theorem dX10_sheetAt_6 : decode cX10_sheetAt 6 = .ok (.arraylength, 1) := by decide +kernel
theorem dX10_sheetAt_7 : decode cX10_sheetAt 7 = .ok (.iconst 1, 1) := by decide +kernel
theorem dX10_sheetAt_8 : decode cX10_sheetAt 8 = .ok (.isub, 1) := by decide +kernel
theorem dX10_sheetAt_9 : decode cX10_sheetAt 9 = .ok (.invokestatic 64, 3) := by decide +kernel
theorem dX10_sheetAt_12 : decode cX10_sheetAt 12 = .ok (.ifCond .eq 12, 3) := by decide +kernel
theorem dX10_sheetAt_15 : decode cX10_sheetAt 15 = .ok (.aload_n 0, 1) := by decide +kernel
theorem dX10_sheetAt_16 : decode cX10_sheetAt 16 = .ok (.getfield 45, 3) := by decide +kernel
theorem dX10_sheetAt_19 : decode cX10_sheetAt 19 = .ok (.iload_n 1, 1) := by decide +kernel
theorem dX10_sheetAt_20 : decode cX10_sheetAt 20 = .ok (.aaload, 1) := by decide +kernel
theorem dX10_sheetAt_21 : decode cX10_sheetAt 21 = .ok (.goto 4, 3) := by decide +kernel
theorem dX10_sheetAt_24 : decode cX10_sheetAt 24 = .ok (.aconst_null, 1) := by decide +kernel
theorem dX10_sheetAt_25 : decode cX10_sheetAt 25 = .ok (.areturn, 1) := by decide +kernel
theorem dX10_faulted_0 : decode cX10_faulted 0 = .ok (.aload_n 0, 1) := by decide +kernel
theorem dX10_faulted_1 : decode cX10_faulted 1 = .ok (.iload_n 1, 1) := by decide +kernel
theorem dX10_faulted_2 : decode cX10_faulted 2 = .ok (.putfield 56, 3) := by decide +kernel
theorem dX10_faulted_5 : decode cX10_faulted 5 = .ok (.bipush (-10), 2) := by decide +kernel
theorem dX10_faulted_7 : decode cX10_faulted 7 = .ok (.iload_n 1, 1) := by decide +kernel
theorem dX10_faulted_8 : decode cX10_faulted 8 = .ok (.isub, 1) := by decide +kernel
theorem dX10_faulted_9 : decode cX10_faulted 9 = .ok (.ireturn, 1) := by decide +kernel
theorem dX11_init_0 : decode cX11_init 0 = .ok (.aload_n 0, 1) := by decide +kernel
theorem dX11_init_1 : decode cX11_init 1 = .ok (.invokespecial 1, 3) := by decide +kernel
theorem dX11_init_4 : decode cX11_init 4 = .ok (.aload_n 0, 1) := by decide +kernel
theorem dX11_init_5 : decode cX11_init 5 = .ok (.bipush 48, 2) := by decide +kernel
theorem dX11_init_7 : decode cX11_init 7 = .ok (.newarray .int, 2) := by decide +kernel
theorem dX11_init_9 : decode cX11_init 9 = .ok (.putfield 7, 3) := by decide +kernel
theorem dX11_init_12 : decode cX11_init 12 = .ok (.aload_n 0, 1) := by decide +kernel
theorem dX11_init_13 : decode cX11_init 13 = .ok (.bipush 48, 2) := by decide +kernel
theorem dX11_init_15 : decode cX11_init 15 = .ok (.newarray .int, 2) := by decide +kernel
theorem dX11_init_17 : decode cX11_init 17 = .ok (.putfield 13, 3) := by decide +kernel
theorem dX11_init_20 : decode cX11_init 20 = .ok (.aload_n 0, 1) := by decide +kernel
theorem dX11_init_21 : decode cX11_init 21 = .ok (.bipush 48, 2) := by decide +kernel
theorem dX11_init_23 : decode cX11_init 23 = .ok (.newarray .int, 2) := by decide +kernel
theorem dX11_init_25 : decode cX11_init 25 = .ok (.putfield 16, 3) := by decide +kernel
theorem dX11_init_28 : decode cX11_init 28 = .ok (.aload_n 0, 1) := by decide +kernel
theorem dX11_init_29 : decode cX11_init 29 = .ok (.bipush 48, 2) := by decide +kernel
theorem dX11_init_31 : decode cX11_init 31 = .ok (.newarray .int, 2) := by decide +kernel
theorem dX11_init_33 : decode cX11_init 33 = .ok (.putfield 19, 3) := by decide +kernel
theorem dX11_init_36 : decode cX11_init 36 = .ok (.aload_n 0, 1) := by decide +kernel
theorem dX11_init_37 : decode cX11_init 37 = .ok (.iconst 4, 1) := by decide +kernel
theorem dX11_init_38 : decode cX11_init 38 = .ok (.newarray .int, 2) := by decide +kernel
theorem dX11_init_40 : decode cX11_init 40 = .ok (.putfield 22, 3) := by decide +kernel
theorem dX11_init_43 : decode cX11_init 43 = .ok (.aload_n 0, 1) := by decide +kernel
theorem dX11_init_44 : decode cX11_init 44 = .ok (.iconst 4, 1) := by decide +kernel
theorem dX11_init_45 : decode cX11_init 45 = .ok (.newarray .int, 2) := by decide +kernel
theorem dX11_init_47 : decode cX11_init 47 = .ok (.putfield 25, 3) := by decide +kernel
theorem dX11_init_50 : decode cX11_init 50 = .ok (.aload_n 0, 1) := by decide +kernel
theorem dX11_init_51 : decode cX11_init 51 = .ok (.sipush 192, 3) := by decide +kernel
theorem dX11_init_54 : decode cX11_init 54 = .ok (.newarray .int, 2) := by decide +kernel
theorem dX11_init_56 : decode cX11_init 56 = .ok (.putfield 28, 3) := by decide +kernel
theorem dX11_init_59 : decode cX11_init 59 = .ok (.aload_n 0, 1) := by decide +kernel
theorem dX11_init_60 : decode cX11_init 60 = .ok (.bipush 48, 2) := by decide +kernel
theorem dX11_init_62 : decode cX11_init 62 = .ok (.newarray .int, 2) := by decide +kernel
theorem dX11_init_64 : decode cX11_init 64 = .ok (.putfield 31, 3) := by decide +kernel
theorem dX11_init_67 : decode cX11_init 67 = .ok (.aload_n 0, 1) := by decide +kernel
theorem dX11_init_68 : decode cX11_init 68 = .ok (.bipush 12, 2) := by decide +kernel
theorem dX11_init_70 : decode cX11_init 70 = .ok (.newarray .int, 2) := by decide +kernel
theorem dX11_init_72 : decode cX11_init 72 = .ok (.putfield 34, 3) := by decide +kernel
theorem dX11_init_75 : decode cX11_init 75 = .ok (.aload_n 0, 1) := by decide +kernel
theorem dX11_init_76 : decode cX11_init 76 = .ok (.bipush 12, 2) := by decide +kernel
theorem dX11_init_78 : decode cX11_init 78 = .ok (.newarray .int, 2) := by decide +kernel
theorem dX11_init_80 : decode cX11_init 80 = .ok (.putfield 37, 3) := by decide +kernel
theorem dX11_init_83 : decode cX11_init 83 = .ok (.aload_n 0, 1) := by decide +kernel
theorem dX11_init_84 : decode cX11_init 84 = .ok (.bipush 12, 2) := by decide +kernel
theorem dX11_init_86 : decode cX11_init 86 = .ok (.newarray .int, 2) := by decide +kernel
theorem dX11_init_88 : decode cX11_init 88 = .ok (.putfield 40, 3) := by decide +kernel
theorem dX11_init_91 : decode cX11_init 91 = .ok (.aload_n 0, 1) := by decide +kernel
theorem dX11_init_92 : decode cX11_init 92 = .ok (.bipush 12, 2) := by decide +kernel
theorem dX11_init_94 : decode cX11_init 94 = .ok (.newarray .int, 2) := by decide +kernel
theorem dX11_init_96 : decode cX11_init 96 = .ok (.putfield 43, 3) := by decide +kernel
theorem dX11_init_99 : decode cX11_init 99 = .ok (.aload_n 0, 1) := by decide +kernel
theorem dX11_init_100 : decode cX11_init 100 = .ok (.bipush 12, 2) := by decide +kernel
theorem dX11_init_102 : decode cX11_init 102 = .ok (.newarray .int, 2) := by decide +kernel
theorem dX11_init_104 : decode cX11_init 104 = .ok (.putfield 46, 3) := by decide +kernel
theorem dX11_init_107 : decode cX11_init 107 = .ok (.aload_n 0, 1) := by decide +kernel
theorem dX11_init_108 : decode cX11_init 108 = .ok (.bipush 8, 2) := by decide +kernel
theorem dX11_init_110 : decode cX11_init 110 = .ok (.newarray .int, 2) := by decide +kernel
theorem dX11_init_112 : decode cX11_init 112 = .ok (.putfield 49, 3) := by decide +kernel
theorem dX11_init_115 : decode cX11_init 115 = .ok (.aload_n 0, 1) := by decide +kernel
theorem dX11_init_116 : decode cX11_init 116 = .ok (.bipush 8, 2) := by decide +kernel
theorem dX11_init_118 : decode cX11_init 118 = .ok (.newarray .long, 2) := by decide +kernel
theorem dX11_init_120 : decode cX11_init 120 = .ok (.putfield 52, 3) := by decide +kernel
theorem dX11_init_123 : decode cX11_init 123 = .ok (.aload_n 0, 1) := by decide +kernel
theorem dX11_init_124 : decode cX11_init 124 = .ok (.bipush 40, 2) := by decide +kernel
theorem dX11_init_126 : decode cX11_init 126 = .ok (.newarray .int, 2) := by decide +kernel
theorem dX11_init_128 : decode cX11_init 128 = .ok (.putfield 56, 3) := by decide +kernel
theorem dX11_init_131 : decode cX11_init 131 = .ok (.aload_n 0, 1) := by decide +kernel
theorem dX11_init_132 : decode cX11_init 132 = .ok (.bipush 40, 2) := by decide +kernel
theorem dX11_init_134 : decode cX11_init 134 = .ok (.newarray .int, 2) := by decide +kernel
theorem dX11_init_136 : decode cX11_init 136 = .ok (.putfield 59, 3) := by decide +kernel
theorem dX11_init_139 : decode cX11_init 139 = .ok (.aload_n 0, 1) := by decide +kernel
theorem dX11_init_140 : decode cX11_init 140 = .ok (.bipush 40, 2) := by decide +kernel
theorem dX11_init_142 : decode cX11_init 142 = .ok (.newarray .int, 2) := by decide +kernel
theorem dX11_init_144 : decode cX11_init 144 = .ok (.putfield 62, 3) := by decide +kernel
theorem dX11_init_147 : decode cX11_init 147 = .ok (.aload_n 0, 1) := by decide +kernel
theorem dX11_init_148 : decode cX11_init 148 = .ok (.bipush 40, 2) := by decide +kernel
theorem dX11_init_150 : decode cX11_init 150 = .ok (.newarray .boolean, 2) := by decide +kernel
theorem dX11_init_152 : decode cX11_init 152 = .ok (.putfield 65, 3) := by decide +kernel
theorem dX11_init_155 : decode cX11_init 155 = .ok (.aload_n 0, 1) := by decide +kernel
theorem dX11_init_156 : decode cX11_init 156 = .ok (.bipush 40, 2) := by decide +kernel
theorem dX11_init_158 : decode cX11_init 158 = .ok (.newarray .long, 2) := by decide +kernel
theorem dX11_init_160 : decode cX11_init 160 = .ok (.putfield 69, 3) := by decide +kernel
theorem dX11_init_163 : decode cX11_init 163 = .ok (.aload_n 0, 1) := by decide +kernel
theorem dX11_init_164 : decode cX11_init 164 = .ok (.bipush 40, 2) := by decide +kernel
theorem dX11_init_166 : decode cX11_init 166 = .ok (.newarray .long, 2) := by decide +kernel
theorem dX11_init_168 : decode cX11_init 168 = .ok (.putfield 72, 3) := by decide +kernel
theorem dX11_init_171 : decode cX11_init 171 = .ok (.aload_n 0, 1) := by decide +kernel
theorem dX11_init_172 : decode cX11_init 172 = .ok (.bipush 40, 2) := by decide +kernel
theorem dX11_init_174 : decode cX11_init 174 = .ok (.newarray .long, 2) := by decide +kernel
theorem dX11_init_176 : decode cX11_init 176 = .ok (.putfield 75, 3) := by decide +kernel
theorem dX11_init_179 : decode cX11_init 179 = .ok (.aload_n 0, 1) := by decide +kernel
theorem dX11_init_180 : decode cX11_init 180 = .ok (.bipush 40, 2) := by decide +kernel
theorem dX11_init_182 : decode cX11_init 182 = .ok (.newarray .long, 2) := by decide +kernel
theorem dX11_init_184 : decode cX11_init 184 = .ok (.putfield 78, 3) := by decide +kernel
theorem dX11_init_187 : decode cX11_init 187 = .ok (.aload_n 0, 1) := by decide +kernel
theorem dX11_init_188 : decode cX11_init 188 = .ok (.bipush 40, 2) := by decide +kernel
theorem dX11_init_190 : decode cX11_init 190 = .ok (.newarray .long, 2) := by decide +kernel
theorem dX11_init_192 : decode cX11_init 192 = .ok (.putfield 81, 3) := by decide +kernel
theorem dX11_init_195 : decode cX11_init 195 = .ok (.aload_n 0, 1) := by decide +kernel
theorem dX11_init_196 : decode cX11_init 196 = .ok (.bipush 80, 2) := by decide +kernel
theorem dX11_init_198 : decode cX11_init 198 = .ok (.newarray .int, 2) := by decide +kernel
theorem dX11_init_200 : decode cX11_init 200 = .ok (.putfield 84, 3) := by decide +kernel
theorem dX11_init_203 : decode cX11_init 203 = .ok (.aload_n 0, 1) := by decide +kernel
theorem dX11_init_204 : decode cX11_init 204 = .ok (.bipush 80, 2) := by decide +kernel
theorem dX11_init_206 : decode cX11_init 206 = .ok (.newarray .int, 2) := by decide +kernel
theorem dX11_init_208 : decode cX11_init 208 = .ok (.putfield 87, 3) := by decide +kernel
theorem dX11_init_211 : decode cX11_init 211 = .ok (.aload_n 0, 1) := by decide +kernel
theorem dX11_init_212 : decode cX11_init 212 = .ok (.bipush 80, 2) := by decide +kernel
theorem dX11_init_214 : decode cX11_init 214 = .ok (.newarray .int, 2) := by decide +kernel
theorem dX11_init_216 : decode cX11_init 216 = .ok (.putfield 90, 3) := by decide +kernel
theorem dX11_init_219 : decode cX11_init 219 = .ok (.aload_n 0, 1) := by decide +kernel
theorem dX11_init_220 : decode cX11_init 220 = .ok (.sipush 1000, 3) := by decide +kernel
theorem dX11_init_223 : decode cX11_init 223 = .ok (.putfield 93, 3) := by decide +kernel
theorem dX11_init_226 : decode cX11_init 226 = .ok (.iconst 0, 1) := by decide +kernel
theorem dX11_init_227 : decode cX11_init 227 = .ok (.istore_n 1, 1) := by decide +kernel
theorem dX11_init_228 : decode cX11_init 228 = .ok (.iload_n 1, 1) := by decide +kernel
theorem dX11_init_229 : decode cX11_init 229 = .ok (.bipush 48, 2) := by decide +kernel
theorem dX11_init_231 : decode cX11_init 231 = .ok (.if_icmp .ge 18, 3) := by decide +kernel
theorem dX11_init_234 : decode cX11_init 234 = .ok (.aload_n 0, 1) := by decide +kernel
theorem dX11_init_235 : decode cX11_init 235 = .ok (.getfield 13, 3) := by decide +kernel
theorem dX11_init_238 : decode cX11_init 238 = .ok (.iload_n 1, 1) := by decide +kernel
theorem dX11_init_239 : decode cX11_init 239 = .ok (.sipush 1000, 3) := by decide +kernel
theorem dX11_init_242 : decode cX11_init 242 = .ok (.iastore, 1) := by decide +kernel
theorem dX11_init_243 : decode cX11_init 243 = .ok (.iinc 1 1, 3) := by decide +kernel
theorem dX11_init_246 : decode cX11_init 246 = .ok (.goto (-18), 3) := by decide +kernel
theorem dX11_init_249 : decode cX11_init 249 = .ok (.iconst 0, 1) := by decide +kernel
theorem dX11_init_250 : decode cX11_init 250 = .ok (.istore_n 1, 1) := by decide +kernel
theorem dX11_init_251 : decode cX11_init 251 = .ok (.iload_n 1, 1) := by decide +kernel
theorem dX11_init_252 : decode cX11_init 252 = .ok (.iconst 4, 1) := by decide +kernel
theorem dX11_init_253 : decode cX11_init 253 = .ok (.if_icmp .ge 16, 3) := by decide +kernel
theorem dX11_init_256 : decode cX11_init 256 = .ok (.aload_n 0, 1) := by decide +kernel
theorem dX11_init_257 : decode cX11_init 257 = .ok (.getfield 22, 3) := by decide +kernel
theorem dX11_init_260 : decode cX11_init 260 = .ok (.iload_n 1, 1) := by decide +kernel
theorem dX11_init_261 : decode cX11_init 261 = .ok (.iconst (-1), 1) := by decide +kernel
theorem dX11_init_262 : decode cX11_init 262 = .ok (.iastore, 1) := by decide +kernel
theorem dX11_init_263 : decode cX11_init 263 = .ok (.iinc 1 1, 3) := by decide +kernel
theorem dX11_init_266 : decode cX11_init 266 = .ok (.goto (-15), 3) := by decide +kernel
theorem dX11_init_269 : decode cX11_init 269 = .ok (.aload_n 0, 1) := by decide +kernel
theorem dX11_init_270 : decode cX11_init 270 = .ok (.bipush (-9), 2) := by decide +kernel
theorem dX11_init_272 : decode cX11_init 272 = .ok (.putfield 97, 3) := by decide +kernel
theorem dX11_init_275 : decode cX11_init 275 = .ok (.return_, 1) := by decide +kernel
theorem dX11_in_0 : decode cX11_in 0 = .ok (.lload_n 0, 1) := by decide +kernel
theorem dX11_in_1 : decode cX11_in 1 = .ok (.lload_n 2, 1) := by decide +kernel
theorem dX11_in_2 : decode cX11_in 2 = .ok (.lcmp, 1) := by decide +kernel
theorem dX11_in_3 : decode cX11_in 3 = .ok (.ifCond .lt 14, 3) := by decide +kernel
theorem dX11_in_6 : decode cX11_in 6 = .ok (.lload_n 0, 1) := by decide +kernel
theorem dX11_in_7 : decode cX11_in 7 = .ok (.lload 4, 2) := by decide +kernel
theorem dX11_in_9 : decode cX11_in 9 = .ok (.lcmp, 1) := by decide +kernel
theorem dX11_in_10 : decode cX11_in 10 = .ok (.ifCond .gt 7, 3) := by decide +kernel
theorem dX11_in_13 : decode cX11_in 13 = .ok (.iconst 1, 1) := by decide +kernel
theorem dX11_in_14 : decode cX11_in 14 = .ok (.goto 4, 3) := by decide +kernel
theorem dX11_in_17 : decode cX11_in 17 = .ok (.iconst 0, 1) := by decide +kernel
theorem dX11_in_18 : decode cX11_in 18 = .ok (.ireturn, 1) := by decide +kernel
theorem dX11_lost_0 : decode cX11_lost 0 = .ok (.ldc2_w 100, 3) := by decide +kernel
theorem dX11_lost_3 : decode cX11_lost 3 = .ok (.lreturn, 1) := by decide +kernel
theorem dX11_refused_0 : decode cX11_refused 0 = .ok (.aload_n 0, 1) := by decide +kernel
theorem dX11_refused_1 : decode cX11_refused 1 = .ok (.iconst 0, 1) := by decide +kernel
theorem dX11_refused_2 : decode cX11_refused 2 = .ok (.putfield 102, 3) := by decide +kernel
theorem dX11_refused_5 : decode cX11_refused 5 = .ok (.iload_n 1, 1) := by decide +kernel
theorem dX11_refused_6 : decode cX11_refused 6 = .ok (.ireturn, 1) := by decide +kernel
theorem dX11_failed_0 : decode cX11_failed 0 = .ok (.aload_n 0, 1) := by decide +kernel
theorem dX11_failed_1 : decode cX11_failed 1 = .ok (.iload_n 1, 1) := by decide +kernel
theorem dX11_failed_2 : decode cX11_failed 2 = .ok (.putfield 102, 3) := by decide +kernel
theorem dX11_failed_5 : decode cX11_failed 5 = .ok (.bipush (-10), 2) := by decide +kernel
theorem dX11_failed_7 : decode cX11_failed 7 = .ok (.iload_n 1, 1) := by decide +kernel
theorem dX11_failed_8 : decode cX11_failed 8 = .ok (.isub, 1) := by decide +kernel
theorem dX11_failed_9 : decode cX11_failed 9 = .ok (.ireturn, 1) := by decide +kernel
set_option maxRecDepth 20000 in
theorem ggX11_failedLong_X11_lost : GoodIn wsX11_failedLong wsX11_lost := goodIn_r _ [5, 6] (by decide +kernel) (by decide +kernel)
set_option maxRecDepth 20000 in
theorem gX11_failedLong_X11_lost : GoodIn wsX11_failedLong (va_wsS RX11 105 yX11_lost wsX11_lost) := goodIn_app (goodIn_of _ (by decide +kernel)) ggX11_failedLong_X11_lost
theorem dX11_failedLong_0 : decode cX11_failedLong 0 = .ok (.aload_n 0, 1) := by decide +kernel
theorem dX11_failedLong_1 : decode cX11_failedLong 1 = .ok (.iload_n 1, 1) := by decide +kernel
theorem dX11_failedLong_2 : decode cX11_failedLong 2 = .ok (.putfield 102, 3) := by decide +kernel
theorem dX11_failedLong_5 : decode cX11_failedLong 5 = .ok (.invokestatic 105, 3) := by decide +kernel
theorem dX11_failedLong_8 : decode cX11_failedLong 8 = .ok (.lreturn, 1) := by decide +kernel
set_option maxRecDepth 20000 in
theorem ggX11_isSquare_X11_in : GoodIn wsX11_isSquare wsX11_in := goodIn_r _ [6] (by decide +kernel) (by decide +kernel)
set_option maxRecDepth 20000 in
theorem gX11_isSquare_X11_in : GoodIn wsX11_isSquare (va_wsS RX11 111 yX11_in wsX11_in) := goodIn_app (goodIn_of _ (by decide +kernel)) ggX11_isSquare_X11_in
theorem dX11_isSquare_0 : decode cX11_isSquare 0 = .ok (.iload_n 0, 1) := by decide +kernel
theorem dX11_isSquare_1 : decode cX11_isSquare 1 = .ok (.i2l, 1) := by decide +kernel
theorem dX11_isSquare_2 : decode cX11_isSquare 2 = .ok (.lconst 0, 1) := by decide +kernel
theorem dX11_isSquare_3 : decode cX11_isSquare 3 = .ok (.ldc2_w 109, 3) := by decide +kernel
theorem dX11_isSquare_6 : decode cX11_isSquare 6 = .ok (.invokestatic 111, 3) := by decide +kernel
theorem dX11_isSquare_9 : decode cX11_isSquare 9 = .ok (.ifCond .eq 19, 3) := by decide +kernel
theorem dX11_isSquare_12 : decode cX11_isSquare 12 = .ok (.iload_n 1, 1) := by decide +kernel
theorem dX11_isSquare_13 : decode cX11_isSquare 13 = .ok (.i2l, 1) := by decide +kernel
theorem dX11_isSquare_14 : decode cX11_isSquare 14 = .ok (.lconst 0, 1) := by decide +kernel
theorem dX11_isSquare_15 : decode cX11_isSquare 15 = .ok (.ldc2_w 115, 3) := by decide +kernel
theorem dX11_isSquare_18 : decode cX11_isSquare 18 = .ok (.invokestatic 111, 3) := by decide +kernel
theorem dX11_isSquare_21 : decode cX11_isSquare 21 = .ok (.ifCond .eq 7, 3) := by decide +kernel
theorem dX11_isSquare_24 : decode cX11_isSquare 24 = .ok (.iconst 1, 1) := by decide +kernel
theorem dX11_isSquare_25 : decode cX11_isSquare 25 = .ok (.goto 4, 3) := by decide +kernel
theorem dX11_isSquare_28 : decode cX11_isSquare 28 = .ok (.iconst 0, 1) := by decide +kernel
theorem dX11_isSquare_29 : decode cX11_isSquare 29 = .ok (.ireturn, 1) := by decide +kernel
theorem dX11_layNew_0 : decode cX11_layNew 0 = .ok (.iconst 0, 1) := by decide +kernel
theorem dX11_layNew_1 : decode cX11_layNew 1 = .ok (.istore_n 1, 1) := by decide +kernel
theorem dX11_layNew_2 : decode cX11_layNew 2 = .ok (.iload_n 1, 1) := by decide +kernel
theorem dX11_layNew_3 : decode cX11_layNew 3 = .ok (.bipush 48, 2) := by decide +kernel
theorem dX11_layNew_5 : decode cX11_layNew 5 = .ok (.if_icmp .ge 33, 3) := by decide +kernel
theorem dX11_layNew_8 : decode cX11_layNew 8 = .ok (.aload_n 0, 1) := by decide +kernel
theorem dX11_layNew_9 : decode cX11_layNew 9 = .ok (.getfield 16, 3) := by decide +kernel
theorem dX11_layNew_12 : decode cX11_layNew 12 = .ok (.iload_n 1, 1) := by decide +kernel
theorem dX11_layNew_13 : decode cX11_layNew 13 = .ok (.aload_n 0, 1) := by decide +kernel
theorem dX11_layNew_14 : decode cX11_layNew 14 = .ok (.getfield 7, 3) := by decide +kernel
theorem dX11_layNew_17 : decode cX11_layNew 17 = .ok (.iload_n 1, 1) := by decide +kernel
theorem dX11_layNew_18 : decode cX11_layNew 18 = .ok (.iaload, 1) := by decide +kernel
theorem dX11_layNew_19 : decode cX11_layNew 19 = .ok (.iastore, 1) := by decide +kernel
theorem dX11_layNew_20 : decode cX11_layNew 20 = .ok (.aload_n 0, 1) := by decide +kernel
theorem dX11_layNew_21 : decode cX11_layNew 21 = .ok (.getfield 19, 3) := by decide +kernel
theorem dX11_layNew_24 : decode cX11_layNew 24 = .ok (.iload_n 1, 1) := by decide +kernel
theorem dX11_layNew_25 : decode cX11_layNew 25 = .ok (.aload_n 0, 1) := by decide +kernel
theorem dX11_layNew_26 : decode cX11_layNew 26 = .ok (.getfield 13, 3) := by decide +kernel
theorem dX11_layNew_29 : decode cX11_layNew 29 = .ok (.iload_n 1, 1) := by decide +kernel
theorem dX11_layNew_30 : decode cX11_layNew 30 = .ok (.iaload, 1) := by decide +kernel
theorem dX11_layNew_31 : decode cX11_layNew 31 = .ok (.iastore, 1) := by decide +kernel
theorem dX11_layNew_32 : decode cX11_layNew 32 = .ok (.iinc 1 1, 3) := by decide +kernel
theorem dX11_layNew_35 : decode cX11_layNew 35 = .ok (.goto (-33), 3) := by decide +kernel
theorem dX11_layNew_38 : decode cX11_layNew 38 = .ok (.return_, 1) := by decide +kernel
theorem dX11_meet_0 : decode cX11_meet 0 = .ok (.iload_n 2, 1) := by decide +kernel
theorem dX11_meet_1 : decode cX11_meet 1 = .ok (.aload_n 0, 1) := by decide +kernel
theorem dX11_meet_2 : decode cX11_meet 2 = .ok (.getfield 16, 3) := by decide +kernel
theorem dX11_meet_5 : decode cX11_meet 5 = .ok (.iload_n 1, 1) := by decide +kernel
theorem dX11_meet_6 : decode cX11_meet 6 = .ok (.iaload, 1) := by decide +kernel
theorem dX11_meet_7 : decode cX11_meet 7 = .ok (.if_icmp .le 15, 3) := by decide +kernel
theorem dX11_meet_10 : decode cX11_meet 10 = .ok (.aload_n 0, 1) := by decide +kernel
theorem dX11_meet_11 : decode cX11_meet 11 = .ok (.getfield 16, 3) := by decide +kernel
theorem dX11_meet_14 : decode cX11_meet 14 = .ok (.iload_n 1, 1) := by decide +kernel
theorem dX11_meet_15 : decode cX11_meet 15 = .ok (.iload_n 2, 1) := by decide +kernel
theorem dX11_meet_16 : decode cX11_meet 16 = .ok (.iastore, 1) := by decide +kernel
theorem dX11_meet_17 : decode cX11_meet 17 = .ok (.aload_n 0, 1) := by decide +kernel
theorem dX11_meet_18 : decode cX11_meet 18 = .ok (.iconst 1, 1) := by decide +kernel
theorem dX11_meet_19 : decode cX11_meet 19 = .ok (.putfield 117, 3) := by decide +kernel
theorem dX11_meet_22 : decode cX11_meet 22 = .ok (.iload_n 3, 1) := by decide +kernel
theorem dX11_meet_23 : decode cX11_meet 23 = .ok (.aload_n 0, 1) := by decide +kernel
theorem dX11_meet_24 : decode cX11_meet 24 = .ok (.getfield 19, 3) := by decide +kernel
theorem dX11_meet_27 : decode cX11_meet 27 = .ok (.iload_n 1, 1) := by decide +kernel
theorem dX11_meet_28 : decode cX11_meet 28 = .ok (.iaload, 1) := by decide +kernel
theorem dX11_meet_29 : decode cX11_meet 29 = .ok (.if_icmp .ge 15, 3) := by decide +kernel
theorem dX11_meet_32 : decode cX11_meet 32 = .ok (.aload_n 0, 1) := by decide +kernel
theorem dX11_meet_33 : decode cX11_meet 33 = .ok (.getfield 19, 3) := by decide +kernel
theorem dX11_meet_36 : decode cX11_meet 36 = .ok (.iload_n 1, 1) := by decide +kernel
theorem dX11_meet_37 : decode cX11_meet 37 = .ok (.iload_n 3, 1) := by decide +kernel
theorem dX11_meet_38 : decode cX11_meet 38 = .ok (.iastore, 1) := by decide +kernel
theorem dX11_meet_39 : decode cX11_meet 39 = .ok (.aload_n 0, 1) := by decide +kernel
theorem dX11_meet_40 : decode cX11_meet 40 = .ok (.iconst 1, 1) := by decide +kernel
theorem dX11_meet_41 : decode cX11_meet 41 = .ok (.putfield 117, 3) := by decide +kernel
theorem dX11_meet_44 : decode cX11_meet 44 = .ok (.return_, 1) := by decide +kernel
set_option maxRecDepth 20000 in
theorem ggX11_meetNeighbour_X11_isSquare : GoodIn wsX11_meetNeighbour wsX11_isSquare := goodIn_r _ [6, 7, 8, 9, 10, 5, 11] (by decide +kernel) (by decide +kernel)
set_option maxRecDepth 20000 in
theorem gX11_meetNeighbour_X11_isSquare : GoodIn wsX11_meetNeighbour (va_wsS RX11 121 yX11_isSquare wsX11_isSquare) := goodIn_app (goodIn_of _ (by decide +kernel)) ggX11_meetNeighbour_X11_isSquare
set_option maxRecDepth 20000 in
theorem ggX11_meetNeighbour_X11_meet : GoodIn wsX11_meetNeighbour wsX11_meet := goodIn_r _ [15, 1, 16, 2, 17, 18, 19, 20, 21, 22, 23, 24, 25, 26, 27, 28, 29, 30, 31, 32, 33, 34, 35, 36, 37, 38, 39, 40, 41, 42, 43, 44, 45, 46, 47, 48, 49, 50, 51, 52, 53, 54, 55] (by decide +kernel) (by decide +kernel)
set_option maxRecDepth 20000 in
theorem gX11_meetNeighbour_X11_meet : GoodIn wsX11_meetNeighbour (wsV RX11 125 RX11 yX11_meet wsX11_meet) := goodIn_app (goodIn_of _ (by decide +kernel)) ggX11_meetNeighbour_X11_meet
theorem dX11_meetNeighbour_0 : decode cX11_meetNeighbour 0 = .ok (.iload_n 2, 1) := by decide +kernel
theorem dX11_meetNeighbour_1 : decode cX11_meetNeighbour 1 = .ok (.iload_n 3, 1) := by decide +kernel
theorem dX11_meetNeighbour_2 : decode cX11_meetNeighbour 2 = .ok (.invokestatic 121, 3) := by decide +kernel
theorem dX11_meetNeighbour_5 : decode cX11_meetNeighbour 5 = .ok (.ifCond .eq 36, 3) := by decide +kernel
theorem dX11_meetNeighbour_8 : decode cX11_meetNeighbour 8 = .ok (.aload_n 0, 1) := by decide +kernel
theorem dX11_meetNeighbour_9 : decode cX11_meetNeighbour 9 = .ok (.iload_n 1, 1) := by decide +kernel
theorem dX11_meetNeighbour_10 : decode cX11_meetNeighbour 10 = .ok (.aload_n 0, 1) := by decide +kernel
theorem dX11_meetNeighbour_11 : decode cX11_meetNeighbour 11 = .ok (.getfield 16, 3) := by decide +kernel
theorem dX11_meetNeighbour_14 : decode cX11_meetNeighbour 14 = .ok (.bipush 8, 2) := by decide +kernel
theorem dX11_meetNeighbour_16 : decode cX11_meetNeighbour 16 = .ok (.iload_n 3, 1) := by decide +kernel
theorem dX11_meetNeighbour_17 : decode cX11_meetNeighbour 17 = .ok (.imul, 1) := by decide +kernel
theorem dX11_meetNeighbour_18 : decode cX11_meetNeighbour 18 = .ok (.iload_n 2, 1) := by decide +kernel
theorem dX11_meetNeighbour_19 : decode cX11_meetNeighbour 19 = .ok (.iadd, 1) := by decide +kernel
theorem dX11_meetNeighbour_20 : decode cX11_meetNeighbour 20 = .ok (.iaload, 1) := by decide +kernel
theorem dX11_meetNeighbour_21 : decode cX11_meetNeighbour 21 = .ok (.iload 4, 2) := by decide +kernel
theorem dX11_meetNeighbour_23 : decode cX11_meetNeighbour 23 = .ok (.isub, 1) := by decide +kernel
theorem dX11_meetNeighbour_24 : decode cX11_meetNeighbour 24 = .ok (.aload_n 0, 1) := by decide +kernel
theorem dX11_meetNeighbour_25 : decode cX11_meetNeighbour 25 = .ok (.getfield 19, 3) := by decide +kernel
theorem dX11_meetNeighbour_28 : decode cX11_meetNeighbour 28 = .ok (.bipush 8, 2) := by decide +kernel
theorem dX11_meetNeighbour_30 : decode cX11_meetNeighbour 30 = .ok (.iload_n 3, 1) := by decide +kernel
theorem dX11_meetNeighbour_31 : decode cX11_meetNeighbour 31 = .ok (.imul, 1) := by decide +kernel
theorem dX11_meetNeighbour_32 : decode cX11_meetNeighbour 32 = .ok (.iload_n 2, 1) := by decide +kernel
theorem dX11_meetNeighbour_33 : decode cX11_meetNeighbour 33 = .ok (.iadd, 1) := by decide +kernel
theorem dX11_meetNeighbour_34 : decode cX11_meetNeighbour 34 = .ok (.iaload, 1) := by decide +kernel
theorem dX11_meetNeighbour_35 : decode cX11_meetNeighbour 35 = .ok (.iload 4, 2) := by decide +kernel
theorem dX11_meetNeighbour_37 : decode cX11_meetNeighbour 37 = .ok (.iadd, 1) := by decide +kernel
theorem dX11_meetNeighbour_38 : decode cX11_meetNeighbour 38 = .ok (.invokevirtual 125, 3) := by decide +kernel
theorem dX11_meetNeighbour_41 : decode cX11_meetNeighbour 41 = .ok (.return_, 1) := by decide +kernel
set_option maxRecDepth 20000 in
theorem ggX11_narrowed_X11_meetNeighbour : GoodIn wsX11_narrowed wsX11_meetNeighbour := goodIn_r _ [11, 2, 3, 12, 13, 10, 14, 15, 16, 17, 18, 19, 20, 21, 22, 23, 1, 24, 25, 26, 27, 28, 29, 30, 31, 32, 33, 34, 35, 36, 37, 38, 39, 40, 41, 42, 43, 44, 45, 46, 47, 48, 49, 50, 51, 52, 53, 54, 55, 56, 57, 58, 59, 60, 61, 62] (by decide +kernel) (by decide +kernel)
set_option maxRecDepth 20000 in
theorem gX11_narrowed_X11_meetNeighbour : GoodIn wsX11_narrowed (wsV RX11 129 RX11 yX11_meetNeighbour wsX11_meetNeighbour) := goodIn_app (goodIn_of _ (by decide +kernel)) ggX11_narrowed_X11_meetNeighbour
theorem dX11_narrowed_0 : decode cX11_narrowed 0 = .ok (.aload_n 0, 1) := by decide +kernel
theorem dX11_narrowed_1 : decode cX11_narrowed 1 = .ok (.iconst 1, 1) := by decide +kernel
theorem dX11_narrowed_2 : decode cX11_narrowed 2 = .ok (.putfield 117, 3) := by decide +kernel
theorem dX11_narrowed_5 : decode cX11_narrowed 5 = .ok (.aload_n 0, 1) := by decide +kernel
theorem dX11_narrowed_6 : decode cX11_narrowed 6 = .ok (.getfield 117, 3) := by decide +kernel
theorem dX11_narrowed_9 : decode cX11_narrowed 9 = .ok (.ifCond .eq 107, 3) := by decide +kernel
theorem dX11_narrowed_12 : decode cX11_narrowed 12 = .ok (.aload_n 0, 1) := by decide +kernel
theorem dX11_narrowed_13 : decode cX11_narrowed 13 = .ok (.iconst 0, 1) := by decide +kernel
theorem dX11_narrowed_14 : decode cX11_narrowed 14 = .ok (.putfield 117, 3) := by decide +kernel
theorem dX11_narrowed_17 : decode cX11_narrowed 17 = .ok (.iconst 0, 1) := by decide +kernel
theorem dX11_narrowed_18 : decode cX11_narrowed 18 = .ok (.istore_n 2, 1) := by decide +kernel
theorem dX11_narrowed_19 : decode cX11_narrowed 19 = .ok (.iload_n 2, 1) := by decide +kernel
theorem dX11_narrowed_20 : decode cX11_narrowed 20 = .ok (.bipush 48, 2) := by decide +kernel
theorem dX11_narrowed_22 : decode cX11_narrowed 22 = .ok (.if_icmp .ge 91, 3) := by decide +kernel
theorem dX11_narrowed_25 : decode cX11_narrowed 25 = .ok (.aload_n 0, 1) := by decide +kernel
theorem dX11_narrowed_26 : decode cX11_narrowed 26 = .ok (.getfield 16, 3) := by decide +kernel
theorem dX11_narrowed_29 : decode cX11_narrowed 29 = .ok (.iload_n 2, 1) := by decide +kernel
theorem dX11_narrowed_30 : decode cX11_narrowed 30 = .ok (.iaload, 1) := by decide +kernel
theorem dX11_narrowed_31 : decode cX11_narrowed 31 = .ok (.aload_n 0, 1) := by decide +kernel
theorem dX11_narrowed_32 : decode cX11_narrowed 32 = .ok (.getfield 19, 3) := by decide +kernel
theorem dX11_narrowed_35 : decode cX11_narrowed 35 = .ok (.iload_n 2, 1) := by decide +kernel
theorem dX11_narrowed_36 : decode cX11_narrowed 36 = .ok (.iaload, 1) := by decide +kernel
theorem dX11_narrowed_37 : decode cX11_narrowed 37 = .ok (.if_icmp .le 6, 3) := by decide +kernel
theorem dX11_narrowed_40 : decode cX11_narrowed 40 = .ok (.bipush (-3), 2) := by decide +kernel
theorem dX11_narrowed_42 : decode cX11_narrowed 42 = .ok (.ireturn, 1) := by decide +kernel
theorem dX11_narrowed_43 : decode cX11_narrowed 43 = .ok (.aload_n 0, 1) := by decide +kernel
theorem dX11_narrowed_44 : decode cX11_narrowed 44 = .ok (.iload_n 2, 1) := by decide +kernel
theorem dX11_narrowed_45 : decode cX11_narrowed 45 = .ok (.iload_n 2, 1) := by decide +kernel
theorem dX11_narrowed_46 : decode cX11_narrowed 46 = .ok (.bipush 8, 2) := by decide +kernel
theorem dX11_narrowed_48 : decode cX11_narrowed 48 = .ok (.irem, 1) := by decide +kernel
theorem dX11_narrowed_49 : decode cX11_narrowed 49 = .ok (.iconst 1, 1) := by decide +kernel
theorem dX11_narrowed_50 : decode cX11_narrowed 50 = .ok (.isub, 1) := by decide +kernel
theorem dX11_narrowed_51 : decode cX11_narrowed 51 = .ok (.iload_n 2, 1) := by decide +kernel
theorem dX11_narrowed_52 : decode cX11_narrowed 52 = .ok (.bipush 8, 2) := by decide +kernel
theorem dX11_narrowed_54 : decode cX11_narrowed 54 = .ok (.idiv, 1) := by decide +kernel
theorem dX11_narrowed_55 : decode cX11_narrowed 55 = .ok (.iload_n 1, 1) := by decide +kernel
theorem dX11_narrowed_56 : decode cX11_narrowed 56 = .ok (.invokevirtual 129, 3) := by decide +kernel
theorem dX11_narrowed_59 : decode cX11_narrowed 59 = .ok (.aload_n 0, 1) := by decide +kernel
theorem dX11_narrowed_60 : decode cX11_narrowed 60 = .ok (.iload_n 2, 1) := by decide +kernel
theorem dX11_narrowed_61 : decode cX11_narrowed 61 = .ok (.iload_n 2, 1) := by decide +kernel
theorem dX11_narrowed_62 : decode cX11_narrowed 62 = .ok (.bipush 8, 2) := by decide +kernel
theorem dX11_narrowed_64 : decode cX11_narrowed 64 = .ok (.irem, 1) := by decide +kernel
theorem dX11_narrowed_65 : decode cX11_narrowed 65 = .ok (.iconst 1, 1) := by decide +kernel
theorem dX11_narrowed_66 : decode cX11_narrowed 66 = .ok (.iadd, 1) := by decide +kernel
theorem dX11_narrowed_67 : decode cX11_narrowed 67 = .ok (.iload_n 2, 1) := by decide +kernel
theorem dX11_narrowed_68 : decode cX11_narrowed 68 = .ok (.bipush 8, 2) := by decide +kernel
theorem dX11_narrowed_70 : decode cX11_narrowed 70 = .ok (.idiv, 1) := by decide +kernel
theorem dX11_narrowed_71 : decode cX11_narrowed 71 = .ok (.iload_n 1, 1) := by decide +kernel
theorem dX11_narrowed_72 : decode cX11_narrowed 72 = .ok (.invokevirtual 129, 3) := by decide +kernel
theorem dX11_narrowed_75 : decode cX11_narrowed 75 = .ok (.aload_n 0, 1) := by decide +kernel
theorem dX11_narrowed_76 : decode cX11_narrowed 76 = .ok (.iload_n 2, 1) := by decide +kernel
theorem dX11_narrowed_77 : decode cX11_narrowed 77 = .ok (.iload_n 2, 1) := by decide +kernel
theorem dX11_narrowed_78 : decode cX11_narrowed 78 = .ok (.bipush 8, 2) := by decide +kernel
theorem dX11_narrowed_80 : decode cX11_narrowed 80 = .ok (.irem, 1) := by decide +kernel
theorem dX11_narrowed_81 : decode cX11_narrowed 81 = .ok (.iload_n 2, 1) := by decide +kernel
theorem dX11_narrowed_82 : decode cX11_narrowed 82 = .ok (.bipush 8, 2) := by decide +kernel
theorem dX11_narrowed_84 : decode cX11_narrowed 84 = .ok (.idiv, 1) := by decide +kernel
theorem dX11_narrowed_85 : decode cX11_narrowed 85 = .ok (.iconst 1, 1) := by decide +kernel
theorem dX11_narrowed_86 : decode cX11_narrowed 86 = .ok (.isub, 1) := by decide +kernel
theorem dX11_narrowed_87 : decode cX11_narrowed 87 = .ok (.iload_n 1, 1) := by decide +kernel
theorem dX11_narrowed_88 : decode cX11_narrowed 88 = .ok (.invokevirtual 129, 3) := by decide +kernel
theorem dX11_narrowed_91 : decode cX11_narrowed 91 = .ok (.aload_n 0, 1) := by decide +kernel
theorem dX11_narrowed_92 : decode cX11_narrowed 92 = .ok (.iload_n 2, 1) := by decide +kernel
theorem dX11_narrowed_93 : decode cX11_narrowed 93 = .ok (.iload_n 2, 1) := by decide +kernel
theorem dX11_narrowed_94 : decode cX11_narrowed 94 = .ok (.bipush 8, 2) := by decide +kernel
theorem dX11_narrowed_96 : decode cX11_narrowed 96 = .ok (.irem, 1) := by decide +kernel
theorem dX11_narrowed_97 : decode cX11_narrowed 97 = .ok (.iload_n 2, 1) := by decide +kernel
theorem dX11_narrowed_98 : decode cX11_narrowed 98 = .ok (.bipush 8, 2) := by decide +kernel
theorem dX11_narrowed_100 : decode cX11_narrowed 100 = .ok (.idiv, 1) := by decide +kernel
theorem dX11_narrowed_101 : decode cX11_narrowed 101 = .ok (.iconst 1, 1) := by decide +kernel
theorem dX11_narrowed_102 : decode cX11_narrowed 102 = .ok (.iadd, 1) := by decide +kernel
theorem dX11_narrowed_103 : decode cX11_narrowed 103 = .ok (.iload_n 1, 1) := by decide +kernel
theorem dX11_narrowed_104 : decode cX11_narrowed 104 = .ok (.invokevirtual 129, 3) := by decide +kernel
theorem dX11_narrowed_107 : decode cX11_narrowed 107 = .ok (.iinc 2 1, 3) := by decide +kernel
theorem dX11_narrowed_110 : decode cX11_narrowed 110 = .ok (.goto (-91), 3) := by decide +kernel
theorem dX11_narrowed_113 : decode cX11_narrowed 113 = .ok (.goto (-108), 3) := by decide +kernel
theorem dX11_narrowed_116 : decode cX11_narrowed 116 = .ok (.iconst 0, 1) := by decide +kernel
theorem dX11_narrowed_117 : decode cX11_narrowed 117 = .ok (.istore_n 2, 1) := by decide +kernel
theorem dX11_narrowed_118 : decode cX11_narrowed 118 = .ok (.iconst 0, 1) := by decide +kernel
theorem dX11_narrowed_119 : decode cX11_narrowed 119 = .ok (.istore_n 3, 1) := by decide +kernel
theorem dX11_narrowed_120 : decode cX11_narrowed 120 = .ok (.iload_n 3, 1) := by decide +kernel
theorem dX11_narrowed_121 : decode cX11_narrowed 121 = .ok (.bipush 48, 2) := by decide +kernel
theorem dX11_narrowed_123 : decode cX11_narrowed 123 = .ok (.if_icmp .ge 27, 3) := by decide +kernel
theorem dX11_narrowed_126 : decode cX11_narrowed 126 = .ok (.aload_n 0, 1) := by decide +kernel
theorem dX11_narrowed_127 : decode cX11_narrowed 127 = .ok (.getfield 16, 3) := by decide +kernel
theorem dX11_narrowed_130 : decode cX11_narrowed 130 = .ok (.iload_n 3, 1) := by decide +kernel
theorem dX11_narrowed_131 : decode cX11_narrowed 131 = .ok (.iaload, 1) := by decide +kernel
theorem dX11_narrowed_132 : decode cX11_narrowed 132 = .ok (.aload_n 0, 1) := by decide +kernel
theorem dX11_narrowed_133 : decode cX11_narrowed 133 = .ok (.getfield 19, 3) := by decide +kernel
theorem dX11_narrowed_136 : decode cX11_narrowed 136 = .ok (.iload_n 3, 1) := by decide +kernel
theorem dX11_narrowed_137 : decode cX11_narrowed 137 = .ok (.iaload, 1) := by decide +kernel
theorem dX11_narrowed_138 : decode cX11_narrowed 138 = .ok (.if_icmp .le 6, 3) := by decide +kernel
theorem dX11_narrowed_141 : decode cX11_narrowed 141 = .ok (.bipush (-3), 2) := by decide +kernel
theorem dX11_narrowed_143 : decode cX11_narrowed 143 = .ok (.ireturn, 1) := by decide +kernel
theorem dX11_narrowed_144 : decode cX11_narrowed 144 = .ok (.iinc 3 1, 3) := by decide +kernel
theorem dX11_narrowed_147 : decode cX11_narrowed 147 = .ok (.goto (-27), 3) := by decide +kernel
theorem dX11_narrowed_150 : decode cX11_narrowed 150 = .ok (.iconst 0, 1) := by decide +kernel
theorem dX11_narrowed_151 : decode cX11_narrowed 151 = .ok (.istore_n 3, 1) := by decide +kernel
theorem dX11_narrowed_152 : decode cX11_narrowed 152 = .ok (.iload_n 3, 1) := by decide +kernel
theorem dX11_narrowed_153 : decode cX11_narrowed 153 = .ok (.bipush 48, 2) := by decide +kernel
theorem dX11_narrowed_155 : decode cX11_narrowed 155 = .ok (.if_icmp .ge 71, 3) := by decide +kernel
theorem dX11_narrowed_158 : decode cX11_narrowed 158 = .ok (.iload_n 2, 1) := by decide +kernel
theorem dX11_narrowed_159 : decode cX11_narrowed 159 = .ok (.aload_n 0, 1) := by decide +kernel
theorem dX11_narrowed_160 : decode cX11_narrowed 160 = .ok (.getfield 16, 3) := by decide +kernel
theorem dX11_narrowed_163 : decode cX11_narrowed 163 = .ok (.iload_n 3, 1) := by decide +kernel
theorem dX11_narrowed_164 : decode cX11_narrowed 164 = .ok (.iaload, 1) := by decide +kernel
theorem dX11_narrowed_165 : decode cX11_narrowed 165 = .ok (.aload_n 0, 1) := by decide +kernel
theorem dX11_narrowed_166 : decode cX11_narrowed 166 = .ok (.getfield 7, 3) := by decide +kernel
theorem dX11_narrowed_169 : decode cX11_narrowed 169 = .ok (.iload_n 3, 1) := by decide +kernel
theorem dX11_narrowed_170 : decode cX11_narrowed 170 = .ok (.iaload, 1) := by decide +kernel
theorem dX11_narrowed_171 : decode cX11_narrowed 171 = .ok (.if_icmp .ne 18, 3) := by decide +kernel
theorem dX11_narrowed_174 : decode cX11_narrowed 174 = .ok (.aload_n 0, 1) := by decide +kernel
theorem dX11_narrowed_175 : decode cX11_narrowed 175 = .ok (.getfield 19, 3) := by decide +kernel
theorem dX11_narrowed_178 : decode cX11_narrowed 178 = .ok (.iload_n 3, 1) := by decide +kernel
theorem dX11_narrowed_179 : decode cX11_narrowed 179 = .ok (.iaload, 1) := by decide +kernel
theorem dX11_narrowed_180 : decode cX11_narrowed 180 = .ok (.aload_n 0, 1) := by decide +kernel
theorem dX11_narrowed_181 : decode cX11_narrowed 181 = .ok (.getfield 13, 3) := by decide +kernel
theorem dX11_narrowed_184 : decode cX11_narrowed 184 = .ok (.iload_n 3, 1) := by decide +kernel
theorem dX11_narrowed_185 : decode cX11_narrowed 185 = .ok (.iaload, 1) := by decide +kernel
theorem dX11_narrowed_186 : decode cX11_narrowed 186 = .ok (.if_icmp .eq 7, 3) := by decide +kernel
theorem dX11_narrowed_189 : decode cX11_narrowed 189 = .ok (.iconst 1, 1) := by decide +kernel
theorem dX11_narrowed_190 : decode cX11_narrowed 190 = .ok (.goto 4, 3) := by decide +kernel
theorem dX11_narrowed_193 : decode cX11_narrowed 193 = .ok (.iconst 0, 1) := by decide +kernel
theorem dX11_narrowed_194 : decode cX11_narrowed 194 = .ok (.iadd, 1) := by decide +kernel
theorem dX11_narrowed_195 : decode cX11_narrowed 195 = .ok (.istore_n 2, 1) := by decide +kernel
theorem dX11_narrowed_196 : decode cX11_narrowed 196 = .ok (.aload_n 0, 1) := by decide +kernel
theorem dX11_narrowed_197 : decode cX11_narrowed 197 = .ok (.getfield 7, 3) := by decide +kernel
theorem dX11_narrowed_200 : decode cX11_narrowed 200 = .ok (.iload_n 3, 1) := by decide +kernel
theorem dX11_narrowed_201 : decode cX11_narrowed 201 = .ok (.aload_n 0, 1) := by decide +kernel
theorem dX11_narrowed_202 : decode cX11_narrowed 202 = .ok (.getfield 16, 3) := by decide +kernel
theorem dX11_narrowed_205 : decode cX11_narrowed 205 = .ok (.iload_n 3, 1) := by decide +kernel
theorem dX11_narrowed_206 : decode cX11_narrowed 206 = .ok (.iaload, 1) := by decide +kernel
theorem dX11_narrowed_207 : decode cX11_narrowed 207 = .ok (.iastore, 1) := by decide +kernel
theorem dX11_narrowed_208 : decode cX11_narrowed 208 = .ok (.aload_n 0, 1) := by decide +kernel
theorem dX11_narrowed_209 : decode cX11_narrowed 209 = .ok (.getfield 13, 3) := by decide +kernel
theorem dX11_narrowed_212 : decode cX11_narrowed 212 = .ok (.iload_n 3, 1) := by decide +kernel
theorem dX11_narrowed_213 : decode cX11_narrowed 213 = .ok (.aload_n 0, 1) := by decide +kernel
theorem dX11_narrowed_214 : decode cX11_narrowed 214 = .ok (.getfield 19, 3) := by decide +kernel
theorem dX11_narrowed_217 : decode cX11_narrowed 217 = .ok (.iload_n 3, 1) := by decide +kernel
theorem dX11_narrowed_218 : decode cX11_narrowed 218 = .ok (.iaload, 1) := by decide +kernel
theorem dX11_narrowed_219 : decode cX11_narrowed 219 = .ok (.iastore, 1) := by decide +kernel
theorem dX11_narrowed_220 : decode cX11_narrowed 220 = .ok (.iinc 3 1, 3) := by decide +kernel
theorem dX11_narrowed_223 : decode cX11_narrowed 223 = .ok (.goto (-71), 3) := by decide +kernel
theorem dX11_narrowed_226 : decode cX11_narrowed 226 = .ok (.aload_n 0, 1) := by decide +kernel
theorem dX11_narrowed_227 : decode cX11_narrowed 227 = .ok (.iload_n 1, 1) := by decide +kernel
theorem dX11_narrowed_228 : decode cX11_narrowed 228 = .ok (.putfield 93, 3) := by decide +kernel
theorem dX11_narrowed_231 : decode cX11_narrowed 231 = .ok (.iload_n 2, 1) := by decide +kernel
theorem dX11_narrowed_232 : decode cX11_narrowed 232 = .ok (.ireturn, 1) := by decide +kernel
set_option maxRecDepth 20000 in
theorem ggX11_find_X11_isSquare : GoodIn wsX11_find wsX11_isSquare := goodIn_r _ [6, 7, 8, 9, 10, 5, 11] (by decide +kernel) (by decide +kernel)
set_option maxRecDepth 20000 in
theorem gX11_find_X11_isSquare : GoodIn wsX11_find (va_wsS RX11 121 yX11_isSquare wsX11_isSquare) := goodIn_app (goodIn_of _ (by decide +kernel)) ggX11_find_X11_isSquare
set_option maxRecDepth 20000 in
theorem ggX11_find_X11_in : GoodIn wsX11_find wsX11_in := goodIn_r _ [11] (by decide +kernel) (by decide +kernel)
set_option maxRecDepth 20000 in
theorem gX11_find_X11_in : GoodIn wsX11_find (va_wsS RX11 111 yX11_in wsX11_in) := goodIn_app (goodIn_of _ (by decide +kernel)) ggX11_find_X11_in
set_option maxRecDepth 20000 in
theorem ggX11_find_X11_layNew : GoodIn wsX11_find wsX11_layNew := goodIn_r _ [15, 16, 17, 18, 19, 33, 34, 35, 36, 37, 38, 39, 40, 41, 42, 43, 44, 45, 46, 47, 48, 49, 50, 51, 52, 53, 54, 55, 56, 57, 58, 59, 60, 61, 62, 63, 64, 65, 66, 67, 68, 69, 70, 71] (by decide +kernel) (by decide +kernel)
set_option maxRecDepth 20000 in
theorem gX11_find_X11_layNew : GoodIn wsX11_find (wsV RX11 135 RX11 yX11_layNew wsX11_layNew) := goodIn_app (goodIn_of _ (by decide +kernel)) ggX11_find_X11_layNew
set_option maxRecDepth 20000 in
theorem ggX11_find_X11_meet : GoodIn wsX11_find wsX11_meet := goodIn_r _ [23, 16, 24, 18, 33, 34, 35, 36, 37, 38, 39, 40, 41, 42, 43, 44, 45, 46, 47, 48, 49, 50, 51, 52, 53, 54, 55, 56, 57, 58, 59, 60, 61, 62, 63, 64, 65, 66, 67, 68, 69, 70, 71] (by decide +kernel) (by decide +kernel)
set_option maxRecDepth 20000 in
theorem gX11_find_X11_meet : GoodIn wsX11_find (wsV RX11 125 RX11 yX11_meet wsX11_meet) := goodIn_app (goodIn_of _ (by decide +kernel)) ggX11_find_X11_meet
set_option maxRecDepth 20000 in
theorem ggX11_find_X11_narrowed : GoodIn wsX11_find wsX11_narrowed := goodIn_r _ [28, 24, 16, 18, 17, 19, 2, 29, 30, 31, 5, 32, 3, 4, 6, 7, 8, 9, 10, 11, 20, 21, 22, 23, 33, 34, 35, 36, 37, 38, 39, 40, 41, 42, 43, 44, 45, 46, 47, 48, 49, 50, 51, 52, 53, 54, 55, 56, 57, 58, 59, 60, 61, 62, 63, 64, 65, 66, 67, 68, 69, 70, 71] (by decide +kernel) (by decide +kernel)
set_option maxRecDepth 20000 in
theorem gX11_find_X11_narrowed : GoodIn wsX11_find (wsV RX11 138 RX11 yX11_narrowed wsX11_narrowed) := goodIn_app (goodIn_of _ (by decide +kernel)) ggX11_find_X11_narrowed
theorem dX11_find_0 : decode cX11_find 0 = .ok (.iload_n 1, 1) := by decide +kernel
theorem dX11_find_1 : decode cX11_find 1 = .ok (.iload_n 2, 1) := by decide +kernel
theorem dX11_find_2 : decode cX11_find 2 = .ok (.invokestatic 121, 3) := by decide +kernel
theorem dX11_find_5 : decode cX11_find 5 = .ok (.ifCond .ne 5, 3) := by decide +kernel
theorem dX11_find_8 : decode cX11_find 8 = .ok (.iconst (-1), 1) := by decide +kernel
theorem dX11_find_9 : decode cX11_find 9 = .ok (.ireturn, 1) := by decide +kernel
theorem dX11_find_10 : decode cX11_find 10 = .ok (.iload_n 3, 1) := by decide +kernel
theorem dX11_find_11 : decode cX11_find 11 = .ok (.i2l, 1) := by decide +kernel
theorem dX11_find_12 : decode cX11_find 12 = .ok (.lconst 0, 1) := by decide +kernel
theorem dX11_find_13 : decode cX11_find 13 = .ok (.ldc2_w 133, 3) := by decide +kernel
theorem dX11_find_16 : decode cX11_find 16 = .ok (.invokestatic 111, 3) := by decide +kernel
theorem dX11_find_19 : decode cX11_find 19 = .ok (.ifCond .eq 17, 3) := by decide +kernel
theorem dX11_find_22 : decode cX11_find 22 = .ok (.iload 4, 2) := by decide +kernel
theorem dX11_find_24 : decode cX11_find 24 = .ok (.i2l, 1) := by decide +kernel
theorem dX11_find_25 : decode cX11_find 25 = .ok (.iload_n 3, 1) := by decide +kernel
theorem dX11_find_26 : decode cX11_find 26 = .ok (.i2l, 1) := by decide +kernel
theorem dX11_find_27 : decode cX11_find 27 = .ok (.ldc2_w 133, 3) := by decide +kernel
theorem dX11_find_30 : decode cX11_find 30 = .ok (.invokestatic 111, 3) := by decide +kernel
theorem dX11_find_33 : decode cX11_find 33 = .ok (.ifCond .ne 6, 3) := by decide +kernel
theorem dX11_find_36 : decode cX11_find 36 = .ok (.bipush (-2), 2) := by decide +kernel
theorem dX11_find_38 : decode cX11_find 38 = .ok (.ireturn, 1) := by decide +kernel
theorem dX11_find_39 : decode cX11_find 39 = .ok (.aload_n 0, 1) := by decide +kernel
theorem dX11_find_40 : decode cX11_find 40 = .ok (.invokevirtual 135, 3) := by decide +kernel
theorem dX11_find_43 : decode cX11_find 43 = .ok (.aload_n 0, 1) := by decide +kernel
theorem dX11_find_44 : decode cX11_find 44 = .ok (.bipush 8, 2) := by decide +kernel
theorem dX11_find_46 : decode cX11_find 46 = .ok (.iload_n 2, 1) := by decide +kernel
theorem dX11_find_47 : decode cX11_find 47 = .ok (.imul, 1) := by decide +kernel
theorem dX11_find_48 : decode cX11_find 48 = .ok (.iload_n 1, 1) := by decide +kernel
theorem dX11_find_49 : decode cX11_find 49 = .ok (.iadd, 1) := by decide +kernel
theorem dX11_find_50 : decode cX11_find 50 = .ok (.iload_n 3, 1) := by decide +kernel
theorem dX11_find_51 : decode cX11_find 51 = .ok (.iload 4, 2) := by decide +kernel
theorem dX11_find_53 : decode cX11_find 53 = .ok (.invokevirtual 125, 3) := by decide +kernel
theorem dX11_find_56 : decode cX11_find 56 = .ok (.aload_n 0, 1) := by decide +kernel
theorem dX11_find_57 : decode cX11_find 57 = .ok (.aload_n 0, 1) := by decide +kernel
theorem dX11_find_58 : decode cX11_find 58 = .ok (.getfield 93, 3) := by decide +kernel
theorem dX11_find_61 : decode cX11_find 61 = .ok (.invokevirtual 138, 3) := by decide +kernel
theorem dX11_find_64 : decode cX11_find 64 = .ok (.ireturn, 1) := by decide +kernel
set_option maxRecDepth 20000 in
theorem ggX11_rise_X11_in : GoodIn wsX11_rise wsX11_in := goodIn_r _ [6] (by decide +kernel) (by decide +kernel)
set_option maxRecDepth 20000 in
theorem gX11_rise_X11_in : GoodIn wsX11_rise (va_wsS RX11 111 yX11_in wsX11_in) := goodIn_app (goodIn_of _ (by decide +kernel)) ggX11_rise_X11_in
set_option maxRecDepth 20000 in
theorem ggX11_rise_X11_layNew : GoodIn wsX11_rise wsX11_layNew := goodIn_r _ [10, 11, 12, 13, 14, 33, 34, 35, 36, 37, 38, 39, 40, 41, 42, 43, 44, 45, 46, 47, 48, 49, 50, 51, 52, 53, 54, 55, 56, 57, 58, 59, 60, 61, 62, 63, 64, 65, 66, 67, 68, 69, 70, 71] (by decide +kernel) (by decide +kernel)
set_option maxRecDepth 20000 in
theorem gX11_rise_X11_layNew : GoodIn wsX11_rise (wsV RX11 135 RX11 yX11_layNew wsX11_layNew) := goodIn_app (goodIn_of _ (by decide +kernel)) ggX11_rise_X11_layNew
set_option maxRecDepth 20000 in
theorem ggX11_rise_X11_narrowed : GoodIn wsX11_rise wsX11_narrowed := goodIn_r _ [18, 19, 11, 13, 12, 14, 2, 20, 21, 22, 5, 23, 24, 25, 26, 27, 28, 3, 4, 6, 29, 30, 31, 32, 33, 34, 35, 36, 37, 38, 39, 40, 41, 42, 43, 44, 45, 46, 47, 48, 49, 50, 51, 52, 53, 54, 55, 56, 57, 58, 59, 60, 61, 62, 63, 64, 65, 66, 67, 68, 69, 70, 71] (by decide +kernel) (by decide +kernel)
set_option maxRecDepth 20000 in
theorem gX11_rise_X11_narrowed : GoodIn wsX11_rise (wsV RX11 138 RX11 yX11_narrowed wsX11_narrowed) := goodIn_app (goodIn_of _ (by decide +kernel)) ggX11_rise_X11_narrowed
theorem dX11_rise_0 : decode cX11_rise 0 = .ok (.iload_n 1, 1) := by decide +kernel
theorem dX11_rise_1 : decode cX11_rise 1 = .ok (.i2l, 1) := by decide +kernel
theorem dX11_rise_2 : decode cX11_rise 2 = .ok (.lconst 0, 1) := by decide +kernel
theorem dX11_rise_3 : decode cX11_rise 3 = .ok (.ldc2_w 133, 3) := by decide +kernel
theorem dX11_rise_6 : decode cX11_rise 6 = .ok (.invokestatic 111, 3) := by decide +kernel
theorem dX11_rise_9 : decode cX11_rise 9 = .ok (.ifCond .ne 6, 3) := by decide +kernel
theorem dX11_rise_12 : decode cX11_rise 12 = .ok (.bipush (-2), 2) := by decide +kernel
theorem dX11_rise_14 : decode cX11_rise 14 = .ok (.ireturn, 1) := by decide +kernel
theorem dX11_rise_15 : decode cX11_rise 15 = .ok (.iload_n 1, 1) := by decide +kernel
theorem dX11_rise_16 : decode cX11_rise 16 = .ok (.aload_n 0, 1) := by decide +kernel
theorem dX11_rise_17 : decode cX11_rise 17 = .ok (.getfield 93, 3) := by decide +kernel
theorem dX11_rise_20 : decode cX11_rise 20 = .ok (.if_icmp .le 6, 3) := by decide +kernel
theorem dX11_rise_23 : decode cX11_rise 23 = .ok (.bipush (-3), 2) := by decide +kernel
theorem dX11_rise_25 : decode cX11_rise 25 = .ok (.ireturn, 1) := by decide +kernel
theorem dX11_rise_26 : decode cX11_rise 26 = .ok (.aload_n 0, 1) := by decide +kernel
theorem dX11_rise_27 : decode cX11_rise 27 = .ok (.invokevirtual 135, 3) := by decide +kernel
theorem dX11_rise_30 : decode cX11_rise 30 = .ok (.aload_n 0, 1) := by decide +kernel
theorem dX11_rise_31 : decode cX11_rise 31 = .ok (.iload_n 1, 1) := by decide +kernel
theorem dX11_rise_32 : decode cX11_rise 32 = .ok (.invokevirtual 138, 3) := by decide +kernel
theorem dX11_rise_35 : decode cX11_rise 35 = .ok (.ireturn, 1) := by decide +kernel
set_option maxRecDepth 20000 in
theorem ggX11_good_X11_isSquare : GoodIn wsX11_good wsX11_isSquare := goodIn_r _ [6, 7, 8, 9, 10, 5, 11] (by decide +kernel) (by decide +kernel)
set_option maxRecDepth 20000 in
theorem gX11_good_X11_isSquare : GoodIn wsX11_good (va_wsS RX11 121 yX11_isSquare wsX11_isSquare) := goodIn_app (goodIn_of _ (by decide +kernel)) ggX11_good_X11_isSquare
theorem dX11_good_0 : decode cX11_good 0 = .ok (.iload_n 1, 1) := by decide +kernel
theorem dX11_good_1 : decode cX11_good 1 = .ok (.iload_n 2, 1) := by decide +kernel
theorem dX11_good_2 : decode cX11_good 2 = .ok (.invokestatic 121, 3) := by decide +kernel
theorem dX11_good_5 : decode cX11_good 5 = .ok (.ifCond .ne 5, 3) := by decide +kernel
theorem dX11_good_8 : decode cX11_good 8 = .ok (.iconst (-1), 1) := by decide +kernel
theorem dX11_good_9 : decode cX11_good 9 = .ok (.ireturn, 1) := by decide +kernel
theorem dX11_good_10 : decode cX11_good 10 = .ok (.iload_n 3, 1) := by decide +kernel
theorem dX11_good_11 : decode cX11_good 11 = .ok (.ifCond .ne 17, 3) := by decide +kernel
theorem dX11_good_14 : decode cX11_good 14 = .ok (.aload_n 0, 1) := by decide +kernel
theorem dX11_good_15 : decode cX11_good 15 = .ok (.getfield 7, 3) := by decide +kernel
theorem dX11_good_18 : decode cX11_good 18 = .ok (.bipush 8, 2) := by decide +kernel
theorem dX11_good_20 : decode cX11_good 20 = .ok (.iload_n 2, 1) := by decide +kernel
theorem dX11_good_21 : decode cX11_good 21 = .ok (.imul, 1) := by decide +kernel
theorem dX11_good_22 : decode cX11_good 22 = .ok (.iload_n 1, 1) := by decide +kernel
theorem dX11_good_23 : decode cX11_good 23 = .ok (.iadd, 1) := by decide +kernel
theorem dX11_good_24 : decode cX11_good 24 = .ok (.iaload, 1) := by decide +kernel
theorem dX11_good_25 : decode cX11_good 25 = .ok (.goto 24, 3) := by decide +kernel
theorem dX11_good_28 : decode cX11_good 28 = .ok (.iload_n 3, 1) := by decide +kernel
theorem dX11_good_29 : decode cX11_good 29 = .ok (.iconst 1, 1) := by decide +kernel
theorem dX11_good_30 : decode cX11_good 30 = .ok (.if_icmp .ne 17, 3) := by decide +kernel
theorem dX11_good_33 : decode cX11_good 33 = .ok (.aload_n 0, 1) := by decide +kernel
theorem dX11_good_34 : decode cX11_good 34 = .ok (.getfield 13, 3) := by decide +kernel
theorem dX11_good_37 : decode cX11_good 37 = .ok (.bipush 8, 2) := by decide +kernel
theorem dX11_good_39 : decode cX11_good 39 = .ok (.iload_n 2, 1) := by decide +kernel
theorem dX11_good_40 : decode cX11_good 40 = .ok (.imul, 1) := by decide +kernel
theorem dX11_good_41 : decode cX11_good 41 = .ok (.iload_n 1, 1) := by decide +kernel
theorem dX11_good_42 : decode cX11_good 42 = .ok (.iadd, 1) := by decide +kernel
theorem dX11_good_43 : decode cX11_good 43 = .ok (.iaload, 1) := by decide +kernel
theorem dX11_good_44 : decode cX11_good 44 = .ok (.goto 5, 3) := by decide +kernel
theorem dX11_good_47 : decode cX11_good 47 = .ok (.bipush (-2), 2) := by decide +kernel
theorem dX11_good_49 : decode cX11_good 49 = .ok (.ireturn, 1) := by decide +kernel
set_option maxRecDepth 20000 in
theorem ggX11_noSheet_X11_in : GoodIn wsX11_noSheet wsX11_in := goodIn_r _ [5] (by decide +kernel) (by decide +kernel)
set_option maxRecDepth 20000 in
theorem gX11_noSheet_X11_in : GoodIn wsX11_noSheet (va_wsS RX11 111 yX11_in wsX11_in) := goodIn_app (goodIn_of _ (by decide +kernel)) ggX11_noSheet_X11_in
theorem dX11_noSheet_0 : decode cX11_noSheet 0 = .ok (.iload_n 0, 1) := by decide +kernel
theorem dX11_noSheet_1 : decode cX11_noSheet 1 = .ok (.i2l, 1) := by decide +kernel
theorem dX11_noSheet_2 : decode cX11_noSheet 2 = .ok (.lconst 0, 1) := by decide +kernel
theorem dX11_noSheet_3 : decode cX11_noSheet 3 = .ok (.ldc2_w 142, 3) := by decide +kernel
theorem dX11_noSheet_6 : decode cX11_noSheet 6 = .ok (.invokestatic 111, 3) := by decide +kernel
theorem dX11_noSheet_9 : decode cX11_noSheet 9 = .ok (.ifCond .ne 7, 3) := by decide +kernel
theorem dX11_noSheet_12 : decode cX11_noSheet 12 = .ok (.iconst 1, 1) := by decide +kernel
theorem dX11_noSheet_13 : decode cX11_noSheet 13 = .ok (.goto 4, 3) := by decide +kernel
theorem dX11_noSheet_16 : decode cX11_noSheet 16 = .ok (.iconst 0, 1) := by decide +kernel
theorem dX11_noSheet_17 : decode cX11_noSheet 17 = .ok (.ireturn, 1) := by decide +kernel
set_option maxRecDepth 20000 in
theorem ggX11_sheet_X11_noSheet : GoodIn wsX11_sheet wsX11_noSheet := goodIn_r _ [8, 9, 10, 11, 7, 12] (by decide +kernel) (by decide +kernel)
set_option maxRecDepth 20000 in
theorem gX11_sheet_X11_noSheet : GoodIn wsX11_sheet (va_wsS RX11 144 yX11_noSheet wsX11_noSheet) := goodIn_app (goodIn_of _ (by decide +kernel)) ggX11_sheet_X11_noSheet
set_option maxRecDepth 20000 in
theorem ggX11_sheet_X11_refused : GoodIn wsX11_sheet wsX11_refused := goodIn_r _ [16, 17, 22, 23, 24, 25, 26, 27, 28, 29, 30, 31, 32, 33, 34, 35, 36, 37, 38, 39, 40, 41, 42, 43, 44, 45, 46, 47, 48, 49, 50, 51, 52, 53, 54, 55, 56, 57, 58, 59, 60] (by decide +kernel) (by decide +kernel)
set_option maxRecDepth 20000 in
theorem gX11_sheet_X11_refused : GoodIn wsX11_sheet (wsV RX11 148 RX11 yX11_refused wsX11_refused) := goodIn_app (goodIn_of _ (by decide +kernel)) ggX11_sheet_X11_refused
set_option maxRecDepth 20000 in
theorem ggX11_sheet_X11_in : GoodIn wsX11_sheet wsX11_in := goodIn_r _ [12] (by decide +kernel) (by decide +kernel)
set_option maxRecDepth 20000 in
theorem gX11_sheet_X11_in : GoodIn wsX11_sheet (va_wsS RX11 111 yX11_in wsX11_in) := goodIn_app (goodIn_of _ (by decide +kernel)) ggX11_sheet_X11_in
set_option maxRecDepth 20000 in
theorem ggX11_sheet_X11_failed : GoodIn wsX11_sheet wsX11_failed := goodIn_r _ [21, 17, 22, 23, 24, 25, 26, 27, 28, 29, 30, 31, 32, 33, 34, 35, 36, 37, 38, 39, 40, 41, 42, 43, 44, 45, 46, 47, 48, 49, 50, 51, 52, 53, 54, 55, 56, 57, 58, 59, 60] (by decide +kernel) (by decide +kernel)
set_option maxRecDepth 20000 in
theorem gX11_sheet_X11_failed : GoodIn wsX11_sheet (wsV RX11 153 RX11 yX11_failed wsX11_failed) := goodIn_app (goodIn_of _ (by decide +kernel)) ggX11_sheet_X11_failed
theorem dX11_sheet_0 : decode cX11_sheet 0 = .ok (.iload_n 1, 1) := by decide +kernel
theorem dX11_sheet_1 : decode cX11_sheet 1 = .ok (.invokestatic 144, 3) := by decide +kernel
theorem dX11_sheet_4 : decode cX11_sheet 4 = .ok (.ifCond .eq 9, 3) := by decide +kernel
theorem dX11_sheet_7 : decode cX11_sheet 7 = .ok (.aload_n 0, 1) := by decide +kernel
theorem dX11_sheet_8 : decode cX11_sheet 8 = .ok (.iconst (-1), 1) := by decide +kernel
theorem dX11_sheet_9 : decode cX11_sheet 9 = .ok (.invokevirtual 148, 3) := by decide +kernel
theorem dX11_sheet_12 : decode cX11_sheet 12 = .ok (.ireturn, 1) := by decide +kernel
theorem dX11_sheet_13 : decode cX11_sheet 13 = .ok (.iload_n 2, 1) := by decide +kernel
theorem dX11_sheet_14 : decode cX11_sheet 14 = .ok (.i2l, 1) := by decide +kernel
theorem dX11_sheet_15 : decode cX11_sheet 15 = .ok (.lconst 0, 1) := by decide +kernel
theorem dX11_sheet_16 : decode cX11_sheet 16 = .ok (.ldc2_w 151, 3) := by decide +kernel
theorem dX11_sheet_19 : decode cX11_sheet 19 = .ok (.invokestatic 111, 3) := by decide +kernel
theorem dX11_sheet_22 : decode cX11_sheet 22 = .ok (.ifCond .eq 9, 3) := by decide +kernel
theorem dX11_sheet_25 : decode cX11_sheet 25 = .ok (.iload_n 3, 1) := by decide +kernel
theorem dX11_sheet_26 : decode cX11_sheet 26 = .ok (.bipush 48, 2) := by decide +kernel
theorem dX11_sheet_28 : decode cX11_sheet 28 = .ok (.if_icmp .le 10, 3) := by decide +kernel
theorem dX11_sheet_31 : decode cX11_sheet 31 = .ok (.aload_n 0, 1) := by decide +kernel
theorem dX11_sheet_32 : decode cX11_sheet 32 = .ok (.bipush (-2), 2) := by decide +kernel
theorem dX11_sheet_34 : decode cX11_sheet 34 = .ok (.invokevirtual 148, 3) := by decide +kernel
theorem dX11_sheet_37 : decode cX11_sheet 37 = .ok (.ireturn, 1) := by decide +kernel
theorem dX11_sheet_38 : decode cX11_sheet 38 = .ok (.iload_n 3, 1) := by decide +kernel
theorem dX11_sheet_39 : decode cX11_sheet 39 = .ok (.ifCond .ge 9, 3) := by decide +kernel
theorem dX11_sheet_42 : decode cX11_sheet 42 = .ok (.aload_n 0, 1) := by decide +kernel
theorem dX11_sheet_43 : decode cX11_sheet 43 = .ok (.iconst 4, 1) := by decide +kernel
theorem dX11_sheet_44 : decode cX11_sheet 44 = .ok (.invokevirtual 153, 3) := by decide +kernel
theorem dX11_sheet_47 : decode cX11_sheet 47 = .ok (.ireturn, 1) := by decide +kernel
theorem dX11_sheet_48 : decode cX11_sheet 48 = .ok (.aload_n 0, 1) := by decide +kernel
theorem dX11_sheet_49 : decode cX11_sheet 49 = .ok (.getfield 22, 3) := by decide +kernel
theorem dX11_sheet_52 : decode cX11_sheet 52 = .ok (.iload_n 1, 1) := by decide +kernel
theorem dX11_sheet_53 : decode cX11_sheet 53 = .ok (.iload_n 3, 1) := by decide +kernel
theorem dX11_sheet_54 : decode cX11_sheet 54 = .ok (.iastore, 1) := by decide +kernel
theorem dX11_sheet_55 : decode cX11_sheet 55 = .ok (.aload_n 0, 1) := by decide +kernel
theorem dX11_sheet_56 : decode cX11_sheet 56 = .ok (.getfield 25, 3) := by decide +kernel
theorem dX11_sheet_59 : decode cX11_sheet 59 = .ok (.iload_n 1, 1) := by decide +kernel
theorem dX11_sheet_60 : decode cX11_sheet 60 = .ok (.iload_n 2, 1) := by decide +kernel
theorem dX11_sheet_61 : decode cX11_sheet 61 = .ok (.iastore, 1) := by decide +kernel
theorem dX11_sheet_62 : decode cX11_sheet 62 = .ok (.iconst 0, 1) := by decide +kernel
theorem dX11_sheet_63 : decode cX11_sheet 63 = .ok (.istore 4, 2) := by decide +kernel
theorem dX11_sheet_65 : decode cX11_sheet 65 = .ok (.iload 4, 2) := by decide +kernel
theorem dX11_sheet_67 : decode cX11_sheet 67 = .ok (.iload_n 3, 1) := by decide +kernel
theorem dX11_sheet_68 : decode cX11_sheet 68 = .ok (.if_icmp .ge 22, 3) := by decide +kernel
theorem dX11_sheet_71 : decode cX11_sheet 71 = .ok (.aload_n 0, 1) := by decide +kernel
theorem dX11_sheet_72 : decode cX11_sheet 72 = .ok (.getfield 28, 3) := by decide +kernel
theorem dX11_sheet_75 : decode cX11_sheet 75 = .ok (.bipush 48, 2) := by decide +kernel
theorem dX11_sheet_77 : decode cX11_sheet 77 = .ok (.iload_n 1, 1) := by decide +kernel
theorem dX11_sheet_78 : decode cX11_sheet 78 = .ok (.imul, 1) := by decide +kernel
theorem dX11_sheet_79 : decode cX11_sheet 79 = .ok (.iload 4, 2) := by decide +kernel
theorem dX11_sheet_81 : decode cX11_sheet 81 = .ok (.iadd, 1) := by decide +kernel
theorem dX11_sheet_82 : decode cX11_sheet 82 = .ok (.iconst 0, 1) := by decide +kernel
theorem dX11_sheet_83 : decode cX11_sheet 83 = .ok (.iastore, 1) := by decide +kernel
theorem dX11_sheet_84 : decode cX11_sheet 84 = .ok (.iinc 4 1, 3) := by decide +kernel
theorem dX11_sheet_87 : decode cX11_sheet 87 = .ok (.goto (-22), 3) := by decide +kernel
theorem dX11_sheet_90 : decode cX11_sheet 90 = .ok (.aload_n 0, 1) := by decide +kernel
theorem dX11_sheet_91 : decode cX11_sheet 91 = .ok (.iconst 1, 1) := by decide +kernel
theorem dX11_sheet_92 : decode cX11_sheet 92 = .ok (.invokevirtual 148, 3) := by decide +kernel
theorem dX11_sheet_95 : decode cX11_sheet 95 = .ok (.ireturn, 1) := by decide +kernel
set_option maxRecDepth 20000 in
theorem ggX11_lose_X11_noSheet : GoodIn wsX11_lose wsX11_noSheet := goodIn_r _ [5, 6, 7, 8, 4, 9] (by decide +kernel) (by decide +kernel)
set_option maxRecDepth 20000 in
theorem gX11_lose_X11_noSheet : GoodIn wsX11_lose (va_wsS RX11 144 yX11_noSheet wsX11_noSheet) := goodIn_app (goodIn_of _ (by decide +kernel)) ggX11_lose_X11_noSheet
end
section
theorem dX11_lose_0 : decode cX11_lose 0 = .ok (.iload_n 1, 1) := by decide +kernel
theorem dX11_lose_1 : decode cX11_lose 1 = .ok (.invokestatic 144, 3) := by decide +kernel
theorem dX11_lose_4 : decode cX11_lose 4 = .ok (.ifCond .eq 5, 3) := by decide +kernel
theorem dX11_lose_7 : decode cX11_lose 7 = .ok (.iconst (-1), 1) := by decide +kernel
theorem dX11_lose_8 : decode cX11_lose 8 = .ok (.ireturn, 1) := by decide +kernel
theorem dX11_lose_9 : decode cX11_lose 9 = .ok (.aload_n 0, 1) := by decide +kernel
theorem dX11_lose_10 : decode cX11_lose 10 = .ok (.getfield 22, 3) := by decide +kernel
theorem dX11_lose_13 : decode cX11_lose 13 = .ok (.iload_n 1, 1) := by decide +kernel
theorem dX11_lose_14 : decode cX11_lose 14 = .ok (.iaload, 1) := by decide +kernel
theorem dX11_lose_15 : decode cX11_lose 15 = .ok (.ifCond .ge 7, 3) := by decide +kernel
theorem dX11_lose_18 : decode cX11_lose 18 = .ok (.iconst 0, 1) := by decide +kernel
theorem dX11_lose_19 : decode cX11_lose 19 = .ok (.goto 4, 3) := by decide +kernel
theorem dX11_lose_22 : decode cX11_lose 22 = .ok (.iconst 1, 1) := by decide +kernel
theorem dX11_lose_23 : decode cX11_lose 23 = .ok (.istore_n 2, 1) := by decide +kernel
theorem dX11_lose_24 : decode cX11_lose 24 = .ok (.aload_n 0, 1) := by decide +kernel
theorem dX11_lose_25 : decode cX11_lose 25 = .ok (.getfield 22, 3) := by decide +kernel
theorem dX11_lose_28 : decode cX11_lose 28 = .ok (.iload_n 1, 1) := by decide +kernel
theorem dX11_lose_29 : decode cX11_lose 29 = .ok (.iconst (-1), 1) := by decide +kernel
theorem dX11_lose_30 : decode cX11_lose 30 = .ok (.iastore, 1) := by decide +kernel
theorem dX11_lose_31 : decode cX11_lose 31 = .ok (.iload_n 2, 1) := by decide +kernel
theorem dX11_lose_32 : decode cX11_lose 32 = .ok (.ireturn, 1) := by decide +kernel
set_option maxRecDepth 20000 in
theorem ggX11_noCell_X11_in : GoodIn wsX11_noCell wsX11_in := goodIn_r _ [5] (by decide +kernel) (by decide +kernel)
set_option maxRecDepth 20000 in
theorem gX11_noCell_X11_in : GoodIn wsX11_noCell (va_wsS RX11 111 yX11_in wsX11_in) := goodIn_app (goodIn_of _ (by decide +kernel)) ggX11_noCell_X11_in
theorem dX11_noCell_0 : decode cX11_noCell 0 = .ok (.aload_n 0, 1) := by decide +kernel
theorem dX11_noCell_1 : decode cX11_noCell 1 = .ok (.getfield 22, 3) := by decide +kernel
theorem dX11_noCell_4 : decode cX11_noCell 4 = .ok (.iload_n 1, 1) := by decide +kernel
theorem dX11_noCell_5 : decode cX11_noCell 5 = .ok (.iaload, 1) := by decide +kernel
theorem dX11_noCell_6 : decode cX11_noCell 6 = .ok (.ifCond .ge 7, 3) := by decide +kernel
theorem dX11_noCell_9 : decode cX11_noCell 9 = .ok (.iconst 1, 1) := by decide +kernel
theorem dX11_noCell_10 : decode cX11_noCell 10 = .ok (.goto 26, 3) := by decide +kernel
theorem dX11_noCell_13 : decode cX11_noCell 13 = .ok (.iload_n 2, 1) := by decide +kernel
theorem dX11_noCell_14 : decode cX11_noCell 14 = .ok (.i2l, 1) := by decide +kernel
theorem dX11_noCell_15 : decode cX11_noCell 15 = .ok (.lconst 0, 1) := by decide +kernel
theorem dX11_noCell_16 : decode cX11_noCell 16 = .ok (.aload_n 0, 1) := by decide +kernel
theorem dX11_noCell_17 : decode cX11_noCell 17 = .ok (.getfield 22, 3) := by decide +kernel
theorem dX11_noCell_20 : decode cX11_noCell 20 = .ok (.iload_n 1, 1) := by decide +kernel
theorem dX11_noCell_21 : decode cX11_noCell 21 = .ok (.iaload, 1) := by decide +kernel
theorem dX11_noCell_22 : decode cX11_noCell 22 = .ok (.i2l, 1) := by decide +kernel
theorem dX11_noCell_23 : decode cX11_noCell 23 = .ok (.lconst 1, 1) := by decide +kernel
theorem dX11_noCell_24 : decode cX11_noCell 24 = .ok (.lsub, 1) := by decide +kernel
theorem dX11_noCell_25 : decode cX11_noCell 25 = .ok (.invokestatic 111, 3) := by decide +kernel
theorem dX11_noCell_28 : decode cX11_noCell 28 = .ok (.ifCond .eq 7, 3) := by decide +kernel
theorem dX11_noCell_31 : decode cX11_noCell 31 = .ok (.iconst 0, 1) := by decide +kernel
theorem dX11_noCell_32 : decode cX11_noCell 32 = .ok (.goto 4, 3) := by decide +kernel
theorem dX11_noCell_35 : decode cX11_noCell 35 = .ok (.iconst 3, 1) := by decide +kernel
theorem dX11_noCell_36 : decode cX11_noCell 36 = .ok (.ireturn, 1) := by decide +kernel
set_option maxRecDepth 20000 in
theorem ggX11_put_X11_noSheet : GoodIn wsX11_put wsX11_noSheet := goodIn_r _ [6, 7, 8, 9, 5, 10] (by decide +kernel) (by decide +kernel)
set_option maxRecDepth 20000 in
theorem gX11_put_X11_noSheet : GoodIn wsX11_put (va_wsS RX11 144 yX11_noSheet wsX11_noSheet) := goodIn_app (goodIn_of _ (by decide +kernel)) ggX11_put_X11_noSheet
set_option maxRecDepth 20000 in
theorem ggX11_put_X11_refused : GoodIn wsX11_put wsX11_refused := goodIn_r _ [14, 15, 25, 26, 27, 28, 29, 30, 31, 32, 33, 34, 35, 36, 37, 38, 39, 40, 41, 42, 43, 44, 45, 46, 47, 48, 49, 50, 51, 52, 53, 54, 55, 56, 57, 58, 59, 60, 61, 62, 63] (by decide +kernel) (by decide +kernel)
set_option maxRecDepth 20000 in
theorem gX11_put_X11_refused : GoodIn wsX11_put (wsV RX11 148 RX11 yX11_refused wsX11_refused) := goodIn_app (goodIn_of _ (by decide +kernel)) ggX11_put_X11_refused
set_option maxRecDepth 20000 in
theorem ggX11_put_X11_noCell : GoodIn wsX11_put wsX11_noCell := goodIn_r _ [19, 20, 8, 9, 5, 10, 25, 26, 27, 28, 29, 30, 31, 32, 33, 34, 35, 36, 37, 38, 39, 40, 41, 42, 43, 44, 45, 46, 47, 48, 49, 50, 51, 52, 53, 54, 55, 56, 57, 58, 59, 60, 61, 62, 63] (by decide +kernel) (by decide +kernel)
set_option maxRecDepth 20000 in
theorem gX11_put_X11_noCell : GoodIn wsX11_put (wsV RX11 156 RX11 yX11_noCell wsX11_noCell) := goodIn_app (goodIn_of _ (by decide +kernel)) ggX11_put_X11_noCell
set_option maxRecDepth 20000 in
theorem ggX11_put_X11_failed : GoodIn wsX11_put wsX11_failed := goodIn_r _ [24, 15, 25, 26, 27, 28, 29, 30, 31, 32, 33, 34, 35, 36, 37, 38, 39, 40, 41, 42, 43, 44, 45, 46, 47, 48, 49, 50, 51, 52, 53, 54, 55, 56, 57, 58, 59, 60, 61, 62, 63] (by decide +kernel) (by decide +kernel)
set_option maxRecDepth 20000 in
theorem gX11_put_X11_failed : GoodIn wsX11_put (wsV RX11 153 RX11 yX11_failed wsX11_failed) := goodIn_app (goodIn_of _ (by decide +kernel)) ggX11_put_X11_failed
theorem dX11_put_0 : decode cX11_put 0 = .ok (.iload_n 1, 1) := by decide +kernel
theorem dX11_put_1 : decode cX11_put 1 = .ok (.invokestatic 144, 3) := by decide +kernel
theorem dX11_put_4 : decode cX11_put 4 = .ok (.ifCond .eq 9, 3) := by decide +kernel
theorem dX11_put_7 : decode cX11_put 7 = .ok (.aload_n 0, 1) := by decide +kernel
theorem dX11_put_8 : decode cX11_put 8 = .ok (.iconst (-1), 1) := by decide +kernel
theorem dX11_put_9 : decode cX11_put 9 = .ok (.invokevirtual 148, 3) := by decide +kernel
theorem dX11_put_12 : decode cX11_put 12 = .ok (.ireturn, 1) := by decide +kernel
theorem dX11_put_13 : decode cX11_put 13 = .ok (.aload_n 0, 1) := by decide +kernel
theorem dX11_put_14 : decode cX11_put 14 = .ok (.iload_n 1, 1) := by decide +kernel
theorem dX11_put_15 : decode cX11_put 15 = .ok (.iload_n 2, 1) := by decide +kernel
theorem dX11_put_16 : decode cX11_put 16 = .ok (.invokevirtual 156, 3) := by decide +kernel
theorem dX11_put_19 : decode cX11_put 19 = .ok (.ifCond .le 14, 3) := by decide +kernel
theorem dX11_put_22 : decode cX11_put 22 = .ok (.aload_n 0, 1) := by decide +kernel
theorem dX11_put_23 : decode cX11_put 23 = .ok (.aload_n 0, 1) := by decide +kernel
theorem dX11_put_24 : decode cX11_put 24 = .ok (.iload_n 1, 1) := by decide +kernel
theorem dX11_put_25 : decode cX11_put 25 = .ok (.iload_n 2, 1) := by decide +kernel
theorem dX11_put_26 : decode cX11_put 26 = .ok (.invokevirtual 156, 3) := by decide +kernel
theorem dX11_put_29 : decode cX11_put 29 = .ok (.invokevirtual 153, 3) := by decide +kernel
theorem dX11_put_32 : decode cX11_put 32 = .ok (.ireturn, 1) := by decide +kernel
theorem dX11_put_33 : decode cX11_put 33 = .ok (.aload_n 0, 1) := by decide +kernel
theorem dX11_put_34 : decode cX11_put 34 = .ok (.getfield 28, 3) := by decide +kernel
theorem dX11_put_37 : decode cX11_put 37 = .ok (.bipush 48, 2) := by decide +kernel
theorem dX11_put_39 : decode cX11_put 39 = .ok (.iload_n 1, 1) := by decide +kernel
theorem dX11_put_40 : decode cX11_put 40 = .ok (.imul, 1) := by decide +kernel
theorem dX11_put_41 : decode cX11_put 41 = .ok (.iload_n 2, 1) := by decide +kernel
theorem dX11_put_42 : decode cX11_put 42 = .ok (.iadd, 1) := by decide +kernel
theorem dX11_put_43 : decode cX11_put 43 = .ok (.aload_n 0, 1) := by decide +kernel
theorem dX11_put_44 : decode cX11_put 44 = .ok (.getfield 25, 3) := by decide +kernel
theorem dX11_put_47 : decode cX11_put 47 = .ok (.iload_n 1, 1) := by decide +kernel
theorem dX11_put_48 : decode cX11_put 48 = .ok (.iaload, 1) := by decide +kernel
theorem dX11_put_49 : decode cX11_put 49 = .ok (.ifCond .ne 8, 3) := by decide +kernel
theorem dX11_put_52 : decode cX11_put 52 = .ok (.iload_n 3, 1) := by decide +kernel
theorem dX11_put_53 : decode cX11_put 53 = .ok (.i2b, 1) := by decide +kernel
theorem dX11_put_54 : decode cX11_put 54 = .ok (.goto 19, 3) := by decide +kernel
theorem dX11_put_57 : decode cX11_put 57 = .ok (.aload_n 0, 1) := by decide +kernel
theorem dX11_put_58 : decode cX11_put 58 = .ok (.getfield 25, 3) := by decide +kernel
theorem dX11_put_61 : decode cX11_put 61 = .ok (.iload_n 1, 1) := by decide +kernel
theorem dX11_put_62 : decode cX11_put 62 = .ok (.iaload, 1) := by decide +kernel
theorem dX11_put_63 : decode cX11_put 63 = .ok (.iconst 1, 1) := by decide +kernel
theorem dX11_put_64 : decode cX11_put 64 = .ok (.if_icmp .ne 8, 3) := by decide +kernel
theorem dX11_put_67 : decode cX11_put 67 = .ok (.iload_n 3, 1) := by decide +kernel
theorem dX11_put_68 : decode cX11_put 68 = .ok (.i2s, 1) := by decide +kernel
theorem dX11_put_69 : decode cX11_put 69 = .ok (.goto 4, 3) := by decide +kernel
theorem dX11_put_72 : decode cX11_put 72 = .ok (.iload_n 3, 1) := by decide +kernel
theorem dX11_put_73 : decode cX11_put 73 = .ok (.iastore, 1) := by decide +kernel
theorem dX11_put_74 : decode cX11_put 74 = .ok (.aload_n 0, 1) := by decide +kernel
theorem dX11_put_75 : decode cX11_put 75 = .ok (.iconst 1, 1) := by decide +kernel
theorem dX11_put_76 : decode cX11_put 76 = .ok (.invokevirtual 148, 3) := by decide +kernel
theorem dX11_put_79 : decode cX11_put 79 = .ok (.ireturn, 1) := by decide +kernel
set_option maxRecDepth 20000 in
theorem ggX11_cell_X11_noSheet : GoodIn wsX11_cell wsX11_noSheet := goodIn_r _ [9, 10, 11, 12, 8, 13] (by decide +kernel) (by decide +kernel)
set_option maxRecDepth 20000 in
theorem gX11_cell_X11_noSheet : GoodIn wsX11_cell (va_wsS RX11 144 yX11_noSheet wsX11_noSheet) := goodIn_app (goodIn_of _ (by decide +kernel)) ggX11_cell_X11_noSheet
set_option maxRecDepth 20000 in
theorem ggX11_cell_X11_in : GoodIn wsX11_cell wsX11_in := goodIn_r _ [13] (by decide +kernel) (by decide +kernel)
set_option maxRecDepth 20000 in
theorem gX11_cell_X11_in : GoodIn wsX11_cell (va_wsS RX11 111 yX11_in wsX11_in) := goodIn_app (goodIn_of _ (by decide +kernel)) ggX11_cell_X11_in
set_option maxRecDepth 20000 in
theorem ggX11_cell_X11_lost : GoodIn wsX11_cell wsX11_lost := goodIn_r _ [16, 17] (by decide +kernel) (by decide +kernel)
set_option maxRecDepth 20000 in
theorem gX11_cell_X11_lost : GoodIn wsX11_cell (va_wsS RX11 105 yX11_lost wsX11_lost) := goodIn_app (goodIn_of _ (by decide +kernel)) ggX11_cell_X11_lost
set_option maxRecDepth 20000 in
theorem ggX11_cell_X11_failedLong : GoodIn wsX11_cell wsX11_failedLong := goodIn_r _ [21, 1, 14, 15, 8, 16, 17, 26, 27, 28, 29, 30, 31, 32, 33, 34, 35, 36, 37, 38, 39, 40, 41, 42, 43, 44, 45, 46, 47, 48, 49, 50, 51, 52, 53, 54, 55, 56, 57, 58, 59, 60, 61, 62, 63, 64] (by decide +kernel) (by decide +kernel)
set_option maxRecDepth 20000 in
theorem gX11_cell_X11_failedLong : GoodIn wsX11_cell (wsV RX11 160 RX11 yX11_failedLong wsX11_failedLong) := goodIn_app (goodIn_of _ (by decide +kernel)) ggX11_cell_X11_failedLong
set_option maxRecDepth 20000 in
theorem ggX11_cell_X11_noCell : GoodIn wsX11_cell wsX11_noCell := goodIn_r _ [25, 3, 11, 12, 8, 13, 26, 27, 28, 29, 30, 31, 32, 33, 34, 35, 36, 37, 38, 39, 40, 41, 42, 43, 44, 45, 46, 47, 48, 49, 50, 51, 52, 53, 54, 55, 56, 57, 58, 59, 60, 61, 62, 63, 64] (by decide +kernel) (by decide +kernel)
set_option maxRecDepth 20000 in
theorem gX11_cell_X11_noCell : GoodIn wsX11_cell (wsV RX11 156 RX11 yX11_noCell wsX11_noCell) := goodIn_app (goodIn_of _ (by decide +kernel)) ggX11_cell_X11_noCell
theorem dX11_cell_0 : decode cX11_cell 0 = .ok (.aload_n 0, 1) := by decide +kernel
theorem dX11_cell_1 : decode cX11_cell 1 = .ok (.iconst 0, 1) := by decide +kernel
theorem dX11_cell_2 : decode cX11_cell 2 = .ok (.putfield 102, 3) := by decide +kernel
theorem dX11_cell_5 : decode cX11_cell 5 = .ok (.iload_n 1, 1) := by decide +kernel
theorem dX11_cell_6 : decode cX11_cell 6 = .ok (.invokestatic 144, 3) := by decide +kernel
theorem dX11_cell_9 : decode cX11_cell 9 = .ok (.ifCond .ne 15, 3) := by decide +kernel
theorem dX11_cell_12 : decode cX11_cell 12 = .ok (.iload_n 3, 1) := by decide +kernel
theorem dX11_cell_13 : decode cX11_cell 13 = .ok (.i2l, 1) := by decide +kernel
theorem dX11_cell_14 : decode cX11_cell 14 = .ok (.lconst 0, 1) := by decide +kernel
theorem dX11_cell_15 : decode cX11_cell 15 = .ok (.ldc2_w 151, 3) := by decide +kernel
theorem dX11_cell_18 : decode cX11_cell 18 = .ok (.invokestatic 111, 3) := by decide +kernel
theorem dX11_cell_21 : decode cX11_cell 21 = .ok (.ifCond .ne 7, 3) := by decide +kernel
theorem dX11_cell_24 : decode cX11_cell 24 = .ok (.invokestatic 105, 3) := by decide +kernel
theorem dX11_cell_27 : decode cX11_cell 27 = .ok (.lreturn, 1) := by decide +kernel
theorem dX11_cell_28 : decode cX11_cell 28 = .ok (.aload_n 0, 1) := by decide +kernel
theorem dX11_cell_29 : decode cX11_cell 29 = .ok (.getfield 22, 3) := by decide +kernel
theorem dX11_cell_32 : decode cX11_cell 32 = .ok (.iload_n 1, 1) := by decide +kernel
theorem dX11_cell_33 : decode cX11_cell 33 = .ok (.iaload, 1) := by decide +kernel
theorem dX11_cell_34 : decode cX11_cell 34 = .ok (.ifCond .lt 19, 3) := by decide +kernel
theorem dX11_cell_37 : decode cX11_cell 37 = .ok (.aload_n 0, 1) := by decide +kernel
theorem dX11_cell_38 : decode cX11_cell 38 = .ok (.getfield 25, 3) := by decide +kernel
theorem dX11_cell_41 : decode cX11_cell 41 = .ok (.iload_n 1, 1) := by decide +kernel
theorem dX11_cell_42 : decode cX11_cell 42 = .ok (.iaload, 1) := by decide +kernel
theorem dX11_cell_43 : decode cX11_cell 43 = .ok (.iload_n 3, 1) := by decide +kernel
theorem dX11_cell_44 : decode cX11_cell 44 = .ok (.if_icmp .eq 9, 3) := by decide +kernel
theorem dX11_cell_47 : decode cX11_cell 47 = .ok (.aload_n 0, 1) := by decide +kernel
theorem dX11_cell_48 : decode cX11_cell 48 = .ok (.iconst 2, 1) := by decide +kernel
theorem dX11_cell_49 : decode cX11_cell 49 = .ok (.invokevirtual 160, 3) := by decide +kernel
theorem dX11_cell_52 : decode cX11_cell 52 = .ok (.lreturn, 1) := by decide +kernel
theorem dX11_cell_53 : decode cX11_cell 53 = .ok (.aload_n 0, 1) := by decide +kernel
theorem dX11_cell_54 : decode cX11_cell 54 = .ok (.iload_n 1, 1) := by decide +kernel
theorem dX11_cell_55 : decode cX11_cell 55 = .ok (.iload_n 2, 1) := by decide +kernel
theorem dX11_cell_56 : decode cX11_cell 56 = .ok (.invokevirtual 156, 3) := by decide +kernel
theorem dX11_cell_59 : decode cX11_cell 59 = .ok (.ifCond .le 16, 3) := by decide +kernel
theorem dX11_cell_62 : decode cX11_cell 62 = .ok (.aload_n 0, 1) := by decide +kernel
theorem dX11_cell_63 : decode cX11_cell 63 = .ok (.aload_n 0, 1) := by decide +kernel
theorem dX11_cell_64 : decode cX11_cell 64 = .ok (.iload_n 1, 1) := by decide +kernel
theorem dX11_cell_65 : decode cX11_cell 65 = .ok (.iload_n 2, 1) := by decide +kernel
theorem dX11_cell_66 : decode cX11_cell 66 = .ok (.invokevirtual 156, 3) := by decide +kernel
theorem dX11_cell_69 : decode cX11_cell 69 = .ok (.invokevirtual 160, 3) := by decide +kernel
theorem dX11_cell_72 : decode cX11_cell 72 = .ok (.goto 15, 3) := by decide +kernel
theorem dX11_cell_75 : decode cX11_cell 75 = .ok (.aload_n 0, 1) := by decide +kernel
theorem dX11_cell_76 : decode cX11_cell 76 = .ok (.getfield 28, 3) := by decide +kernel
theorem dX11_cell_79 : decode cX11_cell 79 = .ok (.bipush 48, 2) := by decide +kernel
theorem dX11_cell_81 : decode cX11_cell 81 = .ok (.iload_n 1, 1) := by decide +kernel
theorem dX11_cell_82 : decode cX11_cell 82 = .ok (.imul, 1) := by decide +kernel
theorem dX11_cell_83 : decode cX11_cell 83 = .ok (.iload_n 2, 1) := by decide +kernel
theorem dX11_cell_84 : decode cX11_cell 84 = .ok (.iadd, 1) := by decide +kernel
theorem dX11_cell_85 : decode cX11_cell 85 = .ok (.iaload, 1) := by decide +kernel
theorem dX11_cell_86 : decode cX11_cell 86 = .ok (.i2l, 1) := by decide +kernel
theorem dX11_cell_87 : decode cX11_cell 87 = .ok (.lreturn, 1) := by decide +kernel
theorem dX11_isBeyond_0 : decode cX11_isBeyond 0 = .ok (.iload_n 0, 1) := by decide +kernel
theorem dX11_isBeyond_1 : decode cX11_isBeyond 1 = .ok (.ifCond .lt 18, 3) := by decide +kernel
theorem dX11_isBeyond_4 : decode cX11_isBeyond 4 = .ok (.iload_n 1, 1) := by decide +kernel
theorem dX11_isBeyond_5 : decode cX11_isBeyond 5 = .ok (.ifCond .lt 14, 3) := by decide +kernel
theorem dX11_isBeyond_8 : decode cX11_isBeyond 8 = .ok (.iload_n 0, 1) := by decide +kernel
theorem dX11_isBeyond_9 : decode cX11_isBeyond 9 = .ok (.i2l, 1) := by decide +kernel
theorem dX11_isBeyond_10 : decode cX11_isBeyond 10 = .ok (.iload_n 1, 1) := by decide +kernel
theorem dX11_isBeyond_11 : decode cX11_isBeyond 11 = .ok (.i2l, 1) := by decide +kernel
theorem dX11_isBeyond_12 : decode cX11_isBeyond 12 = .ok (.ladd, 1) := by decide +kernel
theorem dX11_isBeyond_13 : decode cX11_isBeyond 13 = .ok (.iload_n 2, 1) := by decide +kernel
theorem dX11_isBeyond_14 : decode cX11_isBeyond 14 = .ok (.i2l, 1) := by decide +kernel
theorem dX11_isBeyond_15 : decode cX11_isBeyond 15 = .ok (.lcmp, 1) := by decide +kernel
theorem dX11_isBeyond_16 : decode cX11_isBeyond 16 = .ok (.ifCond .le 7, 3) := by decide +kernel
theorem dX11_isBeyond_19 : decode cX11_isBeyond 19 = .ok (.iconst 1, 1) := by decide +kernel
theorem dX11_isBeyond_20 : decode cX11_isBeyond 20 = .ok (.goto 4, 3) := by decide +kernel
theorem dX11_isBeyond_23 : decode cX11_isBeyond 23 = .ok (.iconst 0, 1) := by decide +kernel
theorem dX11_isBeyond_24 : decode cX11_isBeyond 24 = .ok (.ireturn, 1) := by decide +kernel
set_option maxRecDepth 20000 in
theorem ggX11_copy_X11_noSheet : GoodIn wsX11_copy wsX11_noSheet := goodIn_r _ [8, 9, 10, 11, 7, 12] (by decide +kernel) (by decide +kernel)
set_option maxRecDepth 20000 in
theorem gX11_copy_X11_noSheet : GoodIn wsX11_copy (va_wsS RX11 144 yX11_noSheet wsX11_noSheet) := goodIn_app (goodIn_of _ (by decide +kernel)) ggX11_copy_X11_noSheet
set_option maxRecDepth 20000 in
theorem ggX11_copy_X11_refused : GoodIn wsX11_copy wsX11_refused := goodIn_r _ [16, 17, 25, 26, 27, 28, 29, 30, 31, 32, 33, 34, 35, 36, 37, 38, 39, 40, 41, 42, 43, 44, 45, 46, 47, 48, 49, 50, 51, 52, 53, 54, 55, 56, 57, 58, 59, 60, 61, 62, 63] (by decide +kernel) (by decide +kernel)
set_option maxRecDepth 20000 in
theorem gX11_copy_X11_refused : GoodIn wsX11_copy (wsV RX11 148 RX11 yX11_refused wsX11_refused) := goodIn_app (goodIn_of _ (by decide +kernel)) ggX11_copy_X11_refused
set_option maxRecDepth 20000 in
theorem ggX11_copy_X11_failed : GoodIn wsX11_copy wsX11_failed := goodIn_r _ [21, 17, 25, 26, 27, 28, 29, 30, 31, 32, 33, 34, 35, 36, 37, 38, 39, 40, 41, 42, 43, 44, 45, 46, 47, 48, 49, 50, 51, 52, 53, 54, 55, 56, 57, 58, 59, 60, 61, 62, 63] (by decide +kernel) (by decide +kernel)
set_option maxRecDepth 20000 in
theorem gX11_copy_X11_failed : GoodIn wsX11_copy (wsV RX11 153 RX11 yX11_failed wsX11_failed) := goodIn_app (goodIn_of _ (by decide +kernel)) ggX11_copy_X11_failed
set_option maxRecDepth 20000 in
theorem ggX11_copy_X11_isBeyond : GoodIn wsX11_copy wsX11_isBeyond := goodIn_r _ [24] (by decide +kernel) (by decide +kernel)
set_option maxRecDepth 20000 in
theorem gX11_copy_X11_isBeyond : GoodIn wsX11_copy (va_wsS RX11 164 yX11_isBeyond wsX11_isBeyond) := goodIn_app (goodIn_of _ (by decide +kernel)) ggX11_copy_X11_isBeyond
theorem dX11_copy_0 : decode cX11_copy 0 = .ok (.iload_n 1, 1) := by decide +kernel
theorem dX11_copy_1 : decode cX11_copy 1 = .ok (.invokestatic 144, 3) := by decide +kernel
theorem dX11_copy_4 : decode cX11_copy 4 = .ok (.ifCond .ne 10, 3) := by decide +kernel
theorem dX11_copy_7 : decode cX11_copy 7 = .ok (.iload_n 3, 1) := by decide +kernel
theorem dX11_copy_8 : decode cX11_copy 8 = .ok (.invokestatic 144, 3) := by decide +kernel
theorem dX11_copy_11 : decode cX11_copy 11 = .ok (.ifCond .eq 9, 3) := by decide +kernel
theorem dX11_copy_14 : decode cX11_copy 14 = .ok (.aload_n 0, 1) := by decide +kernel
theorem dX11_copy_15 : decode cX11_copy 15 = .ok (.iconst (-1), 1) := by decide +kernel
theorem dX11_copy_16 : decode cX11_copy 16 = .ok (.invokevirtual 148, 3) := by decide +kernel
theorem dX11_copy_19 : decode cX11_copy 19 = .ok (.ireturn, 1) := by decide +kernel
theorem dX11_copy_20 : decode cX11_copy 20 = .ok (.aload_n 0, 1) := by decide +kernel
theorem dX11_copy_21 : decode cX11_copy 21 = .ok (.getfield 22, 3) := by decide +kernel
theorem dX11_copy_24 : decode cX11_copy 24 = .ok (.iload_n 1, 1) := by decide +kernel
theorem dX11_copy_25 : decode cX11_copy 25 = .ok (.iaload, 1) := by decide +kernel
theorem dX11_copy_26 : decode cX11_copy 26 = .ok (.ifCond .lt 12, 3) := by decide +kernel
theorem dX11_copy_29 : decode cX11_copy 29 = .ok (.aload_n 0, 1) := by decide +kernel
theorem dX11_copy_30 : decode cX11_copy 30 = .ok (.getfield 22, 3) := by decide +kernel
theorem dX11_copy_33 : decode cX11_copy 33 = .ok (.iload_n 3, 1) := by decide +kernel
theorem dX11_copy_34 : decode cX11_copy 34 = .ok (.iaload, 1) := by decide +kernel
theorem dX11_copy_35 : decode cX11_copy 35 = .ok (.ifCond .ge 9, 3) := by decide +kernel
theorem dX11_copy_38 : decode cX11_copy 38 = .ok (.aload_n 0, 1) := by decide +kernel
theorem dX11_copy_39 : decode cX11_copy 39 = .ok (.iconst 1, 1) := by decide +kernel
theorem dX11_copy_40 : decode cX11_copy 40 = .ok (.invokevirtual 153, 3) := by decide +kernel
theorem dX11_copy_43 : decode cX11_copy 43 = .ok (.ireturn, 1) := by decide +kernel
theorem dX11_copy_44 : decode cX11_copy 44 = .ok (.aload_n 0, 1) := by decide +kernel
theorem dX11_copy_45 : decode cX11_copy 45 = .ok (.getfield 25, 3) := by decide +kernel
theorem dX11_copy_48 : decode cX11_copy 48 = .ok (.iload_n 1, 1) := by decide +kernel
theorem dX11_copy_49 : decode cX11_copy 49 = .ok (.iaload, 1) := by decide +kernel
theorem dX11_copy_50 : decode cX11_copy 50 = .ok (.aload_n 0, 1) := by decide +kernel
theorem dX11_copy_51 : decode cX11_copy 51 = .ok (.getfield 25, 3) := by decide +kernel
theorem dX11_copy_54 : decode cX11_copy 54 = .ok (.iload_n 3, 1) := by decide +kernel
theorem dX11_copy_55 : decode cX11_copy 55 = .ok (.iaload, 1) := by decide +kernel
theorem dX11_copy_56 : decode cX11_copy 56 = .ok (.if_icmp .eq 9, 3) := by decide +kernel
theorem dX11_copy_59 : decode cX11_copy 59 = .ok (.aload_n 0, 1) := by decide +kernel
theorem dX11_copy_60 : decode cX11_copy 60 = .ok (.iconst 2, 1) := by decide +kernel
theorem dX11_copy_61 : decode cX11_copy 61 = .ok (.invokevirtual 153, 3) := by decide +kernel
theorem dX11_copy_64 : decode cX11_copy 64 = .ok (.ireturn, 1) := by decide +kernel
theorem dX11_copy_65 : decode cX11_copy 65 = .ok (.iload_n 2, 1) := by decide +kernel
theorem dX11_copy_66 : decode cX11_copy 66 = .ok (.iload 5, 2) := by decide +kernel
theorem dX11_copy_68 : decode cX11_copy 68 = .ok (.aload_n 0, 1) := by decide +kernel
theorem dX11_copy_69 : decode cX11_copy 69 = .ok (.getfield 22, 3) := by decide +kernel
theorem dX11_copy_72 : decode cX11_copy 72 = .ok (.iload_n 1, 1) := by decide +kernel
theorem dX11_copy_73 : decode cX11_copy 73 = .ok (.iaload, 1) := by decide +kernel
theorem dX11_copy_74 : decode cX11_copy 74 = .ok (.invokestatic 164, 3) := by decide +kernel
theorem dX11_copy_77 : decode cX11_copy 77 = .ok (.ifCond .ne 19, 3) := by decide +kernel
theorem dX11_copy_80 : decode cX11_copy 80 = .ok (.iload 4, 2) := by decide +kernel
theorem dX11_copy_82 : decode cX11_copy 82 = .ok (.iload 5, 2) := by decide +kernel
theorem dX11_copy_84 : decode cX11_copy 84 = .ok (.aload_n 0, 1) := by decide +kernel
theorem dX11_copy_85 : decode cX11_copy 85 = .ok (.getfield 22, 3) := by decide +kernel
theorem dX11_copy_88 : decode cX11_copy 88 = .ok (.iload_n 3, 1) := by decide +kernel
theorem dX11_copy_89 : decode cX11_copy 89 = .ok (.iaload, 1) := by decide +kernel
theorem dX11_copy_90 : decode cX11_copy 90 = .ok (.invokestatic 164, 3) := by decide +kernel
theorem dX11_copy_93 : decode cX11_copy 93 = .ok (.ifCond .eq 9, 3) := by decide +kernel
theorem dX11_copy_96 : decode cX11_copy 96 = .ok (.aload_n 0, 1) := by decide +kernel
theorem dX11_copy_97 : decode cX11_copy 97 = .ok (.iconst 3, 1) := by decide +kernel
theorem dX11_copy_98 : decode cX11_copy 98 = .ok (.invokevirtual 153, 3) := by decide +kernel
theorem dX11_copy_101 : decode cX11_copy 101 = .ok (.ireturn, 1) := by decide +kernel
theorem dX11_copy_102 : decode cX11_copy 102 = .ok (.iconst 0, 1) := by decide +kernel
theorem dX11_copy_103 : decode cX11_copy 103 = .ok (.istore 6, 2) := by decide +kernel
theorem dX11_copy_105 : decode cX11_copy 105 = .ok (.iload 6, 2) := by decide +kernel
theorem dX11_copy_107 : decode cX11_copy 107 = .ok (.iload 5, 2) := by decide +kernel
theorem dX11_copy_109 : decode cX11_copy 109 = .ok (.if_icmp .ge 30, 3) := by decide +kernel
theorem dX11_copy_112 : decode cX11_copy 112 = .ok (.aload_n 0, 1) := by decide +kernel
theorem dX11_copy_113 : decode cX11_copy 113 = .ok (.getfield 31, 3) := by decide +kernel
theorem dX11_copy_116 : decode cX11_copy 116 = .ok (.iload 6, 2) := by decide +kernel
theorem dX11_copy_118 : decode cX11_copy 118 = .ok (.aload_n 0, 1) := by decide +kernel
theorem dX11_copy_119 : decode cX11_copy 119 = .ok (.getfield 28, 3) := by decide +kernel
theorem dX11_copy_122 : decode cX11_copy 122 = .ok (.bipush 48, 2) := by decide +kernel
theorem dX11_copy_124 : decode cX11_copy 124 = .ok (.iload_n 1, 1) := by decide +kernel
theorem dX11_copy_125 : decode cX11_copy 125 = .ok (.imul, 1) := by decide +kernel
theorem dX11_copy_126 : decode cX11_copy 126 = .ok (.iload_n 2, 1) := by decide +kernel
theorem dX11_copy_127 : decode cX11_copy 127 = .ok (.iadd, 1) := by decide +kernel
theorem dX11_copy_128 : decode cX11_copy 128 = .ok (.iload 6, 2) := by decide +kernel
theorem dX11_copy_130 : decode cX11_copy 130 = .ok (.iadd, 1) := by decide +kernel
theorem dX11_copy_131 : decode cX11_copy 131 = .ok (.iaload, 1) := by decide +kernel
theorem dX11_copy_132 : decode cX11_copy 132 = .ok (.iastore, 1) := by decide +kernel
theorem dX11_copy_133 : decode cX11_copy 133 = .ok (.iinc 6 1, 3) := by decide +kernel
theorem dX11_copy_136 : decode cX11_copy 136 = .ok (.goto (-31), 3) := by decide +kernel
theorem dX11_copy_139 : decode cX11_copy 139 = .ok (.iconst 0, 1) := by decide +kernel
theorem dX11_copy_140 : decode cX11_copy 140 = .ok (.istore 6, 2) := by decide +kernel
theorem dX11_copy_142 : decode cX11_copy 142 = .ok (.iload 6, 2) := by decide +kernel
theorem dX11_copy_144 : decode cX11_copy 144 = .ok (.iload 5, 2) := by decide +kernel
theorem dX11_copy_146 : decode cX11_copy 146 = .ok (.if_icmp .ge 31, 3) := by decide +kernel
theorem dX11_copy_149 : decode cX11_copy 149 = .ok (.aload_n 0, 1) := by decide +kernel
theorem dX11_copy_150 : decode cX11_copy 150 = .ok (.getfield 28, 3) := by decide +kernel
theorem dX11_copy_153 : decode cX11_copy 153 = .ok (.bipush 48, 2) := by decide +kernel
theorem dX11_copy_155 : decode cX11_copy 155 = .ok (.iload_n 3, 1) := by decide +kernel
theorem dX11_copy_156 : decode cX11_copy 156 = .ok (.imul, 1) := by decide +kernel
theorem dX11_copy_157 : decode cX11_copy 157 = .ok (.iload 4, 2) := by decide +kernel
theorem dX11_copy_159 : decode cX11_copy 159 = .ok (.iadd, 1) := by decide +kernel
theorem dX11_copy_160 : decode cX11_copy 160 = .ok (.iload 6, 2) := by decide +kernel
theorem dX11_copy_162 : decode cX11_copy 162 = .ok (.iadd, 1) := by decide +kernel
theorem dX11_copy_163 : decode cX11_copy 163 = .ok (.aload_n 0, 1) := by decide +kernel
theorem dX11_copy_164 : decode cX11_copy 164 = .ok (.getfield 31, 3) := by decide +kernel
theorem dX11_copy_167 : decode cX11_copy 167 = .ok (.iload 6, 2) := by decide +kernel
theorem dX11_copy_169 : decode cX11_copy 169 = .ok (.iaload, 1) := by decide +kernel
theorem dX11_copy_170 : decode cX11_copy 170 = .ok (.iastore, 1) := by decide +kernel
theorem dX11_copy_171 : decode cX11_copy 171 = .ok (.iinc 6 1, 3) := by decide +kernel
theorem dX11_copy_174 : decode cX11_copy 174 = .ok (.goto (-32), 3) := by decide +kernel
theorem dX11_copy_177 : decode cX11_copy 177 = .ok (.aload_n 0, 1) := by decide +kernel
theorem dX11_copy_178 : decode cX11_copy 178 = .ok (.iload 5, 2) := by decide +kernel
theorem dX11_copy_180 : decode cX11_copy 180 = .ok (.invokevirtual 148, 3) := by decide +kernel
theorem dX11_copy_183 : decode cX11_copy 183 = .ok (.ireturn, 1) := by decide +kernel
set_option maxRecDepth 20000 in
theorem ggX11_chart_X11_noSheet : GoodIn wsX11_chart wsX11_noSheet := goodIn_r _ [10, 11, 12, 13, 9, 14] (by decide +kernel) (by decide +kernel)
set_option maxRecDepth 20000 in
theorem gX11_chart_X11_noSheet : GoodIn wsX11_chart (va_wsS RX11 144 yX11_noSheet wsX11_noSheet) := goodIn_app (goodIn_of _ (by decide +kernel)) ggX11_chart_X11_noSheet
set_option maxRecDepth 20000 in
theorem ggX11_chart_X11_in : GoodIn wsX11_chart wsX11_in := goodIn_r _ [14] (by decide +kernel) (by decide +kernel)
set_option maxRecDepth 20000 in
theorem gX11_chart_X11_in : GoodIn wsX11_chart (va_wsS RX11 111 yX11_in wsX11_in) := goodIn_app (goodIn_of _ (by decide +kernel)) ggX11_chart_X11_in
set_option maxRecDepth 20000 in
theorem ggX11_chart_X11_refused : GoodIn wsX11_chart wsX11_refused := goodIn_r _ [18, 19, 53, 54, 55, 56, 57, 58, 59, 60, 61, 62, 63, 64, 65, 66, 67, 68, 69, 70, 71, 72, 73, 74, 75, 76, 77, 78, 79, 80, 81, 82, 83, 84, 85, 86, 87, 88, 89, 90, 91] (by decide +kernel) (by decide +kernel)
set_option maxRecDepth 20000 in
theorem gX11_chart_X11_refused : GoodIn wsX11_chart (wsV RX11 148 RX11 yX11_refused wsX11_refused) := goodIn_app (goodIn_of _ (by decide +kernel)) ggX11_chart_X11_refused
set_option maxRecDepth 20000 in
theorem ggX11_chart_X11_failed : GoodIn wsX11_chart wsX11_failed := goodIn_r _ [23, 19, 53, 54, 55, 56, 57, 58, 59, 60, 61, 62, 63, 64, 65, 66, 67, 68, 69, 70, 71, 72, 73, 74, 75, 76, 77, 78, 79, 80, 81, 82, 83, 84, 85, 86, 87, 88, 89, 90, 91] (by decide +kernel) (by decide +kernel)
set_option maxRecDepth 20000 in
theorem gX11_chart_X11_failed : GoodIn wsX11_chart (wsV RX11 153 RX11 yX11_failed wsX11_failed) := goodIn_app (goodIn_of _ (by decide +kernel)) ggX11_chart_X11_failed
set_option maxRecDepth 20000 in
theorem ggX11_chart_X11_isBeyond : GoodIn wsX11_chart wsX11_isBeyond := goodIn_r _ [26] (by decide +kernel) (by decide +kernel)
set_option maxRecDepth 20000 in
theorem gX11_chart_X11_isBeyond : GoodIn wsX11_chart (va_wsS RX11 164 yX11_isBeyond wsX11_isBeyond) := goodIn_app (goodIn_of _ (by decide +kernel)) ggX11_chart_X11_isBeyond
set_option maxRecDepth 20000 in
theorem ggX11_chart_X11_layNew : GoodIn wsX11_chart wsX11_layNew := goodIn_r _ [30, 31, 32, 33, 34, 53, 54, 55, 56, 57, 58, 59, 60, 61, 62, 63, 64, 65, 66, 67, 68, 69, 70, 71, 72, 73, 74, 75, 76, 77, 78, 79, 80, 81, 82, 83, 84, 85, 86, 87, 88, 89, 90, 91] (by decide +kernel) (by decide +kernel)
set_option maxRecDepth 20000 in
theorem gX11_chart_X11_layNew : GoodIn wsX11_chart (wsV RX11 135 RX11 yX11_layNew wsX11_layNew) := goodIn_app (goodIn_of _ (by decide +kernel)) ggX11_chart_X11_layNew
set_option maxRecDepth 20000 in
theorem ggX11_chart_X11_meet : GoodIn wsX11_chart wsX11_meet := goodIn_r _ [38, 31, 39, 33, 53, 54, 55, 56, 57, 58, 59, 60, 61, 62, 63, 64, 65, 66, 67, 68, 69, 70, 71, 72, 73, 74, 75, 76, 77, 78, 79, 80, 81, 82, 83, 84, 85, 86, 87, 88, 89, 90, 91] (by decide +kernel) (by decide +kernel)
set_option maxRecDepth 20000 in
theorem gX11_chart_X11_meet : GoodIn wsX11_chart (wsV RX11 125 RX11 yX11_meet wsX11_meet) := goodIn_app (goodIn_of _ (by decide +kernel)) ggX11_chart_X11_meet
set_option maxRecDepth 20000 in
theorem ggX11_chart_X11_narrowed : GoodIn wsX11_chart wsX11_narrowed := goodIn_r _ [43, 39, 31, 33, 32, 34, 6, 44, 45, 46, 9, 47, 48, 49, 50, 51, 52, 12, 13, 14, 35, 36, 37, 38, 53, 54, 55, 56, 57, 58, 59, 60, 61, 62, 63, 64, 65, 66, 67, 68, 69, 70, 71, 72, 73, 74, 75, 76, 77, 78, 79, 80, 81, 82, 83, 84, 85, 86, 87, 88, 89, 90, 91] (by decide +kernel) (by decide +kernel)
set_option maxRecDepth 20000 in
theorem gX11_chart_X11_narrowed : GoodIn wsX11_chart (wsV RX11 138 RX11 yX11_narrowed wsX11_narrowed) := goodIn_app (goodIn_of _ (by decide +kernel)) ggX11_chart_X11_narrowed
theorem dX11_chart_0 : decode cX11_chart 0 = .ok (.iload_n 1, 1) := by decide +kernel
theorem dX11_chart_1 : decode cX11_chart 1 = .ok (.invokestatic 144, 3) := by decide +kernel
theorem dX11_chart_4 : decode cX11_chart 4 = .ok (.ifCond .ne 16, 3) := by decide +kernel
theorem dX11_chart_7 : decode cX11_chart 7 = .ok (.iload 5, 2) := by decide +kernel
theorem dX11_chart_9 : decode cX11_chart 9 = .ok (.i2l, 1) := by decide +kernel
theorem dX11_chart_10 : decode cX11_chart 10 = .ok (.lconst 0, 1) := by decide +kernel
theorem dX11_chart_11 : decode cX11_chart 11 = .ok (.ldc2_w 168, 3) := by decide +kernel
theorem dX11_chart_14 : decode cX11_chart 14 = .ok (.invokestatic 111, 3) := by decide +kernel
theorem dX11_chart_17 : decode cX11_chart 17 = .ok (.ifCond .ne 9, 3) := by decide +kernel
theorem dX11_chart_20 : decode cX11_chart 20 = .ok (.aload_n 0, 1) := by decide +kernel
theorem dX11_chart_21 : decode cX11_chart 21 = .ok (.iconst (-1), 1) := by decide +kernel
theorem dX11_chart_22 : decode cX11_chart 22 = .ok (.invokevirtual 148, 3) := by decide +kernel
theorem dX11_chart_25 : decode cX11_chart 25 = .ok (.ireturn, 1) := by decide +kernel
theorem dX11_chart_26 : decode cX11_chart 26 = .ok (.iload_n 2, 1) := by decide +kernel
theorem dX11_chart_27 : decode cX11_chart 27 = .ok (.i2l, 1) := by decide +kernel
theorem dX11_chart_28 : decode cX11_chart 28 = .ok (.lconst 0, 1) := by decide +kernel
theorem dX11_chart_29 : decode cX11_chart 29 = .ok (.ldc2_w 151, 3) := by decide +kernel
theorem dX11_chart_32 : decode cX11_chart 32 = .ok (.invokestatic 111, 3) := by decide +kernel
theorem dX11_chart_35 : decode cX11_chart 35 = .ok (.ifCond .ne 10, 3) := by decide +kernel
theorem dX11_chart_38 : decode cX11_chart 38 = .ok (.aload_n 0, 1) := by decide +kernel
theorem dX11_chart_39 : decode cX11_chart 39 = .ok (.bipush (-2), 2) := by decide +kernel
theorem dX11_chart_41 : decode cX11_chart 41 = .ok (.invokevirtual 148, 3) := by decide +kernel
theorem dX11_chart_44 : decode cX11_chart 44 = .ok (.ireturn, 1) := by decide +kernel
theorem dX11_chart_45 : decode cX11_chart 45 = .ok (.aload_n 0, 1) := by decide +kernel
theorem dX11_chart_46 : decode cX11_chart 46 = .ok (.getfield 22, 3) := by decide +kernel
theorem dX11_chart_49 : decode cX11_chart 49 = .ok (.iload_n 1, 1) := by decide +kernel
theorem dX11_chart_50 : decode cX11_chart 50 = .ok (.iaload, 1) := by decide +kernel
theorem dX11_chart_51 : decode cX11_chart 51 = .ok (.ifCond .lt 19, 3) := by decide +kernel
theorem dX11_chart_54 : decode cX11_chart 54 = .ok (.aload_n 0, 1) := by decide +kernel
theorem dX11_chart_55 : decode cX11_chart 55 = .ok (.getfield 25, 3) := by decide +kernel
theorem dX11_chart_58 : decode cX11_chart 58 = .ok (.iload_n 1, 1) := by decide +kernel
theorem dX11_chart_59 : decode cX11_chart 59 = .ok (.iaload, 1) := by decide +kernel
theorem dX11_chart_60 : decode cX11_chart 60 = .ok (.iload_n 2, 1) := by decide +kernel
theorem dX11_chart_61 : decode cX11_chart 61 = .ok (.if_icmp .eq 9, 3) := by decide +kernel
theorem dX11_chart_64 : decode cX11_chart 64 = .ok (.aload_n 0, 1) := by decide +kernel
theorem dX11_chart_65 : decode cX11_chart 65 = .ok (.iconst 2, 1) := by decide +kernel
theorem dX11_chart_66 : decode cX11_chart 66 = .ok (.invokevirtual 153, 3) := by decide +kernel
theorem dX11_chart_69 : decode cX11_chart 69 = .ok (.ireturn, 1) := by decide +kernel
theorem dX11_chart_70 : decode cX11_chart 70 = .ok (.aload_n 0, 1) := by decide +kernel
theorem dX11_chart_71 : decode cX11_chart 71 = .ok (.getfield 22, 3) := by decide +kernel
theorem dX11_chart_74 : decode cX11_chart 74 = .ok (.iload_n 1, 1) := by decide +kernel
theorem dX11_chart_75 : decode cX11_chart 75 = .ok (.iaload, 1) := by decide +kernel
theorem dX11_chart_76 : decode cX11_chart 76 = .ok (.ifCond .ge 9, 3) := by decide +kernel
theorem dX11_chart_79 : decode cX11_chart 79 = .ok (.aload_n 0, 1) := by decide +kernel
theorem dX11_chart_80 : decode cX11_chart 80 = .ok (.iconst 1, 1) := by decide +kernel
theorem dX11_chart_81 : decode cX11_chart 81 = .ok (.invokevirtual 153, 3) := by decide +kernel
theorem dX11_chart_84 : decode cX11_chart 84 = .ok (.ireturn, 1) := by decide +kernel
theorem dX11_chart_85 : decode cX11_chart 85 = .ok (.iload 4, 2) := by decide +kernel
theorem dX11_chart_87 : decode cX11_chart 87 = .ok (.ifCond .ge 9, 3) := by decide +kernel
theorem dX11_chart_90 : decode cX11_chart 90 = .ok (.aload_n 0, 1) := by decide +kernel
theorem dX11_chart_91 : decode cX11_chart 91 = .ok (.iconst 4, 1) := by decide +kernel
theorem dX11_chart_92 : decode cX11_chart 92 = .ok (.invokevirtual 153, 3) := by decide +kernel
theorem dX11_chart_95 : decode cX11_chart 95 = .ok (.ireturn, 1) := by decide +kernel
theorem dX11_chart_96 : decode cX11_chart 96 = .ok (.iload_n 3, 1) := by decide +kernel
theorem dX11_chart_97 : decode cX11_chart 97 = .ok (.iload 4, 2) := by decide +kernel
theorem dX11_chart_99 : decode cX11_chart 99 = .ok (.aload_n 0, 1) := by decide +kernel
theorem dX11_chart_100 : decode cX11_chart 100 = .ok (.getfield 22, 3) := by decide +kernel
theorem dX11_chart_103 : decode cX11_chart 103 = .ok (.iload_n 1, 1) := by decide +kernel
theorem dX11_chart_104 : decode cX11_chart 104 = .ok (.iaload, 1) := by decide +kernel
theorem dX11_chart_105 : decode cX11_chart 105 = .ok (.invokestatic 164, 3) := by decide +kernel
theorem dX11_chart_108 : decode cX11_chart 108 = .ok (.ifCond .ne 15, 3) := by decide +kernel
theorem dX11_chart_111 : decode cX11_chart 111 = .ok (.iload 5, 2) := by decide +kernel
theorem dX11_chart_113 : decode cX11_chart 113 = .ok (.iload 4, 2) := by decide +kernel
theorem dX11_chart_115 : decode cX11_chart 115 = .ok (.bipush 48, 2) := by decide +kernel
theorem dX11_chart_117 : decode cX11_chart 117 = .ok (.invokestatic 164, 3) := by decide +kernel
theorem dX11_chart_120 : decode cX11_chart 120 = .ok (.ifCond .eq 9, 3) := by decide +kernel
theorem dX11_chart_123 : decode cX11_chart 123 = .ok (.aload_n 0, 1) := by decide +kernel
theorem dX11_chart_124 : decode cX11_chart 124 = .ok (.iconst 3, 1) := by decide +kernel
theorem dX11_chart_125 : decode cX11_chart 125 = .ok (.invokevirtual 153, 3) := by decide +kernel
theorem dX11_chart_128 : decode cX11_chart 128 = .ok (.ireturn, 1) := by decide +kernel
theorem dX11_chart_129 : decode cX11_chart 129 = .ok (.aload_n 0, 1) := by decide +kernel
theorem dX11_chart_130 : decode cX11_chart 130 = .ok (.invokevirtual 135, 3) := by decide +kernel
theorem dX11_chart_133 : decode cX11_chart 133 = .ok (.iconst 0, 1) := by decide +kernel
theorem dX11_chart_134 : decode cX11_chart 134 = .ok (.istore 6, 2) := by decide +kernel
theorem dX11_chart_136 : decode cX11_chart 136 = .ok (.iload 6, 2) := by decide +kernel
theorem dX11_chart_138 : decode cX11_chart 138 = .ok (.iload 4, 2) := by decide +kernel
theorem dX11_chart_140 : decode cX11_chart 140 = .ok (.if_icmp .ge 58, 3) := by decide +kernel
theorem dX11_chart_143 : decode cX11_chart 143 = .ok (.aload_n 0, 1) := by decide +kernel
theorem dX11_chart_144 : decode cX11_chart 144 = .ok (.getfield 28, 3) := by decide +kernel
theorem dX11_chart_147 : decode cX11_chart 147 = .ok (.bipush 48, 2) := by decide +kernel
theorem dX11_chart_149 : decode cX11_chart 149 = .ok (.iload_n 1, 1) := by decide +kernel
theorem dX11_chart_150 : decode cX11_chart 150 = .ok (.imul, 1) := by decide +kernel
theorem dX11_chart_151 : decode cX11_chart 151 = .ok (.iload_n 3, 1) := by decide +kernel
theorem dX11_chart_152 : decode cX11_chart 152 = .ok (.iadd, 1) := by decide +kernel
theorem dX11_chart_153 : decode cX11_chart 153 = .ok (.iload 6, 2) := by decide +kernel
theorem dX11_chart_155 : decode cX11_chart 155 = .ok (.iadd, 1) := by decide +kernel
theorem dX11_chart_156 : decode cX11_chart 156 = .ok (.iaload, 1) := by decide +kernel
theorem dX11_chart_157 : decode cX11_chart 157 = .ok (.istore 7, 2) := by decide +kernel
theorem dX11_chart_159 : decode cX11_chart 159 = .ok (.iload 7, 2) := by decide +kernel
theorem dX11_chart_161 : decode cX11_chart 161 = .ok (.sipush 1000, 3) := by decide +kernel
theorem dX11_chart_164 : decode cX11_chart 164 = .ok (.if_icmp .le 10, 3) := by decide +kernel
theorem dX11_chart_167 : decode cX11_chart 167 = .ok (.aload_n 0, 1) := by decide +kernel
theorem dX11_chart_168 : decode cX11_chart 168 = .ok (.bipush (-2), 2) := by decide +kernel
theorem dX11_chart_170 : decode cX11_chart 170 = .ok (.invokevirtual 148, 3) := by decide +kernel
theorem dX11_chart_173 : decode cX11_chart 173 = .ok (.ireturn, 1) := by decide +kernel
theorem dX11_chart_174 : decode cX11_chart 174 = .ok (.iload 7, 2) := by decide +kernel
theorem dX11_chart_176 : decode cX11_chart 176 = .ok (.ifCond .lt 16, 3) := by decide +kernel
theorem dX11_chart_179 : decode cX11_chart 179 = .ok (.aload_n 0, 1) := by decide +kernel
theorem dX11_chart_180 : decode cX11_chart 180 = .ok (.iload 5, 2) := by decide +kernel
theorem dX11_chart_182 : decode cX11_chart 182 = .ok (.iload 6, 2) := by decide +kernel
theorem dX11_chart_184 : decode cX11_chart 184 = .ok (.iadd, 1) := by decide +kernel
theorem dX11_chart_185 : decode cX11_chart 185 = .ok (.iload 7, 2) := by decide +kernel
theorem dX11_chart_187 : decode cX11_chart 187 = .ok (.iload 7, 2) := by decide +kernel
theorem dX11_chart_189 : decode cX11_chart 189 = .ok (.invokevirtual 125, 3) := by decide +kernel
theorem dX11_chart_192 : decode cX11_chart 192 = .ok (.iinc 6 1, 3) := by decide +kernel
theorem dX11_chart_195 : decode cX11_chart 195 = .ok (.goto (-59), 3) := by decide +kernel
theorem dX11_chart_198 : decode cX11_chart 198 = .ok (.aload_n 0, 1) := by decide +kernel
theorem dX11_chart_199 : decode cX11_chart 199 = .ok (.aload_n 0, 1) := by decide +kernel
theorem dX11_chart_200 : decode cX11_chart 200 = .ok (.aload_n 0, 1) := by decide +kernel
theorem dX11_chart_201 : decode cX11_chart 201 = .ok (.getfield 93, 3) := by decide +kernel
theorem dX11_chart_204 : decode cX11_chart 204 = .ok (.invokevirtual 138, 3) := by decide +kernel
theorem dX11_chart_207 : decode cX11_chart 207 = .ok (.invokevirtual 148, 3) := by decide +kernel
theorem dX11_chart_210 : decode cX11_chart 210 = .ok (.ireturn, 1) := by decide +kernel
set_option maxRecDepth 20000 in
theorem ggX11_noPitch_X11_in : GoodIn wsX11_noPitch wsX11_in := goodIn_r _ [5] (by decide +kernel) (by decide +kernel)
set_option maxRecDepth 20000 in
theorem gX11_noPitch_X11_in : GoodIn wsX11_noPitch (va_wsS RX11 111 yX11_in wsX11_in) := goodIn_app (goodIn_of _ (by decide +kernel)) ggX11_noPitch_X11_in
theorem dX11_noPitch_0 : decode cX11_noPitch 0 = .ok (.iload_n 1, 1) := by decide +kernel
theorem dX11_noPitch_1 : decode cX11_noPitch 1 = .ok (.i2l, 1) := by decide +kernel
theorem dX11_noPitch_2 : decode cX11_noPitch 2 = .ok (.lconst 0, 1) := by decide +kernel
theorem dX11_noPitch_3 : decode cX11_noPitch 3 = .ok (.aload_n 0, 1) := by decide +kernel
theorem dX11_noPitch_4 : decode cX11_noPitch 4 = .ok (.getfield 170, 3) := by decide +kernel
theorem dX11_noPitch_7 : decode cX11_noPitch 7 = .ok (.i2l, 1) := by decide +kernel
theorem dX11_noPitch_8 : decode cX11_noPitch 8 = .ok (.lconst 1, 1) := by decide +kernel
theorem dX11_noPitch_9 : decode cX11_noPitch 9 = .ok (.lsub, 1) := by decide +kernel
theorem dX11_noPitch_10 : decode cX11_noPitch 10 = .ok (.invokestatic 111, 3) := by decide +kernel
theorem dX11_noPitch_13 : decode cX11_noPitch 13 = .ok (.ifCond .ne 7, 3) := by decide +kernel
theorem dX11_noPitch_16 : decode cX11_noPitch 16 = .ok (.iconst 1, 1) := by decide +kernel
theorem dX11_noPitch_17 : decode cX11_noPitch 17 = .ok (.goto 4, 3) := by decide +kernel
theorem dX11_noPitch_20 : decode cX11_noPitch 20 = .ok (.iconst 0, 1) := by decide +kernel
theorem dX11_noPitch_21 : decode cX11_noPitch 21 = .ok (.ireturn, 1) := by decide +kernel
set_option maxRecDepth 20000 in
theorem ggX11_isOn_X11_in : GoodIn wsX11_isOn wsX11_in := goodIn_r _ [8] (by decide +kernel) (by decide +kernel)
set_option maxRecDepth 20000 in
theorem gX11_isOn_X11_in : GoodIn wsX11_isOn (va_wsS RX11 111 yX11_in wsX11_in) := goodIn_app (goodIn_of _ (by decide +kernel)) ggX11_isOn_X11_in
theorem dX11_isOn_0 : decode cX11_isOn 0 = .ok (.iload_n 2, 1) := by decide +kernel
theorem dX11_isOn_1 : decode cX11_isOn 1 = .ok (.bipush 8, 2) := by decide +kernel
theorem dX11_isOn_3 : decode cX11_isOn 3 = .ok (.irem, 1) := by decide +kernel
theorem dX11_isOn_4 : decode cX11_isOn 4 = .ok (.i2l, 1) := by decide +kernel
theorem dX11_isOn_5 : decode cX11_isOn 5 = .ok (.aload_n 0, 1) := by decide +kernel
theorem dX11_isOn_6 : decode cX11_isOn 6 = .ok (.getfield 34, 3) := by decide +kernel
theorem dX11_isOn_9 : decode cX11_isOn 9 = .ok (.iload_n 1, 1) := by decide +kernel
theorem dX11_isOn_10 : decode cX11_isOn 10 = .ok (.iaload, 1) := by decide +kernel
theorem dX11_isOn_11 : decode cX11_isOn 11 = .ok (.i2l, 1) := by decide +kernel
theorem dX11_isOn_12 : decode cX11_isOn 12 = .ok (.aload_n 0, 1) := by decide +kernel
theorem dX11_isOn_13 : decode cX11_isOn 13 = .ok (.getfield 40, 3) := by decide +kernel
theorem dX11_isOn_16 : decode cX11_isOn 16 = .ok (.iload_n 1, 1) := by decide +kernel
theorem dX11_isOn_17 : decode cX11_isOn 17 = .ok (.iaload, 1) := by decide +kernel
theorem dX11_isOn_18 : decode cX11_isOn 18 = .ok (.i2l, 1) := by decide +kernel
theorem dX11_isOn_19 : decode cX11_isOn 19 = .ok (.invokestatic 111, 3) := by decide +kernel
theorem dX11_isOn_22 : decode cX11_isOn 22 = .ok (.ifCond .eq 32, 3) := by decide +kernel
theorem dX11_isOn_25 : decode cX11_isOn 25 = .ok (.iload_n 2, 1) := by decide +kernel
theorem dX11_isOn_26 : decode cX11_isOn 26 = .ok (.bipush 8, 2) := by decide +kernel
theorem dX11_isOn_28 : decode cX11_isOn 28 = .ok (.idiv, 1) := by decide +kernel
theorem dX11_isOn_29 : decode cX11_isOn 29 = .ok (.i2l, 1) := by decide +kernel
theorem dX11_isOn_30 : decode cX11_isOn 30 = .ok (.aload_n 0, 1) := by decide +kernel
theorem dX11_isOn_31 : decode cX11_isOn 31 = .ok (.getfield 37, 3) := by decide +kernel
theorem dX11_isOn_34 : decode cX11_isOn 34 = .ok (.iload_n 1, 1) := by decide +kernel
theorem dX11_isOn_35 : decode cX11_isOn 35 = .ok (.iaload, 1) := by decide +kernel
theorem dX11_isOn_36 : decode cX11_isOn 36 = .ok (.i2l, 1) := by decide +kernel
theorem dX11_isOn_37 : decode cX11_isOn 37 = .ok (.aload_n 0, 1) := by decide +kernel
theorem dX11_isOn_38 : decode cX11_isOn 38 = .ok (.getfield 43, 3) := by decide +kernel
theorem dX11_isOn_41 : decode cX11_isOn 41 = .ok (.iload_n 1, 1) := by decide +kernel
theorem dX11_isOn_42 : decode cX11_isOn 42 = .ok (.iaload, 1) := by decide +kernel
theorem dX11_isOn_43 : decode cX11_isOn 43 = .ok (.i2l, 1) := by decide +kernel
theorem dX11_isOn_44 : decode cX11_isOn 44 = .ok (.invokestatic 111, 3) := by decide +kernel
theorem dX11_isOn_47 : decode cX11_isOn 47 = .ok (.ifCond .eq 7, 3) := by decide +kernel
theorem dX11_isOn_50 : decode cX11_isOn 50 = .ok (.iconst 1, 1) := by decide +kernel
theorem dX11_isOn_51 : decode cX11_isOn 51 = .ok (.goto 4, 3) := by decide +kernel
theorem dX11_isOn_54 : decode cX11_isOn 54 = .ok (.iconst 0, 1) := by decide +kernel
theorem dX11_isOn_55 : decode cX11_isOn 55 = .ok (.ireturn, 1) := by decide +kernel
set_option maxRecDepth 20000 in
theorem ggX11_pitch_X11_isSquare : GoodIn wsX11_pitch wsX11_isSquare := goodIn_r _ [11, 12, 13, 14, 15, 10, 16] (by decide +kernel) (by decide +kernel)
set_option maxRecDepth 20000 in
theorem gX11_pitch_X11_isSquare : GoodIn wsX11_pitch (va_wsS RX11 121 yX11_isSquare wsX11_isSquare) := goodIn_app (goodIn_of _ (by decide +kernel)) ggX11_pitch_X11_isSquare
set_option maxRecDepth 20000 in
theorem ggX11_pitch_X11_in : GoodIn wsX11_pitch wsX11_in := goodIn_r _ [16] (by decide +kernel) (by decide +kernel)
set_option maxRecDepth 20000 in
theorem gX11_pitch_X11_in : GoodIn wsX11_pitch (va_wsS RX11 111 yX11_in wsX11_in) := goodIn_app (goodIn_of _ (by decide +kernel)) ggX11_pitch_X11_in
theorem dX11_pitch_0 : decode cX11_pitch 0 = .ok (.iload_n 1, 1) := by decide +kernel
theorem dX11_pitch_1 : decode cX11_pitch 1 = .ok (.iload_n 2, 1) := by decide +kernel
theorem dX11_pitch_2 : decode cX11_pitch 2 = .ok (.invokestatic 121, 3) := by decide +kernel
theorem dX11_pitch_5 : decode cX11_pitch 5 = .ok (.ifCond .eq 12, 3) := by decide +kernel
theorem dX11_pitch_8 : decode cX11_pitch 8 = .ok (.iload_n 3, 1) := by decide +kernel
theorem dX11_pitch_9 : decode cX11_pitch 9 = .ok (.iload 4, 2) := by decide +kernel
theorem dX11_pitch_11 : decode cX11_pitch 11 = .ok (.invokestatic 121, 3) := by decide +kernel
theorem dX11_pitch_14 : decode cX11_pitch 14 = .ok (.ifCond .ne 5, 3) := by decide +kernel
theorem dX11_pitch_17 : decode cX11_pitch 17 = .ok (.iconst (-1), 1) := by decide +kernel
theorem dX11_pitch_18 : decode cX11_pitch 18 = .ok (.ireturn, 1) := by decide +kernel
theorem dX11_pitch_19 : decode cX11_pitch 19 = .ok (.iload_n 1, 1) := by decide +kernel
theorem dX11_pitch_20 : decode cX11_pitch 20 = .ok (.iload_n 3, 1) := by decide +kernel
theorem dX11_pitch_21 : decode cX11_pitch 21 = .ok (.if_icmp .gt 22, 3) := by decide +kernel
theorem dX11_pitch_24 : decode cX11_pitch 24 = .ok (.iload_n 2, 1) := by decide +kernel
theorem dX11_pitch_25 : decode cX11_pitch 25 = .ok (.iload 4, 2) := by decide +kernel
theorem dX11_pitch_27 : decode cX11_pitch 27 = .ok (.if_icmp .gt 16, 3) := by decide +kernel
theorem dX11_pitch_30 : decode cX11_pitch 30 = .ok (.iload 5, 2) := by decide +kernel
theorem dX11_pitch_32 : decode cX11_pitch 32 = .ok (.i2l, 1) := by decide +kernel
theorem dX11_pitch_33 : decode cX11_pitch 33 = .ok (.lconst 1, 1) := by decide +kernel
theorem dX11_pitch_34 : decode cX11_pitch 34 = .ok (.ldc2_w 173, 3) := by decide +kernel
theorem dX11_pitch_37 : decode cX11_pitch 37 = .ok (.invokestatic 111, 3) := by decide +kernel
theorem dX11_pitch_40 : decode cX11_pitch 40 = .ok (.ifCond .ne 6, 3) := by decide +kernel
theorem dX11_pitch_43 : decode cX11_pitch 43 = .ok (.bipush (-2), 2) := by decide +kernel
theorem dX11_pitch_45 : decode cX11_pitch 45 = .ok (.ireturn, 1) := by decide +kernel
theorem dX11_pitch_46 : decode cX11_pitch 46 = .ok (.iconst 0, 1) := by decide +kernel
theorem dX11_pitch_47 : decode cX11_pitch 47 = .ok (.istore 6, 2) := by decide +kernel
theorem dX11_pitch_49 : decode cX11_pitch 49 = .ok (.iload 6, 2) := by decide +kernel
theorem dX11_pitch_51 : decode cX11_pitch 51 = .ok (.aload_n 0, 1) := by decide +kernel
theorem dX11_pitch_52 : decode cX11_pitch 52 = .ok (.getfield 170, 3) := by decide +kernel
theorem dX11_pitch_55 : decode cX11_pitch 55 = .ok (.if_icmp .ge 57, 3) := by decide +kernel
theorem dX11_pitch_58 : decode cX11_pitch 58 = .ok (.iload_n 1, 1) := by decide +kernel
theorem dX11_pitch_59 : decode cX11_pitch 59 = .ok (.aload_n 0, 1) := by decide +kernel
theorem dX11_pitch_60 : decode cX11_pitch 60 = .ok (.getfield 40, 3) := by decide +kernel
theorem dX11_pitch_63 : decode cX11_pitch 63 = .ok (.iload 6, 2) := by decide +kernel
theorem dX11_pitch_65 : decode cX11_pitch 65 = .ok (.iaload, 1) := by decide +kernel
theorem dX11_pitch_66 : decode cX11_pitch 66 = .ok (.if_icmp .gt 40, 3) := by decide +kernel
theorem dX11_pitch_69 : decode cX11_pitch 69 = .ok (.iload_n 3, 1) := by decide +kernel
theorem dX11_pitch_70 : decode cX11_pitch 70 = .ok (.aload_n 0, 1) := by decide +kernel
theorem dX11_pitch_71 : decode cX11_pitch 71 = .ok (.getfield 34, 3) := by decide +kernel
theorem dX11_pitch_74 : decode cX11_pitch 74 = .ok (.iload 6, 2) := by decide +kernel
theorem dX11_pitch_76 : decode cX11_pitch 76 = .ok (.iaload, 1) := by decide +kernel
theorem dX11_pitch_77 : decode cX11_pitch 77 = .ok (.if_icmp .lt 29, 3) := by decide +kernel
theorem dX11_pitch_80 : decode cX11_pitch 80 = .ok (.iload_n 2, 1) := by decide +kernel
theorem dX11_pitch_81 : decode cX11_pitch 81 = .ok (.aload_n 0, 1) := by decide +kernel
theorem dX11_pitch_82 : decode cX11_pitch 82 = .ok (.getfield 43, 3) := by decide +kernel
theorem dX11_pitch_85 : decode cX11_pitch 85 = .ok (.iload 6, 2) := by decide +kernel
theorem dX11_pitch_87 : decode cX11_pitch 87 = .ok (.iaload, 1) := by decide +kernel
theorem dX11_pitch_88 : decode cX11_pitch 88 = .ok (.if_icmp .gt 18, 3) := by decide +kernel
theorem dX11_pitch_91 : decode cX11_pitch 91 = .ok (.iload 4, 2) := by decide +kernel
theorem dX11_pitch_93 : decode cX11_pitch 93 = .ok (.aload_n 0, 1) := by decide +kernel
theorem dX11_pitch_94 : decode cX11_pitch 94 = .ok (.getfield 37, 3) := by decide +kernel
theorem dX11_pitch_97 : decode cX11_pitch 97 = .ok (.iload 6, 2) := by decide +kernel
theorem dX11_pitch_99 : decode cX11_pitch 99 = .ok (.iaload, 1) := by decide +kernel
theorem dX11_pitch_100 : decode cX11_pitch 100 = .ok (.if_icmp .lt 6, 3) := by decide +kernel
theorem dX11_pitch_103 : decode cX11_pitch 103 = .ok (.bipush (-3), 2) := by decide +kernel
theorem dX11_pitch_105 : decode cX11_pitch 105 = .ok (.ireturn, 1) := by decide +kernel
theorem dX11_pitch_106 : decode cX11_pitch 106 = .ok (.iinc 6 1, 3) := by decide +kernel
theorem dX11_pitch_109 : decode cX11_pitch 109 = .ok (.goto (-60), 3) := by decide +kernel
theorem dX11_pitch_112 : decode cX11_pitch 112 = .ok (.aload_n 0, 1) := by decide +kernel
theorem dX11_pitch_113 : decode cX11_pitch 113 = .ok (.getfield 170, 3) := by decide +kernel
theorem dX11_pitch_116 : decode cX11_pitch 116 = .ok (.bipush 12, 2) := by decide +kernel
theorem dX11_pitch_118 : decode cX11_pitch 118 = .ok (.if_icmp .ne 6, 3) := by decide +kernel
theorem dX11_pitch_121 : decode cX11_pitch 121 = .ok (.bipush (-4), 2) := by decide +kernel
theorem dX11_pitch_123 : decode cX11_pitch 123 = .ok (.ireturn, 1) := by decide +kernel
theorem dX11_pitch_124 : decode cX11_pitch 124 = .ok (.aload_n 0, 1) := by decide +kernel
theorem dX11_pitch_125 : decode cX11_pitch 125 = .ok (.getfield 34, 3) := by decide +kernel
theorem dX11_pitch_128 : decode cX11_pitch 128 = .ok (.aload_n 0, 1) := by decide +kernel
theorem dX11_pitch_129 : decode cX11_pitch 129 = .ok (.getfield 170, 3) := by decide +kernel
theorem dX11_pitch_132 : decode cX11_pitch 132 = .ok (.iload_n 1, 1) := by decide +kernel
theorem dX11_pitch_133 : decode cX11_pitch 133 = .ok (.iastore, 1) := by decide +kernel
theorem dX11_pitch_134 : decode cX11_pitch 134 = .ok (.aload_n 0, 1) := by decide +kernel
theorem dX11_pitch_135 : decode cX11_pitch 135 = .ok (.getfield 37, 3) := by decide +kernel
theorem dX11_pitch_138 : decode cX11_pitch 138 = .ok (.aload_n 0, 1) := by decide +kernel
theorem dX11_pitch_139 : decode cX11_pitch 139 = .ok (.getfield 170, 3) := by decide +kernel
theorem dX11_pitch_142 : decode cX11_pitch 142 = .ok (.iload_n 2, 1) := by decide +kernel
theorem dX11_pitch_143 : decode cX11_pitch 143 = .ok (.iastore, 1) := by decide +kernel
theorem dX11_pitch_144 : decode cX11_pitch 144 = .ok (.aload_n 0, 1) := by decide +kernel
theorem dX11_pitch_145 : decode cX11_pitch 145 = .ok (.getfield 40, 3) := by decide +kernel
theorem dX11_pitch_148 : decode cX11_pitch 148 = .ok (.aload_n 0, 1) := by decide +kernel
theorem dX11_pitch_149 : decode cX11_pitch 149 = .ok (.getfield 170, 3) := by decide +kernel
theorem dX11_pitch_152 : decode cX11_pitch 152 = .ok (.iload_n 3, 1) := by decide +kernel
theorem dX11_pitch_153 : decode cX11_pitch 153 = .ok (.iastore, 1) := by decide +kernel
theorem dX11_pitch_154 : decode cX11_pitch 154 = .ok (.aload_n 0, 1) := by decide +kernel
theorem dX11_pitch_155 : decode cX11_pitch 155 = .ok (.getfield 43, 3) := by decide +kernel
theorem dX11_pitch_158 : decode cX11_pitch 158 = .ok (.aload_n 0, 1) := by decide +kernel
theorem dX11_pitch_159 : decode cX11_pitch 159 = .ok (.getfield 170, 3) := by decide +kernel
theorem dX11_pitch_162 : decode cX11_pitch 162 = .ok (.iload 4, 2) := by decide +kernel
theorem dX11_pitch_164 : decode cX11_pitch 164 = .ok (.iastore, 1) := by decide +kernel
theorem dX11_pitch_165 : decode cX11_pitch 165 = .ok (.aload_n 0, 1) := by decide +kernel
theorem dX11_pitch_166 : decode cX11_pitch 166 = .ok (.getfield 46, 3) := by decide +kernel
theorem dX11_pitch_169 : decode cX11_pitch 169 = .ok (.aload_n 0, 1) := by decide +kernel
theorem dX11_pitch_170 : decode cX11_pitch 170 = .ok (.getfield 170, 3) := by decide +kernel
theorem dX11_pitch_173 : decode cX11_pitch 173 = .ok (.iload 5, 2) := by decide +kernel
theorem dX11_pitch_175 : decode cX11_pitch 175 = .ok (.iastore, 1) := by decide +kernel
theorem dX11_pitch_176 : decode cX11_pitch 176 = .ok (.aload_n 0, 1) := by decide +kernel
theorem dX11_pitch_177 : decode cX11_pitch 177 = .ok (.dup, 1) := by decide +kernel
theorem dX11_pitch_178 : decode cX11_pitch 178 = .ok (.getfield 170, 3) := by decide +kernel
theorem dX11_pitch_181 : decode cX11_pitch 181 = .ok (.iconst 1, 1) := by decide +kernel
theorem dX11_pitch_182 : decode cX11_pitch 182 = .ok (.iadd, 1) := by decide +kernel
theorem dX11_pitch_183 : decode cX11_pitch 183 = .ok (.putfield 170, 3) := by decide +kernel
theorem dX11_pitch_186 : decode cX11_pitch 186 = .ok (.aload_n 0, 1) := by decide +kernel
theorem dX11_pitch_187 : decode cX11_pitch 187 = .ok (.getfield 170, 3) := by decide +kernel
theorem dX11_pitch_190 : decode cX11_pitch 190 = .ok (.iconst 1, 1) := by decide +kernel
theorem dX11_pitch_191 : decode cX11_pitch 191 = .ok (.isub, 1) := by decide +kernel
theorem dX11_pitch_192 : decode cX11_pitch 192 = .ok (.ireturn, 1) := by decide +kernel
set_option maxRecDepth 20000 in
theorem ggX11_foretoldOf_X11_isOn : GoodIn wsX11_foretoldOf wsX11_isOn := goodIn_r _ [8, 9, 10, 11, 12, 13, 14, 7, 15, 16, 17, 18, 19, 20, 21, 22, 23, 24, 25, 26, 27, 28, 29, 30, 31, 32, 33, 34, 35, 36, 37, 38, 39, 40, 41, 42, 43, 44, 45, 46, 47, 48, 49, 50, 51, 52, 53, 54] (by decide +kernel) (by decide +kernel)
set_option maxRecDepth 20000 in
theorem gX11_foretoldOf_X11_isOn : GoodIn wsX11_foretoldOf (wsV RX11 175 RX11 yX11_isOn wsX11_isOn) := goodIn_app (goodIn_of _ (by decide +kernel)) ggX11_foretoldOf_X11_isOn
theorem dX11_foretoldOf_0 : decode cX11_foretoldOf 0 = .ok (.lconst 0, 1) := by decide +kernel
theorem dX11_foretoldOf_1 : decode cX11_foretoldOf 1 = .ok (.lstore_n 3, 1) := by decide +kernel
theorem dX11_foretoldOf_2 : decode cX11_foretoldOf 2 = .ok (.iconst 0, 1) := by decide +kernel
theorem dX11_foretoldOf_3 : decode cX11_foretoldOf 3 = .ok (.istore 5, 2) := by decide +kernel
theorem dX11_foretoldOf_5 : decode cX11_foretoldOf 5 = .ok (.iload 5, 2) := by decide +kernel
theorem dX11_foretoldOf_7 : decode cX11_foretoldOf 7 = .ok (.bipush 48, 2) := by decide +kernel
theorem dX11_foretoldOf_9 : decode cX11_foretoldOf 9 = .ok (.if_icmp .ge 49, 3) := by decide +kernel
theorem dX11_foretoldOf_12 : decode cX11_foretoldOf 12 = .ok (.lload_n 3, 1) := by decide +kernel
theorem dX11_foretoldOf_13 : decode cX11_foretoldOf 13 = .ok (.aload_n 0, 1) := by decide +kernel
theorem dX11_foretoldOf_14 : decode cX11_foretoldOf 14 = .ok (.iload_n 1, 1) := by decide +kernel
theorem dX11_foretoldOf_15 : decode cX11_foretoldOf 15 = .ok (.iload 5, 2) := by decide +kernel
theorem dX11_foretoldOf_17 : decode cX11_foretoldOf 17 = .ok (.invokevirtual 175, 3) := by decide +kernel
theorem dX11_foretoldOf_20 : decode cX11_foretoldOf 20 = .ok (.ifCond .ne 7, 3) := by decide +kernel
theorem dX11_foretoldOf_23 : decode cX11_foretoldOf 23 = .ok (.lconst 0, 1) := by decide +kernel
theorem dX11_foretoldOf_24 : decode cX11_foretoldOf 24 = .ok (.goto 26, 3) := by decide +kernel
theorem dX11_foretoldOf_27 : decode cX11_foretoldOf 27 = .ok (.iload_n 2, 1) := by decide +kernel
theorem dX11_foretoldOf_28 : decode cX11_foretoldOf 28 = .ok (.ifCond .ne 14, 3) := by decide +kernel
theorem dX11_foretoldOf_31 : decode cX11_foretoldOf 31 = .ok (.aload_n 0, 1) := by decide +kernel
theorem dX11_foretoldOf_32 : decode cX11_foretoldOf 32 = .ok (.getfield 7, 3) := by decide +kernel
theorem dX11_foretoldOf_35 : decode cX11_foretoldOf 35 = .ok (.iload 5, 2) := by decide +kernel
theorem dX11_foretoldOf_37 : decode cX11_foretoldOf 37 = .ok (.iaload, 1) := by decide +kernel
theorem dX11_foretoldOf_38 : decode cX11_foretoldOf 38 = .ok (.i2l, 1) := by decide +kernel
theorem dX11_foretoldOf_39 : decode cX11_foretoldOf 39 = .ok (.goto 11, 3) := by decide +kernel
theorem dX11_foretoldOf_42 : decode cX11_foretoldOf 42 = .ok (.aload_n 0, 1) := by decide +kernel
theorem dX11_foretoldOf_43 : decode cX11_foretoldOf 43 = .ok (.getfield 13, 3) := by decide +kernel
theorem dX11_foretoldOf_46 : decode cX11_foretoldOf 46 = .ok (.iload 5, 2) := by decide +kernel
theorem dX11_foretoldOf_48 : decode cX11_foretoldOf 48 = .ok (.iaload, 1) := by decide +kernel
theorem dX11_foretoldOf_49 : decode cX11_foretoldOf 49 = .ok (.i2l, 1) := by decide +kernel
theorem dX11_foretoldOf_50 : decode cX11_foretoldOf 50 = .ok (.ladd, 1) := by decide +kernel
theorem dX11_foretoldOf_51 : decode cX11_foretoldOf 51 = .ok (.lstore_n 3, 1) := by decide +kernel
theorem dX11_foretoldOf_52 : decode cX11_foretoldOf 52 = .ok (.iinc 5 1, 3) := by decide +kernel
theorem dX11_foretoldOf_55 : decode cX11_foretoldOf 55 = .ok (.goto (-50), 3) := by decide +kernel
theorem dX11_foretoldOf_58 : decode cX11_foretoldOf 58 = .ok (.lload_n 3, 1) := by decide +kernel
theorem dX11_foretoldOf_59 : decode cX11_foretoldOf 59 = .ok (.aload_n 0, 1) := by decide +kernel
theorem dX11_foretoldOf_60 : decode cX11_foretoldOf 60 = .ok (.getfield 46, 3) := by decide +kernel
theorem dX11_foretoldOf_63 : decode cX11_foretoldOf 63 = .ok (.iload_n 1, 1) := by decide +kernel
theorem dX11_foretoldOf_64 : decode cX11_foretoldOf 64 = .ok (.iaload, 1) := by decide +kernel
theorem dX11_foretoldOf_65 : decode cX11_foretoldOf 65 = .ok (.i2l, 1) := by decide +kernel
theorem dX11_foretoldOf_66 : decode cX11_foretoldOf 66 = .ok (.lmul, 1) := by decide +kernel
theorem dX11_foretoldOf_67 : decode cX11_foretoldOf 67 = .ok (.lreturn, 1) := by decide +kernel
set_option maxRecDepth 20000 in
theorem ggX11_foretold_X11_noPitch : GoodIn wsX11_foretold wsX11_noPitch := goodIn_r _ [5, 6, 7, 8, 4, 9, 29, 30, 31, 32, 33, 34, 35, 36, 37, 38, 39, 40, 41, 42, 43, 44, 45, 46, 47, 48, 49, 50, 51, 52, 53, 54, 55, 56, 57, 58, 59, 60, 61, 62, 63, 64, 65, 66, 67] (by decide +kernel) (by decide +kernel)
set_option maxRecDepth 20000 in
theorem gX11_foretold_X11_noPitch : GoodIn wsX11_foretold (wsV RX11 178 RX11 yX11_noPitch wsX11_noPitch) := goodIn_app (goodIn_of _ (by decide +kernel)) ggX11_foretold_X11_noPitch
set_option maxRecDepth 20000 in
theorem ggX11_foretold_X11_in : GoodIn wsX11_foretold wsX11_in := goodIn_r _ [9] (by decide +kernel) (by decide +kernel)
set_option maxRecDepth 20000 in
theorem gX11_foretold_X11_in : GoodIn wsX11_foretold (va_wsS RX11 111 yX11_in wsX11_in) := goodIn_app (goodIn_of _ (by decide +kernel)) ggX11_foretold_X11_in
set_option maxRecDepth 20000 in
theorem ggX11_foretold_X11_lost : GoodIn wsX11_foretold wsX11_lost := goodIn_r _ [12, 13] (by decide +kernel) (by decide +kernel)
set_option maxRecDepth 20000 in
theorem gX11_foretold_X11_lost : GoodIn wsX11_foretold (va_wsS RX11 105 yX11_lost wsX11_lost) := goodIn_app (goodIn_of _ (by decide +kernel)) ggX11_foretold_X11_lost
set_option maxRecDepth 20000 in
theorem ggX11_foretold_X11_foretoldOf : GoodIn wsX11_foretold wsX11_foretoldOf := goodIn_r _ [17, 18, 19, 20, 21, 22, 23, 4, 24, 25, 26, 27, 28, 7, 8, 9, 29, 30, 31, 32, 33, 34, 35, 36, 37, 38, 39, 40, 41, 42, 43, 44, 45, 46, 47, 48, 49, 50, 51, 52, 53, 54, 55, 56, 57, 58, 59, 60, 61, 62, 63, 64, 65, 66, 67] (by decide +kernel) (by decide +kernel)
set_option maxRecDepth 20000 in
theorem gX11_foretold_X11_foretoldOf : GoodIn wsX11_foretold (wsV RX11 181 RX11 yX11_foretoldOf wsX11_foretoldOf) := goodIn_app (goodIn_of _ (by decide +kernel)) ggX11_foretold_X11_foretoldOf
theorem dX11_foretold_0 : decode cX11_foretold 0 = .ok (.aload_n 0, 1) := by decide +kernel
theorem dX11_foretold_1 : decode cX11_foretold 1 = .ok (.iload_n 1, 1) := by decide +kernel
theorem dX11_foretold_2 : decode cX11_foretold 2 = .ok (.invokevirtual 178, 3) := by decide +kernel
theorem dX11_foretold_5 : decode cX11_foretold 5 = .ok (.ifCond .ne 13, 3) := by decide +kernel
theorem dX11_foretold_8 : decode cX11_foretold 8 = .ok (.iload_n 2, 1) := by decide +kernel
theorem dX11_foretold_9 : decode cX11_foretold 9 = .ok (.i2l, 1) := by decide +kernel
theorem dX11_foretold_10 : decode cX11_foretold 10 = .ok (.lconst 0, 1) := by decide +kernel
theorem dX11_foretold_11 : decode cX11_foretold 11 = .ok (.lconst 1, 1) := by decide +kernel
theorem dX11_foretold_12 : decode cX11_foretold 12 = .ok (.invokestatic 111, 3) := by decide +kernel
theorem dX11_foretold_15 : decode cX11_foretold 15 = .ok (.ifCond .ne 9, 3) := by decide +kernel
theorem dX11_foretold_18 : decode cX11_foretold 18 = .ok (.invokestatic 105, 3) := by decide +kernel
theorem dX11_foretold_21 : decode cX11_foretold 21 = .ok (.goto 9, 3) := by decide +kernel
theorem dX11_foretold_24 : decode cX11_foretold 24 = .ok (.aload_n 0, 1) := by decide +kernel
theorem dX11_foretold_25 : decode cX11_foretold 25 = .ok (.iload_n 1, 1) := by decide +kernel
theorem dX11_foretold_26 : decode cX11_foretold 26 = .ok (.iload_n 2, 1) := by decide +kernel
theorem dX11_foretold_27 : decode cX11_foretold 27 = .ok (.invokevirtual 181, 3) := by decide +kernel
theorem dX11_foretold_30 : decode cX11_foretold 30 = .ok (.lreturn, 1) := by decide +kernel
set_option maxRecDepth 20000 in
theorem ggX11_noGang_X11_in : GoodIn wsX11_noGang wsX11_in := goodIn_r _ [5] (by decide +kernel) (by decide +kernel)
set_option maxRecDepth 20000 in
theorem gX11_noGang_X11_in : GoodIn wsX11_noGang (va_wsS RX11 111 yX11_in wsX11_in) := goodIn_app (goodIn_of _ (by decide +kernel)) ggX11_noGang_X11_in
theorem dX11_noGang_0 : decode cX11_noGang 0 = .ok (.iload_n 1, 1) := by decide +kernel
theorem dX11_noGang_1 : decode cX11_noGang 1 = .ok (.i2l, 1) := by decide +kernel
theorem dX11_noGang_2 : decode cX11_noGang 2 = .ok (.lconst 0, 1) := by decide +kernel
theorem dX11_noGang_3 : decode cX11_noGang 3 = .ok (.aload_n 0, 1) := by decide +kernel
theorem dX11_noGang_4 : decode cX11_noGang 4 = .ok (.getfield 185, 3) := by decide +kernel
theorem dX11_noGang_7 : decode cX11_noGang 7 = .ok (.i2l, 1) := by decide +kernel
theorem dX11_noGang_8 : decode cX11_noGang 8 = .ok (.lconst 1, 1) := by decide +kernel
theorem dX11_noGang_9 : decode cX11_noGang 9 = .ok (.lsub, 1) := by decide +kernel
theorem dX11_noGang_10 : decode cX11_noGang 10 = .ok (.invokestatic 111, 3) := by decide +kernel
theorem dX11_noGang_13 : decode cX11_noGang 13 = .ok (.ifCond .ne 7, 3) := by decide +kernel
theorem dX11_noGang_16 : decode cX11_noGang 16 = .ok (.iconst 1, 1) := by decide +kernel
theorem dX11_noGang_17 : decode cX11_noGang 17 = .ok (.goto 4, 3) := by decide +kernel
theorem dX11_noGang_20 : decode cX11_noGang 20 = .ok (.iconst 0, 1) := by decide +kernel
theorem dX11_noGang_21 : decode cX11_noGang 21 = .ok (.ireturn, 1) := by decide +kernel
set_option maxRecDepth 20000 in
theorem ggX11_gang_X11_in : GoodIn wsX11_gang wsX11_in := goodIn_r _ [7] (by decide +kernel) (by decide +kernel)
set_option maxRecDepth 20000 in
theorem gX11_gang_X11_in : GoodIn wsX11_gang (va_wsS RX11 111 yX11_in wsX11_in) := goodIn_app (goodIn_of _ (by decide +kernel)) ggX11_gang_X11_in
theorem dX11_gang_0 : decode cX11_gang 0 = .ok (.iload_n 1, 1) := by decide +kernel
theorem dX11_gang_1 : decode cX11_gang 1 = .ok (.i2l, 1) := by decide +kernel
theorem dX11_gang_2 : decode cX11_gang 2 = .ok (.lconst 0, 1) := by decide +kernel
theorem dX11_gang_3 : decode cX11_gang 3 = .ok (.ldc2_w 151, 3) := by decide +kernel
theorem dX11_gang_6 : decode cX11_gang 6 = .ok (.invokestatic 111, 3) := by decide +kernel
theorem dX11_gang_9 : decode cX11_gang 9 = .ok (.ifCond .ne 6, 3) := by decide +kernel
theorem dX11_gang_12 : decode cX11_gang 12 = .ok (.bipush (-2), 2) := by decide +kernel
theorem dX11_gang_14 : decode cX11_gang 14 = .ok (.ireturn, 1) := by decide +kernel
theorem dX11_gang_15 : decode cX11_gang 15 = .ok (.aload_n 0, 1) := by decide +kernel
theorem dX11_gang_16 : decode cX11_gang 16 = .ok (.getfield 185, 3) := by decide +kernel
theorem dX11_gang_19 : decode cX11_gang 19 = .ok (.bipush 8, 2) := by decide +kernel
theorem dX11_gang_21 : decode cX11_gang 21 = .ok (.if_icmp .ne 6, 3) := by decide +kernel
theorem dX11_gang_24 : decode cX11_gang 24 = .ok (.bipush (-4), 2) := by decide +kernel
theorem dX11_gang_26 : decode cX11_gang 26 = .ok (.ireturn, 1) := by decide +kernel
theorem dX11_gang_27 : decode cX11_gang 27 = .ok (.aload_n 0, 1) := by decide +kernel
theorem dX11_gang_28 : decode cX11_gang 28 = .ok (.getfield 49, 3) := by decide +kernel
theorem dX11_gang_31 : decode cX11_gang 31 = .ok (.aload_n 0, 1) := by decide +kernel
theorem dX11_gang_32 : decode cX11_gang 32 = .ok (.getfield 185, 3) := by decide +kernel
theorem dX11_gang_35 : decode cX11_gang 35 = .ok (.iload_n 1, 1) := by decide +kernel
theorem dX11_gang_36 : decode cX11_gang 36 = .ok (.iastore, 1) := by decide +kernel
theorem dX11_gang_37 : decode cX11_gang 37 = .ok (.aload_n 0, 1) := by decide +kernel
theorem dX11_gang_38 : decode cX11_gang 38 = .ok (.dup, 1) := by decide +kernel
theorem dX11_gang_39 : decode cX11_gang 39 = .ok (.getfield 185, 3) := by decide +kernel
theorem dX11_gang_42 : decode cX11_gang 42 = .ok (.iconst 1, 1) := by decide +kernel
theorem dX11_gang_43 : decode cX11_gang 43 = .ok (.iadd, 1) := by decide +kernel
theorem dX11_gang_44 : decode cX11_gang 44 = .ok (.putfield 185, 3) := by decide +kernel
theorem dX11_gang_47 : decode cX11_gang 47 = .ok (.aload_n 0, 1) := by decide +kernel
theorem dX11_gang_48 : decode cX11_gang 48 = .ok (.getfield 185, 3) := by decide +kernel
theorem dX11_gang_51 : decode cX11_gang 51 = .ok (.iconst 1, 1) := by decide +kernel
theorem dX11_gang_52 : decode cX11_gang 52 = .ok (.isub, 1) := by decide +kernel
theorem dX11_gang_53 : decode cX11_gang 53 = .ok (.ireturn, 1) := by decide +kernel
theorem dX11_takeOf_0 : decode cX11_takeOf 0 = .ok (.iconst 0, 1) := by decide +kernel
theorem dX11_takeOf_1 : decode cX11_takeOf 1 = .ok (.istore_n 2, 1) := by decide +kernel
theorem dX11_takeOf_2 : decode cX11_takeOf 2 = .ok (.iload_n 2, 1) := by decide +kernel
theorem dX11_takeOf_3 : decode cX11_takeOf 3 = .ok (.aload_n 0, 1) := by decide +kernel
theorem dX11_takeOf_4 : decode cX11_takeOf 4 = .ok (.getfield 188, 3) := by decide +kernel
theorem dX11_takeOf_7 : decode cX11_takeOf 7 = .ok (.if_icmp .ge 30, 3) := by decide +kernel
theorem dX11_takeOf_10 : decode cX11_takeOf 10 = .ok (.aload_n 0, 1) := by decide +kernel
theorem dX11_takeOf_11 : decode cX11_takeOf 11 = .ok (.getfield 59, 3) := by decide +kernel
theorem dX11_takeOf_14 : decode cX11_takeOf 14 = .ok (.iload_n 2, 1) := by decide +kernel
theorem dX11_takeOf_15 : decode cX11_takeOf 15 = .ok (.iaload, 1) := by decide +kernel
theorem dX11_takeOf_16 : decode cX11_takeOf 16 = .ok (.iload_n 1, 1) := by decide +kernel
theorem dX11_takeOf_17 : decode cX11_takeOf 17 = .ok (.if_icmp .ne 14, 3) := by decide +kernel
theorem dX11_takeOf_20 : decode cX11_takeOf 20 = .ok (.aload_n 0, 1) := by decide +kernel
theorem dX11_takeOf_21 : decode cX11_takeOf 21 = .ok (.getfield 65, 3) := by decide +kernel
theorem dX11_takeOf_24 : decode cX11_takeOf 24 = .ok (.iload_n 2, 1) := by decide +kernel
theorem dX11_takeOf_25 : decode cX11_takeOf 25 = .ok (.baload, 1) := by decide +kernel
theorem dX11_takeOf_26 : decode cX11_takeOf 26 = .ok (.ifCond .ne 5, 3) := by decide +kernel
theorem dX11_takeOf_29 : decode cX11_takeOf 29 = .ok (.iload_n 2, 1) := by decide +kernel
theorem dX11_takeOf_30 : decode cX11_takeOf 30 = .ok (.ireturn, 1) := by decide +kernel
theorem dX11_takeOf_31 : decode cX11_takeOf 31 = .ok (.iinc 2 1, 3) := by decide +kernel
theorem dX11_takeOf_34 : decode cX11_takeOf 34 = .ok (.goto (-32), 3) := by decide +kernel
theorem dX11_takeOf_37 : decode cX11_takeOf 37 = .ok (.bipush (-9), 2) := by decide +kernel
theorem dX11_takeOf_39 : decode cX11_takeOf 39 = .ok (.ireturn, 1) := by decide +kernel
set_option maxRecDepth 20000 in
theorem ggX11_auction_X11_noPitch : GoodIn wsX11_auction wsX11_noPitch := goodIn_r _ [10, 11, 12, 13, 9, 14, 22, 23, 24, 25, 26, 27, 28, 29, 30, 31, 32, 33, 34, 35, 36, 37, 38, 39, 40, 41, 42, 43, 44, 45, 46, 47, 48, 49, 50, 51, 52, 53, 54, 55, 56, 57, 58, 59, 60] (by decide +kernel) (by decide +kernel)
set_option maxRecDepth 20000 in
theorem gX11_auction_X11_noPitch : GoodIn wsX11_auction (wsV RX11 178 RX11 yX11_noPitch wsX11_noPitch) := goodIn_app (goodIn_of _ (by decide +kernel)) ggX11_auction_X11_noPitch
set_option maxRecDepth 20000 in
theorem ggX11_auction_X11_in : GoodIn wsX11_auction wsX11_in := goodIn_r _ [14] (by decide +kernel) (by decide +kernel)
set_option maxRecDepth 20000 in
theorem gX11_auction_X11_in : GoodIn wsX11_auction (va_wsS RX11 111 yX11_in wsX11_in) := goodIn_app (goodIn_of _ (by decide +kernel)) ggX11_auction_X11_in
set_option maxRecDepth 20000 in
theorem ggX11_auction_X11_takeOf : GoodIn wsX11_auction wsX11_takeOf := goodIn_r _ [18, 19, 20, 21, 22, 23, 24, 25, 26, 27, 28, 29, 30, 31, 32, 33, 34, 35, 36, 37, 38, 39, 40, 41, 42, 43, 44, 45, 46, 47, 48, 49, 50, 51, 52, 53, 54, 55, 56, 57, 58, 59, 60] (by decide +kernel) (by decide +kernel)
set_option maxRecDepth 20000 in
theorem gX11_auction_X11_takeOf : GoodIn wsX11_auction (wsV RX11 193 RX11 yX11_takeOf wsX11_takeOf) := goodIn_app (goodIn_of _ (by decide +kernel)) ggX11_auction_X11_takeOf
theorem dX11_auction_0 : decode cX11_auction 0 = .ok (.aload_n 0, 1) := by decide +kernel
theorem dX11_auction_1 : decode cX11_auction 1 = .ok (.iload_n 1, 1) := by decide +kernel
theorem dX11_auction_2 : decode cX11_auction 2 = .ok (.invokevirtual 178, 3) := by decide +kernel
theorem dX11_auction_5 : decode cX11_auction 5 = .ok (.ifCond .eq 5, 3) := by decide +kernel
theorem dX11_auction_8 : decode cX11_auction 8 = .ok (.iconst (-1), 1) := by decide +kernel
theorem dX11_auction_9 : decode cX11_auction 9 = .ok (.ireturn, 1) := by decide +kernel
theorem dX11_auction_10 : decode cX11_auction 10 = .ok (.iload_n 2, 1) := by decide +kernel
theorem dX11_auction_11 : decode cX11_auction 11 = .ok (.i2l, 1) := by decide +kernel
theorem dX11_auction_12 : decode cX11_auction 12 = .ok (.lconst 1, 1) := by decide +kernel
theorem dX11_auction_13 : decode cX11_auction 13 = .ok (.ldc2_w 191, 3) := by decide +kernel
theorem dX11_auction_16 : decode cX11_auction 16 = .ok (.invokestatic 111, 3) := by decide +kernel
theorem dX11_auction_19 : decode cX11_auction 19 = .ok (.ifCond .ne 6, 3) := by decide +kernel
theorem dX11_auction_22 : decode cX11_auction 22 = .ok (.bipush (-2), 2) := by decide +kernel
theorem dX11_auction_24 : decode cX11_auction 24 = .ok (.ireturn, 1) := by decide +kernel
theorem dX11_auction_25 : decode cX11_auction 25 = .ok (.aload_n 0, 1) := by decide +kernel
theorem dX11_auction_26 : decode cX11_auction 26 = .ok (.iload_n 1, 1) := by decide +kernel
theorem dX11_auction_27 : decode cX11_auction 27 = .ok (.invokevirtual 193, 3) := by decide +kernel
theorem dX11_auction_30 : decode cX11_auction 30 = .ok (.ifCond .ge 10, 3) := by decide +kernel
theorem dX11_auction_33 : decode cX11_auction 33 = .ok (.aload_n 0, 1) := by decide +kernel
theorem dX11_auction_34 : decode cX11_auction 34 = .ok (.getfield 97, 3) := by decide +kernel
theorem dX11_auction_37 : decode cX11_auction 37 = .ok (.ifCond .lt 6, 3) := by decide +kernel
theorem dX11_auction_40 : decode cX11_auction 40 = .ok (.bipush (-3), 2) := by decide +kernel
theorem dX11_auction_42 : decode cX11_auction 42 = .ok (.ireturn, 1) := by decide +kernel
theorem dX11_auction_43 : decode cX11_auction 43 = .ok (.aload_n 0, 1) := by decide +kernel
theorem dX11_auction_44 : decode cX11_auction 44 = .ok (.iload_n 1, 1) := by decide +kernel
theorem dX11_auction_45 : decode cX11_auction 45 = .ok (.putfield 97, 3) := by decide +kernel
theorem dX11_auction_48 : decode cX11_auction 48 = .ok (.aload_n 0, 1) := by decide +kernel
theorem dX11_auction_49 : decode cX11_auction 49 = .ok (.iload_n 2, 1) := by decide +kernel
theorem dX11_auction_50 : decode cX11_auction 50 = .ok (.putfield 196, 3) := by decide +kernel
theorem dX11_auction_53 : decode cX11_auction 53 = .ok (.aload_n 0, 1) := by decide +kernel
theorem dX11_auction_54 : decode cX11_auction 54 = .ok (.iconst 0, 1) := by decide +kernel
theorem dX11_auction_55 : decode cX11_auction 55 = .ok (.putfield 199, 3) := by decide +kernel
theorem dX11_auction_58 : decode cX11_auction 58 = .ok (.aload_n 0, 1) := by decide +kernel
theorem dX11_auction_59 : decode cX11_auction 59 = .ok (.iconst (-1), 1) := by decide +kernel
theorem dX11_auction_60 : decode cX11_auction 60 = .ok (.putfield 202, 3) := by decide +kernel
theorem dX11_auction_63 : decode cX11_auction 63 = .ok (.iconst 1, 1) := by decide +kernel
theorem dX11_auction_64 : decode cX11_auction 64 = .ok (.ireturn, 1) := by decide +kernel
theorem dX11_letTo_0 : decode cX11_letTo 0 = .ok (.iconst 0, 1) := by decide +kernel
theorem dX11_letTo_1 : decode cX11_letTo 1 = .ok (.istore_n 2, 1) := by decide +kernel
theorem dX11_letTo_2 : decode cX11_letTo 2 = .ok (.iconst 0, 1) := by decide +kernel
theorem dX11_letTo_3 : decode cX11_letTo 3 = .ok (.istore_n 3, 1) := by decide +kernel
theorem dX11_letTo_4 : decode cX11_letTo 4 = .ok (.iload_n 3, 1) := by decide +kernel
theorem dX11_letTo_5 : decode cX11_letTo 5 = .ok (.aload_n 0, 1) := by decide +kernel
theorem dX11_letTo_6 : decode cX11_letTo 6 = .ok (.getfield 188, 3) := by decide +kernel
theorem dX11_letTo_9 : decode cX11_letTo 9 = .ok (.if_icmp .ge 36, 3) := by decide +kernel
theorem dX11_letTo_12 : decode cX11_letTo 12 = .ok (.iload_n 2, 1) := by decide +kernel
theorem dX11_letTo_13 : decode cX11_letTo 13 = .ok (.aload_n 0, 1) := by decide +kernel
theorem dX11_letTo_14 : decode cX11_letTo 14 = .ok (.getfield 56, 3) := by decide +kernel
theorem dX11_letTo_17 : decode cX11_letTo 17 = .ok (.iload_n 3, 1) := by decide +kernel
theorem dX11_letTo_18 : decode cX11_letTo 18 = .ok (.iaload, 1) := by decide +kernel
theorem dX11_letTo_19 : decode cX11_letTo 19 = .ok (.iload_n 1, 1) := by decide +kernel
theorem dX11_letTo_20 : decode cX11_letTo 20 = .ok (.if_icmp .ne 16, 3) := by decide +kernel
theorem dX11_letTo_23 : decode cX11_letTo 23 = .ok (.aload_n 0, 1) := by decide +kernel
theorem dX11_letTo_24 : decode cX11_letTo 24 = .ok (.getfield 65, 3) := by decide +kernel
theorem dX11_letTo_27 : decode cX11_letTo 27 = .ok (.iload_n 3, 1) := by decide +kernel
theorem dX11_letTo_28 : decode cX11_letTo 28 = .ok (.baload, 1) := by decide +kernel
theorem dX11_letTo_29 : decode cX11_letTo 29 = .ok (.ifCond .ne 7, 3) := by decide +kernel
theorem dX11_letTo_32 : decode cX11_letTo 32 = .ok (.iconst 1, 1) := by decide +kernel
theorem dX11_letTo_33 : decode cX11_letTo 33 = .ok (.goto 4, 3) := by decide +kernel
theorem dX11_letTo_36 : decode cX11_letTo 36 = .ok (.iconst 0, 1) := by decide +kernel
theorem dX11_letTo_37 : decode cX11_letTo 37 = .ok (.iadd, 1) := by decide +kernel
theorem dX11_letTo_38 : decode cX11_letTo 38 = .ok (.istore_n 2, 1) := by decide +kernel
theorem dX11_letTo_39 : decode cX11_letTo 39 = .ok (.iinc 3 1, 3) := by decide +kernel
theorem dX11_letTo_42 : decode cX11_letTo 42 = .ok (.goto (-38), 3) := by decide +kernel
theorem dX11_letTo_45 : decode cX11_letTo 45 = .ok (.iload_n 2, 1) := by decide +kernel
theorem dX11_letTo_46 : decode cX11_letTo 46 = .ok (.ireturn, 1) := by decide +kernel
set_option maxRecDepth 20000 in
theorem ggX11_bid_X11_noGang : GoodIn wsX11_bid wsX11_noGang := goodIn_r _ [9, 10, 11, 12, 8, 13, 21, 22, 23, 24, 25, 26, 27, 28, 29, 30, 31, 32, 33, 34, 35, 36, 37, 38, 39, 40, 41, 42, 43, 44, 45, 46, 47, 48, 49, 50, 51, 52, 53, 54, 55, 56, 57, 58, 59] (by decide +kernel) (by decide +kernel)
set_option maxRecDepth 20000 in
theorem gX11_bid_X11_noGang : GoodIn wsX11_bid (wsV RX11 205 RX11 yX11_noGang wsX11_noGang) := goodIn_app (goodIn_of _ (by decide +kernel)) ggX11_bid_X11_noGang
set_option maxRecDepth 20000 in
theorem ggX11_bid_X11_in : GoodIn wsX11_bid wsX11_in := goodIn_r _ [13] (by decide +kernel) (by decide +kernel)
set_option maxRecDepth 20000 in
theorem gX11_bid_X11_in : GoodIn wsX11_bid (va_wsS RX11 111 yX11_in wsX11_in) := goodIn_app (goodIn_of _ (by decide +kernel)) ggX11_bid_X11_in
set_option maxRecDepth 20000 in
theorem ggX11_bid_X11_letTo : GoodIn wsX11_bid wsX11_letTo := goodIn_r _ [17, 18, 19, 20, 21, 22, 23, 24, 25, 26, 27, 28, 29, 30, 31, 32, 33, 34, 35, 36, 37, 38, 39, 40, 41, 42, 43, 44, 45, 46, 47, 48, 49, 50, 51, 52, 53, 54, 55, 56, 57, 58, 59] (by decide +kernel) (by decide +kernel)
set_option maxRecDepth 20000 in
theorem gX11_bid_X11_letTo : GoodIn wsX11_bid (wsV RX11 208 RX11 yX11_letTo wsX11_letTo) := goodIn_app (goodIn_of _ (by decide +kernel)) ggX11_bid_X11_letTo
theorem dX11_bid_0 : decode cX11_bid 0 = .ok (.aload_n 0, 1) := by decide +kernel
theorem dX11_bid_1 : decode cX11_bid 1 = .ok (.iload_n 1, 1) := by decide +kernel
theorem dX11_bid_2 : decode cX11_bid 2 = .ok (.invokevirtual 205, 3) := by decide +kernel
theorem dX11_bid_5 : decode cX11_bid 5 = .ok (.ifCond .eq 5, 3) := by decide +kernel
theorem dX11_bid_8 : decode cX11_bid 8 = .ok (.iconst (-1), 1) := by decide +kernel
theorem dX11_bid_9 : decode cX11_bid 9 = .ok (.ireturn, 1) := by decide +kernel
theorem dX11_bid_10 : decode cX11_bid 10 = .ok (.aload_n 0, 1) := by decide +kernel
theorem dX11_bid_11 : decode cX11_bid 11 = .ok (.getfield 97, 3) := by decide +kernel
theorem dX11_bid_14 : decode cX11_bid 14 = .ok (.ifCond .ge 6, 3) := by decide +kernel
theorem dX11_bid_17 : decode cX11_bid 17 = .ok (.bipush (-3), 2) := by decide +kernel
theorem dX11_bid_19 : decode cX11_bid 19 = .ok (.ireturn, 1) := by decide +kernel
theorem dX11_bid_20 : decode cX11_bid 20 = .ok (.iload_n 2, 1) := by decide +kernel
theorem dX11_bid_21 : decode cX11_bid 21 = .ok (.i2l, 1) := by decide +kernel
theorem dX11_bid_22 : decode cX11_bid 22 = .ok (.lconst 1, 1) := by decide +kernel
theorem dX11_bid_23 : decode cX11_bid 23 = .ok (.aload_n 0, 1) := by decide +kernel
theorem dX11_bid_24 : decode cX11_bid 24 = .ok (.getfield 199, 3) := by decide +kernel
theorem dX11_bid_27 : decode cX11_bid 27 = .ok (.ifCond .ne 11, 3) := by decide +kernel
theorem dX11_bid_30 : decode cX11_bid 30 = .ok (.aload_n 0, 1) := by decide +kernel
theorem dX11_bid_31 : decode cX11_bid 31 = .ok (.getfield 196, 3) := by decide +kernel
theorem dX11_bid_34 : decode cX11_bid 34 = .ok (.i2l, 1) := by decide +kernel
theorem dX11_bid_35 : decode cX11_bid 35 = .ok (.goto 10, 3) := by decide +kernel
theorem dX11_bid_38 : decode cX11_bid 38 = .ok (.aload_n 0, 1) := by decide +kernel
theorem dX11_bid_39 : decode cX11_bid 39 = .ok (.getfield 196, 3) := by decide +kernel
theorem dX11_bid_42 : decode cX11_bid 42 = .ok (.i2l, 1) := by decide +kernel
theorem dX11_bid_43 : decode cX11_bid 43 = .ok (.lconst 1, 1) := by decide +kernel
theorem dX11_bid_44 : decode cX11_bid 44 = .ok (.lsub, 1) := by decide +kernel
theorem dX11_bid_45 : decode cX11_bid 45 = .ok (.invokestatic 111, 3) := by decide +kernel
theorem dX11_bid_48 : decode cX11_bid 48 = .ok (.ifCond .ne 6, 3) := by decide +kernel
theorem dX11_bid_51 : decode cX11_bid 51 = .ok (.bipush (-2), 2) := by decide +kernel
theorem dX11_bid_53 : decode cX11_bid 53 = .ok (.ireturn, 1) := by decide +kernel
theorem dX11_bid_54 : decode cX11_bid 54 = .ok (.aload_n 0, 1) := by decide +kernel
theorem dX11_bid_55 : decode cX11_bid 55 = .ok (.getfield 202, 3) := by decide +kernel
theorem dX11_bid_58 : decode cX11_bid 58 = .ok (.iload_n 1, 1) := by decide +kernel
theorem dX11_bid_59 : decode cX11_bid 59 = .ok (.if_icmp .eq 12, 3) := by decide +kernel
theorem dX11_bid_62 : decode cX11_bid 62 = .ok (.aload_n 0, 1) := by decide +kernel
theorem dX11_bid_63 : decode cX11_bid 63 = .ok (.iload_n 1, 1) := by decide +kernel
theorem dX11_bid_64 : decode cX11_bid 64 = .ok (.invokevirtual 208, 3) := by decide +kernel
theorem dX11_bid_67 : decode cX11_bid 67 = .ok (.iconst 3, 1) := by decide +kernel
theorem dX11_bid_68 : decode cX11_bid 68 = .ok (.if_icmp .lt 6, 3) := by decide +kernel
theorem dX11_bid_71 : decode cX11_bid 71 = .ok (.bipush (-3), 2) := by decide +kernel
theorem dX11_bid_73 : decode cX11_bid 73 = .ok (.ireturn, 1) := by decide +kernel
theorem dX11_bid_74 : decode cX11_bid 74 = .ok (.aload_n 0, 1) := by decide +kernel
theorem dX11_bid_75 : decode cX11_bid 75 = .ok (.getfield 199, 3) := by decide +kernel
theorem dX11_bid_78 : decode cX11_bid 78 = .ok (.bipush 20, 2) := by decide +kernel
theorem dX11_bid_80 : decode cX11_bid 80 = .ok (.if_icmp .ne 6, 3) := by decide +kernel
theorem dX11_bid_83 : decode cX11_bid 83 = .ok (.bipush (-4), 2) := by decide +kernel
theorem dX11_bid_85 : decode cX11_bid 85 = .ok (.ireturn, 1) := by decide +kernel
theorem dX11_bid_86 : decode cX11_bid 86 = .ok (.aload_n 0, 1) := by decide +kernel
theorem dX11_bid_87 : decode cX11_bid 87 = .ok (.iload_n 1, 1) := by decide +kernel
theorem dX11_bid_88 : decode cX11_bid 88 = .ok (.putfield 202, 3) := by decide +kernel
theorem dX11_bid_91 : decode cX11_bid 91 = .ok (.aload_n 0, 1) := by decide +kernel
theorem dX11_bid_92 : decode cX11_bid 92 = .ok (.iload_n 2, 1) := by decide +kernel
theorem dX11_bid_93 : decode cX11_bid 93 = .ok (.putfield 196, 3) := by decide +kernel
theorem dX11_bid_96 : decode cX11_bid 96 = .ok (.aload_n 0, 1) := by decide +kernel
theorem dX11_bid_97 : decode cX11_bid 97 = .ok (.dup, 1) := by decide +kernel
theorem dX11_bid_98 : decode cX11_bid 98 = .ok (.getfield 199, 3) := by decide +kernel
theorem dX11_bid_101 : decode cX11_bid 101 = .ok (.iconst 1, 1) := by decide +kernel
theorem dX11_bid_102 : decode cX11_bid 102 = .ok (.iadd, 1) := by decide +kernel
theorem dX11_bid_103 : decode cX11_bid 103 = .ok (.putfield 199, 3) := by decide +kernel
theorem dX11_bid_106 : decode cX11_bid 106 = .ok (.aload_n 0, 1) := by decide +kernel
theorem dX11_bid_107 : decode cX11_bid 107 = .ok (.getfield 199, 3) := by decide +kernel
theorem dX11_bid_110 : decode cX11_bid 110 = .ok (.ireturn, 1) := by decide +kernel
set_option maxRecDepth 20000 in
theorem ggX11_strike_X11_foretoldOf : GoodIn wsX11_strike wsX11_foretoldOf := goodIn_r _ [15, 16, 17, 18, 19, 20, 21, 14, 22, 23, 24, 25, 26, 27, 28, 29, 30, 31, 32, 33, 34, 35, 36, 37, 38, 39, 40, 41, 42, 43, 44, 45, 46, 47, 48, 49, 50, 51, 52, 53, 54, 55, 56, 57, 58, 59, 60, 61, 62, 63, 64, 65, 66, 67, 68] (by decide +kernel) (by decide +kernel)
set_option maxRecDepth 20000 in
theorem gX11_strike_X11_foretoldOf : GoodIn wsX11_strike (wsV RX11 181 RX11 yX11_foretoldOf wsX11_foretoldOf) := goodIn_app (goodIn_of _ (by decide +kernel)) ggX11_strike_X11_foretoldOf
theorem dX11_strike_0 : decode cX11_strike 0 = .ok (.aload_n 0, 1) := by decide +kernel
theorem dX11_strike_1 : decode cX11_strike 1 = .ok (.getfield 97, 3) := by decide +kernel
theorem dX11_strike_4 : decode cX11_strike 4 = .ok (.ifCond .ge 6, 3) := by decide +kernel
theorem dX11_strike_7 : decode cX11_strike 7 = .ok (.bipush (-3), 2) := by decide +kernel
theorem dX11_strike_9 : decode cX11_strike 9 = .ok (.ireturn, 1) := by decide +kernel
theorem dX11_strike_10 : decode cX11_strike 10 = .ok (.aload_n 0, 1) := by decide +kernel
theorem dX11_strike_11 : decode cX11_strike 11 = .ok (.getfield 199, 3) := by decide +kernel
theorem dX11_strike_14 : decode cX11_strike 14 = .ok (.ifCond .ne 12, 3) := by decide +kernel
theorem dX11_strike_17 : decode cX11_strike 17 = .ok (.aload_n 0, 1) := by decide +kernel
theorem dX11_strike_18 : decode cX11_strike 18 = .ok (.bipush (-9), 2) := by decide +kernel
theorem dX11_strike_20 : decode cX11_strike 20 = .ok (.putfield 97, 3) := by decide +kernel
theorem dX11_strike_23 : decode cX11_strike 23 = .ok (.bipush (-9), 2) := by decide +kernel
theorem dX11_strike_25 : decode cX11_strike 25 = .ok (.ireturn, 1) := by decide +kernel
theorem dX11_strike_26 : decode cX11_strike 26 = .ok (.aload_n 0, 1) := by decide +kernel
theorem dX11_strike_27 : decode cX11_strike 27 = .ok (.getfield 188, 3) := by decide +kernel
theorem dX11_strike_30 : decode cX11_strike 30 = .ok (.bipush 40, 2) := by decide +kernel
theorem dX11_strike_32 : decode cX11_strike 32 = .ok (.if_icmp .ne 6, 3) := by decide +kernel
theorem dX11_strike_35 : decode cX11_strike 35 = .ok (.bipush (-4), 2) := by decide +kernel
theorem dX11_strike_37 : decode cX11_strike 37 = .ok (.ireturn, 1) := by decide +kernel
theorem dX11_strike_38 : decode cX11_strike 38 = .ok (.aload_n 0, 1) := by decide +kernel
theorem dX11_strike_39 : decode cX11_strike 39 = .ok (.getfield 56, 3) := by decide +kernel
theorem dX11_strike_42 : decode cX11_strike 42 = .ok (.aload_n 0, 1) := by decide +kernel
theorem dX11_strike_43 : decode cX11_strike 43 = .ok (.getfield 188, 3) := by decide +kernel
theorem dX11_strike_46 : decode cX11_strike 46 = .ok (.aload_n 0, 1) := by decide +kernel
theorem dX11_strike_47 : decode cX11_strike 47 = .ok (.getfield 202, 3) := by decide +kernel
theorem dX11_strike_50 : decode cX11_strike 50 = .ok (.iastore, 1) := by decide +kernel
theorem dX11_strike_51 : decode cX11_strike 51 = .ok (.aload_n 0, 1) := by decide +kernel
theorem dX11_strike_52 : decode cX11_strike 52 = .ok (.getfield 59, 3) := by decide +kernel
theorem dX11_strike_55 : decode cX11_strike 55 = .ok (.aload_n 0, 1) := by decide +kernel
theorem dX11_strike_56 : decode cX11_strike 56 = .ok (.getfield 188, 3) := by decide +kernel
theorem dX11_strike_59 : decode cX11_strike 59 = .ok (.aload_n 0, 1) := by decide +kernel
theorem dX11_strike_60 : decode cX11_strike 60 = .ok (.getfield 97, 3) := by decide +kernel
theorem dX11_strike_63 : decode cX11_strike 63 = .ok (.iastore, 1) := by decide +kernel
theorem dX11_strike_64 : decode cX11_strike 64 = .ok (.aload_n 0, 1) := by decide +kernel
theorem dX11_strike_65 : decode cX11_strike 65 = .ok (.getfield 62, 3) := by decide +kernel
theorem dX11_strike_68 : decode cX11_strike 68 = .ok (.aload_n 0, 1) := by decide +kernel
theorem dX11_strike_69 : decode cX11_strike 69 = .ok (.getfield 188, 3) := by decide +kernel
theorem dX11_strike_72 : decode cX11_strike 72 = .ok (.aload_n 0, 1) := by decide +kernel
theorem dX11_strike_73 : decode cX11_strike 73 = .ok (.getfield 196, 3) := by decide +kernel
theorem dX11_strike_76 : decode cX11_strike 76 = .ok (.iastore, 1) := by decide +kernel
theorem dX11_strike_77 : decode cX11_strike 77 = .ok (.aload_n 0, 1) := by decide +kernel
theorem dX11_strike_78 : decode cX11_strike 78 = .ok (.getfield 69, 3) := by decide +kernel
theorem dX11_strike_81 : decode cX11_strike 81 = .ok (.aload_n 0, 1) := by decide +kernel
theorem dX11_strike_82 : decode cX11_strike 82 = .ok (.getfield 188, 3) := by decide +kernel
theorem dX11_strike_85 : decode cX11_strike 85 = .ok (.aload_n 0, 1) := by decide +kernel
theorem dX11_strike_86 : decode cX11_strike 86 = .ok (.aload_n 0, 1) := by decide +kernel
theorem dX11_strike_87 : decode cX11_strike 87 = .ok (.getfield 97, 3) := by decide +kernel
theorem dX11_strike_90 : decode cX11_strike 90 = .ok (.iconst 0, 1) := by decide +kernel
theorem dX11_strike_91 : decode cX11_strike 91 = .ok (.invokevirtual 181, 3) := by decide +kernel
theorem dX11_strike_94 : decode cX11_strike 94 = .ok (.lastore, 1) := by decide +kernel
theorem dX11_strike_95 : decode cX11_strike 95 = .ok (.aload_n 0, 1) := by decide +kernel
theorem dX11_strike_96 : decode cX11_strike 96 = .ok (.getfield 72, 3) := by decide +kernel
theorem dX11_strike_99 : decode cX11_strike 99 = .ok (.aload_n 0, 1) := by decide +kernel
theorem dX11_strike_100 : decode cX11_strike 100 = .ok (.getfield 188, 3) := by decide +kernel
theorem dX11_strike_103 : decode cX11_strike 103 = .ok (.aload_n 0, 1) := by decide +kernel
theorem dX11_strike_104 : decode cX11_strike 104 = .ok (.aload_n 0, 1) := by decide +kernel
theorem dX11_strike_105 : decode cX11_strike 105 = .ok (.getfield 97, 3) := by decide +kernel
theorem dX11_strike_108 : decode cX11_strike 108 = .ok (.iconst 1, 1) := by decide +kernel
theorem dX11_strike_109 : decode cX11_strike 109 = .ok (.invokevirtual 181, 3) := by decide +kernel
theorem dX11_strike_112 : decode cX11_strike 112 = .ok (.lastore, 1) := by decide +kernel
theorem dX11_strike_113 : decode cX11_strike 113 = .ok (.aload_n 0, 1) := by decide +kernel
theorem dX11_strike_114 : decode cX11_strike 114 = .ok (.dup, 1) := by decide +kernel
theorem dX11_strike_115 : decode cX11_strike 115 = .ok (.getfield 188, 3) := by decide +kernel
theorem dX11_strike_118 : decode cX11_strike 118 = .ok (.iconst 1, 1) := by decide +kernel
theorem dX11_strike_119 : decode cX11_strike 119 = .ok (.iadd, 1) := by decide +kernel
theorem dX11_strike_120 : decode cX11_strike 120 = .ok (.putfield 188, 3) := by decide +kernel
theorem dX11_strike_123 : decode cX11_strike 123 = .ok (.aload_n 0, 1) := by decide +kernel
theorem dX11_strike_124 : decode cX11_strike 124 = .ok (.bipush (-9), 2) := by decide +kernel
theorem dX11_strike_126 : decode cX11_strike 126 = .ok (.putfield 97, 3) := by decide +kernel
theorem dX11_strike_129 : decode cX11_strike 129 = .ok (.aload_n 0, 1) := by decide +kernel
theorem dX11_strike_130 : decode cX11_strike 130 = .ok (.getfield 188, 3) := by decide +kernel
theorem dX11_strike_133 : decode cX11_strike 133 = .ok (.iconst 1, 1) := by decide +kernel
theorem dX11_strike_134 : decode cX11_strike 134 = .ok (.isub, 1) := by decide +kernel
theorem dX11_strike_135 : decode cX11_strike 135 = .ok (.ireturn, 1) := by decide +kernel
theorem dX11_takesOn_0 : decode cX11_takesOn 0 = .ok (.iconst 0, 1) := by decide +kernel
theorem dX11_takesOn_1 : decode cX11_takesOn 1 = .ok (.istore_n 2, 1) := by decide +kernel
theorem dX11_takesOn_2 : decode cX11_takesOn 2 = .ok (.iconst 0, 1) := by decide +kernel
theorem dX11_takesOn_3 : decode cX11_takesOn 3 = .ok (.istore_n 3, 1) := by decide +kernel
theorem dX11_takesOn_4 : decode cX11_takesOn 4 = .ok (.iload_n 3, 1) := by decide +kernel
theorem dX11_takesOn_5 : decode cX11_takesOn 5 = .ok (.aload_n 0, 1) := by decide +kernel
theorem dX11_takesOn_6 : decode cX11_takesOn 6 = .ok (.getfield 188, 3) := by decide +kernel
theorem dX11_takesOn_9 : decode cX11_takesOn 9 = .ok (.if_icmp .ge 27, 3) := by decide +kernel
theorem dX11_takesOn_12 : decode cX11_takesOn 12 = .ok (.iload_n 2, 1) := by decide +kernel
theorem dX11_takesOn_13 : decode cX11_takesOn 13 = .ok (.aload_n 0, 1) := by decide +kernel
theorem dX11_takesOn_14 : decode cX11_takesOn 14 = .ok (.getfield 59, 3) := by decide +kernel
theorem dX11_takesOn_17 : decode cX11_takesOn 17 = .ok (.iload_n 3, 1) := by decide +kernel
theorem dX11_takesOn_18 : decode cX11_takesOn 18 = .ok (.iaload, 1) := by decide +kernel
theorem dX11_takesOn_19 : decode cX11_takesOn 19 = .ok (.iload_n 1, 1) := by decide +kernel
theorem dX11_takesOn_20 : decode cX11_takesOn 20 = .ok (.if_icmp .ne 7, 3) := by decide +kernel
theorem dX11_takesOn_23 : decode cX11_takesOn 23 = .ok (.iconst 1, 1) := by decide +kernel
theorem dX11_takesOn_24 : decode cX11_takesOn 24 = .ok (.goto 4, 3) := by decide +kernel
theorem dX11_takesOn_27 : decode cX11_takesOn 27 = .ok (.iconst 0, 1) := by decide +kernel
theorem dX11_takesOn_28 : decode cX11_takesOn 28 = .ok (.iadd, 1) := by decide +kernel
theorem dX11_takesOn_29 : decode cX11_takesOn 29 = .ok (.istore_n 2, 1) := by decide +kernel
theorem dX11_takesOn_30 : decode cX11_takesOn 30 = .ok (.iinc 3 1, 3) := by decide +kernel
theorem dX11_takesOn_33 : decode cX11_takesOn 33 = .ok (.goto (-29), 3) := by decide +kernel
theorem dX11_takesOn_36 : decode cX11_takesOn 36 = .ok (.iload_n 2, 1) := by decide +kernel
theorem dX11_takesOn_37 : decode cX11_takesOn 37 = .ok (.ireturn, 1) := by decide +kernel
set_option maxRecDepth 20000 in
theorem ggX11_about_X11_noPitch : GoodIn wsX11_about wsX11_noPitch := goodIn_r _ [10, 11, 12, 13, 9, 14, 26, 27, 28, 29, 30, 31, 32, 33, 34, 35, 36, 37, 38, 39, 40, 41, 42, 43, 44, 45, 46, 47, 48, 49, 50, 51, 52, 53, 54, 55, 56, 57, 58, 59, 60, 61, 62, 63, 64] (by decide +kernel) (by decide +kernel)
set_option maxRecDepth 20000 in
theorem gX11_about_X11_noPitch : GoodIn wsX11_about (wsV RX11 178 RX11 yX11_noPitch wsX11_noPitch) := goodIn_app (goodIn_of _ (by decide +kernel)) ggX11_about_X11_noPitch
set_option maxRecDepth 20000 in
theorem ggX11_about_X11_takeOf : GoodIn wsX11_about wsX11_takeOf := goodIn_r _ [18, 19, 20, 21, 26, 27, 28, 29, 30, 31, 32, 33, 34, 35, 36, 37, 38, 39, 40, 41, 42, 43, 44, 45, 46, 47, 48, 49, 50, 51, 52, 53, 54, 55, 56, 57, 58, 59, 60, 61, 62, 63, 64] (by decide +kernel) (by decide +kernel)
set_option maxRecDepth 20000 in
theorem gX11_about_X11_takeOf : GoodIn wsX11_about (wsV RX11 193 RX11 yX11_takeOf wsX11_takeOf) := goodIn_app (goodIn_of _ (by decide +kernel)) ggX11_about_X11_takeOf
set_option maxRecDepth 20000 in
theorem ggX11_about_X11_takesOn : GoodIn wsX11_about wsX11_takesOn := goodIn_r _ [25, 19, 20, 26, 27, 28, 29, 30, 31, 32, 33, 34, 35, 36, 37, 38, 39, 40, 41, 42, 43, 44, 45, 46, 47, 48, 49, 50, 51, 52, 53, 54, 55, 56, 57, 58, 59, 60, 61, 62, 63, 64] (by decide +kernel) (by decide +kernel)
set_option maxRecDepth 20000 in
theorem gX11_about_X11_takesOn : GoodIn wsX11_about (wsV RX11 211 RX11 yX11_takesOn wsX11_takesOn) := goodIn_app (goodIn_of _ (by decide +kernel)) ggX11_about_X11_takesOn
theorem dX11_about_0 : decode cX11_about 0 = .ok (.aload_n 0, 1) := by decide +kernel
theorem dX11_about_1 : decode cX11_about 1 = .ok (.iload_n 1, 1) := by decide +kernel
theorem dX11_about_2 : decode cX11_about 2 = .ok (.invokevirtual 178, 3) := by decide +kernel
theorem dX11_about_5 : decode cX11_about 5 = .ok (.ifCond .eq 5, 3) := by decide +kernel
theorem dX11_about_8 : decode cX11_about 8 = .ok (.iconst (-1), 1) := by decide +kernel
theorem dX11_about_9 : decode cX11_about 9 = .ok (.ireturn, 1) := by decide +kernel
theorem dX11_about_10 : decode cX11_about 10 = .ok (.iload_n 2, 1) := by decide +kernel
theorem dX11_about_11 : decode cX11_about 11 = .ok (.tableswitch 88 0 6 #[41, 48, 55, 62, 69, 76, 82], 41) := by decide +kernel
theorem dX11_about_52 : decode cX11_about 52 = .ok (.aload_n 0, 1) := by decide +kernel
theorem dX11_about_53 : decode cX11_about 53 = .ok (.getfield 34, 3) := by decide +kernel
theorem dX11_about_56 : decode cX11_about 56 = .ok (.iload_n 1, 1) := by decide +kernel
theorem dX11_about_57 : decode cX11_about 57 = .ok (.iaload, 1) := by decide +kernel
theorem dX11_about_58 : decode cX11_about 58 = .ok (.ireturn, 1) := by decide +kernel
theorem dX11_about_59 : decode cX11_about 59 = .ok (.aload_n 0, 1) := by decide +kernel
theorem dX11_about_60 : decode cX11_about 60 = .ok (.getfield 37, 3) := by decide +kernel
theorem dX11_about_63 : decode cX11_about 63 = .ok (.iload_n 1, 1) := by decide +kernel
theorem dX11_about_64 : decode cX11_about 64 = .ok (.iaload, 1) := by decide +kernel
theorem dX11_about_65 : decode cX11_about 65 = .ok (.ireturn, 1) := by decide +kernel
theorem dX11_about_66 : decode cX11_about 66 = .ok (.aload_n 0, 1) := by decide +kernel
theorem dX11_about_67 : decode cX11_about 67 = .ok (.getfield 40, 3) := by decide +kernel
theorem dX11_about_70 : decode cX11_about 70 = .ok (.iload_n 1, 1) := by decide +kernel
theorem dX11_about_71 : decode cX11_about 71 = .ok (.iaload, 1) := by decide +kernel
theorem dX11_about_72 : decode cX11_about 72 = .ok (.ireturn, 1) := by decide +kernel
theorem dX11_about_73 : decode cX11_about 73 = .ok (.aload_n 0, 1) := by decide +kernel
theorem dX11_about_74 : decode cX11_about 74 = .ok (.getfield 43, 3) := by decide +kernel
theorem dX11_about_77 : decode cX11_about 77 = .ok (.iload_n 1, 1) := by decide +kernel
theorem dX11_about_78 : decode cX11_about 78 = .ok (.iaload, 1) := by decide +kernel
theorem dX11_about_79 : decode cX11_about 79 = .ok (.ireturn, 1) := by decide +kernel
theorem dX11_about_80 : decode cX11_about 80 = .ok (.aload_n 0, 1) := by decide +kernel
theorem dX11_about_81 : decode cX11_about 81 = .ok (.getfield 46, 3) := by decide +kernel
theorem dX11_about_84 : decode cX11_about 84 = .ok (.iload_n 1, 1) := by decide +kernel
theorem dX11_about_85 : decode cX11_about 85 = .ok (.iaload, 1) := by decide +kernel
theorem dX11_about_86 : decode cX11_about 86 = .ok (.ireturn, 1) := by decide +kernel
theorem dX11_about_87 : decode cX11_about 87 = .ok (.aload_n 0, 1) := by decide +kernel
theorem dX11_about_88 : decode cX11_about 88 = .ok (.iload_n 1, 1) := by decide +kernel
theorem dX11_about_89 : decode cX11_about 89 = .ok (.invokevirtual 193, 3) := by decide +kernel
theorem dX11_about_92 : decode cX11_about 92 = .ok (.ireturn, 1) := by decide +kernel
theorem dX11_about_93 : decode cX11_about 93 = .ok (.aload_n 0, 1) := by decide +kernel
theorem dX11_about_94 : decode cX11_about 94 = .ok (.iload_n 1, 1) := by decide +kernel
theorem dX11_about_95 : decode cX11_about 95 = .ok (.invokevirtual 211, 3) := by decide +kernel
theorem dX11_about_98 : decode cX11_about 98 = .ok (.ireturn, 1) := by decide +kernel
theorem dX11_about_99 : decode cX11_about 99 = .ok (.bipush (-2), 2) := by decide +kernel
theorem dX11_about_101 : decode cX11_about 101 = .ok (.ireturn, 1) := by decide +kernel
set_option maxRecDepth 20000 in
theorem ggX11_noTake_X11_in : GoodIn wsX11_noTake wsX11_in := goodIn_r _ [5] (by decide +kernel) (by decide +kernel)
end
section
set_option maxRecDepth 20000 in
theorem gX11_noTake_X11_in : GoodIn wsX11_noTake (va_wsS RX11 111 yX11_in wsX11_in) := goodIn_app (goodIn_of _ (by decide +kernel)) ggX11_noTake_X11_in
theorem dX11_noTake_0 : decode cX11_noTake 0 = .ok (.iload_n 1, 1) := by decide +kernel
theorem dX11_noTake_1 : decode cX11_noTake 1 = .ok (.i2l, 1) := by decide +kernel
theorem dX11_noTake_2 : decode cX11_noTake 2 = .ok (.lconst 0, 1) := by decide +kernel
theorem dX11_noTake_3 : decode cX11_noTake 3 = .ok (.aload_n 0, 1) := by decide +kernel
theorem dX11_noTake_4 : decode cX11_noTake 4 = .ok (.getfield 188, 3) := by decide +kernel
theorem dX11_noTake_7 : decode cX11_noTake 7 = .ok (.i2l, 1) := by decide +kernel
theorem dX11_noTake_8 : decode cX11_noTake 8 = .ok (.lconst 1, 1) := by decide +kernel
theorem dX11_noTake_9 : decode cX11_noTake 9 = .ok (.lsub, 1) := by decide +kernel
theorem dX11_noTake_10 : decode cX11_noTake 10 = .ok (.invokestatic 111, 3) := by decide +kernel
theorem dX11_noTake_13 : decode cX11_noTake 13 = .ok (.ifCond .ne 7, 3) := by decide +kernel
theorem dX11_noTake_16 : decode cX11_noTake 16 = .ok (.iconst 1, 1) := by decide +kernel
theorem dX11_noTake_17 : decode cX11_noTake 17 = .ok (.goto 4, 3) := by decide +kernel
theorem dX11_noTake_20 : decode cX11_noTake 20 = .ok (.iconst 0, 1) := by decide +kernel
theorem dX11_noTake_21 : decode cX11_noTake 21 = .ok (.ireturn, 1) := by decide +kernel
set_option maxRecDepth 20000 in
theorem ggX11_parcel_X11_noTake : GoodIn wsX11_parcel wsX11_noTake := goodIn_r _ [11, 12, 13, 14, 10, 15, 16, 17, 18, 19, 20, 21, 22, 23, 24, 25, 26, 27, 28, 29, 30, 31, 32, 33, 34, 35, 36, 37, 38, 39, 40, 41, 42, 43, 44, 45, 46, 47, 48, 49, 50, 51, 52, 53, 54] (by decide +kernel) (by decide +kernel)
set_option maxRecDepth 20000 in
theorem gX11_parcel_X11_noTake : GoodIn wsX11_parcel (wsV RX11 214 RX11 yX11_noTake wsX11_noTake) := goodIn_app (goodIn_of _ (by decide +kernel)) ggX11_parcel_X11_noTake
set_option maxRecDepth 20000 in
theorem ggX11_parcel_X11_in : GoodIn wsX11_parcel wsX11_in := goodIn_r _ [15] (by decide +kernel) (by decide +kernel)
set_option maxRecDepth 20000 in
theorem gX11_parcel_X11_in : GoodIn wsX11_parcel (va_wsS RX11 111 yX11_in wsX11_in) := goodIn_app (goodIn_of _ (by decide +kernel)) ggX11_parcel_X11_in
theorem dX11_parcel_0 : decode cX11_parcel 0 = .ok (.aload_n 0, 1) := by decide +kernel
theorem dX11_parcel_1 : decode cX11_parcel 1 = .ok (.iload_n 1, 1) := by decide +kernel
theorem dX11_parcel_2 : decode cX11_parcel 2 = .ok (.invokevirtual 214, 3) := by decide +kernel
theorem dX11_parcel_5 : decode cX11_parcel 5 = .ok (.ifCond .eq 5, 3) := by decide +kernel
theorem dX11_parcel_8 : decode cX11_parcel 8 = .ok (.iconst (-1), 1) := by decide +kernel
theorem dX11_parcel_9 : decode cX11_parcel 9 = .ok (.ireturn, 1) := by decide +kernel
theorem dX11_parcel_10 : decode cX11_parcel 10 = .ok (.iload_n 2, 1) := by decide +kernel
theorem dX11_parcel_11 : decode cX11_parcel 11 = .ok (.i2l, 1) := by decide +kernel
theorem dX11_parcel_12 : decode cX11_parcel 12 = .ok (.lconst 1, 1) := by decide +kernel
theorem dX11_parcel_13 : decode cX11_parcel 13 = .ok (.ldc2_w 133, 3) := by decide +kernel
theorem dX11_parcel_16 : decode cX11_parcel 16 = .ok (.invokestatic 111, 3) := by decide +kernel
theorem dX11_parcel_19 : decode cX11_parcel 19 = .ok (.ifCond .eq 15, 3) := by decide +kernel
theorem dX11_parcel_22 : decode cX11_parcel 22 = .ok (.iload_n 3, 1) := by decide +kernel
theorem dX11_parcel_23 : decode cX11_parcel 23 = .ok (.i2l, 1) := by decide +kernel
theorem dX11_parcel_24 : decode cX11_parcel 24 = .ok (.lconst 0, 1) := by decide +kernel
theorem dX11_parcel_25 : decode cX11_parcel 25 = .ok (.ldc2_w 133, 3) := by decide +kernel
theorem dX11_parcel_28 : decode cX11_parcel 28 = .ok (.invokestatic 111, 3) := by decide +kernel
theorem dX11_parcel_31 : decode cX11_parcel 31 = .ok (.ifCond .ne 6, 3) := by decide +kernel
theorem dX11_parcel_34 : decode cX11_parcel 34 = .ok (.bipush (-2), 2) := by decide +kernel
theorem dX11_parcel_36 : decode cX11_parcel 36 = .ok (.ireturn, 1) := by decide +kernel
theorem dX11_parcel_37 : decode cX11_parcel 37 = .ok (.aload_n 0, 1) := by decide +kernel
theorem dX11_parcel_38 : decode cX11_parcel 38 = .ok (.getfield 65, 3) := by decide +kernel
theorem dX11_parcel_41 : decode cX11_parcel 41 = .ok (.iload_n 1, 1) := by decide +kernel
theorem dX11_parcel_42 : decode cX11_parcel 42 = .ok (.baload, 1) := by decide +kernel
theorem dX11_parcel_43 : decode cX11_parcel 43 = .ok (.ifCond .eq 6, 3) := by decide +kernel
theorem dX11_parcel_46 : decode cX11_parcel 46 = .ok (.bipush (-3), 2) := by decide +kernel
theorem dX11_parcel_48 : decode cX11_parcel 48 = .ok (.ireturn, 1) := by decide +kernel
theorem dX11_parcel_49 : decode cX11_parcel 49 = .ok (.aload_n 0, 1) := by decide +kernel
theorem dX11_parcel_50 : decode cX11_parcel 50 = .ok (.getfield 217, 3) := by decide +kernel
theorem dX11_parcel_53 : decode cX11_parcel 53 = .ok (.bipush 80, 2) := by decide +kernel
theorem dX11_parcel_55 : decode cX11_parcel 55 = .ok (.if_icmp .ne 6, 3) := by decide +kernel
theorem dX11_parcel_58 : decode cX11_parcel 58 = .ok (.bipush (-4), 2) := by decide +kernel
theorem dX11_parcel_60 : decode cX11_parcel 60 = .ok (.ireturn, 1) := by decide +kernel
theorem dX11_parcel_61 : decode cX11_parcel 61 = .ok (.aload_n 0, 1) := by decide +kernel
theorem dX11_parcel_62 : decode cX11_parcel 62 = .ok (.getfield 84, 3) := by decide +kernel
theorem dX11_parcel_65 : decode cX11_parcel 65 = .ok (.aload_n 0, 1) := by decide +kernel
theorem dX11_parcel_66 : decode cX11_parcel 66 = .ok (.getfield 217, 3) := by decide +kernel
theorem dX11_parcel_69 : decode cX11_parcel 69 = .ok (.iload_n 1, 1) := by decide +kernel
theorem dX11_parcel_70 : decode cX11_parcel 70 = .ok (.iastore, 1) := by decide +kernel
theorem dX11_parcel_71 : decode cX11_parcel 71 = .ok (.aload_n 0, 1) := by decide +kernel
theorem dX11_parcel_72 : decode cX11_parcel 72 = .ok (.getfield 87, 3) := by decide +kernel
theorem dX11_parcel_75 : decode cX11_parcel 75 = .ok (.aload_n 0, 1) := by decide +kernel
theorem dX11_parcel_76 : decode cX11_parcel 76 = .ok (.getfield 217, 3) := by decide +kernel
theorem dX11_parcel_79 : decode cX11_parcel 79 = .ok (.iload_n 2, 1) := by decide +kernel
theorem dX11_parcel_80 : decode cX11_parcel 80 = .ok (.iastore, 1) := by decide +kernel
theorem dX11_parcel_81 : decode cX11_parcel 81 = .ok (.aload_n 0, 1) := by decide +kernel
theorem dX11_parcel_82 : decode cX11_parcel 82 = .ok (.getfield 90, 3) := by decide +kernel
theorem dX11_parcel_85 : decode cX11_parcel 85 = .ok (.aload_n 0, 1) := by decide +kernel
theorem dX11_parcel_86 : decode cX11_parcel 86 = .ok (.getfield 217, 3) := by decide +kernel
theorem dX11_parcel_89 : decode cX11_parcel 89 = .ok (.iload_n 3, 1) := by decide +kernel
theorem dX11_parcel_90 : decode cX11_parcel 90 = .ok (.iastore, 1) := by decide +kernel
theorem dX11_parcel_91 : decode cX11_parcel 91 = .ok (.aload_n 0, 1) := by decide +kernel
theorem dX11_parcel_92 : decode cX11_parcel 92 = .ok (.dup, 1) := by decide +kernel
theorem dX11_parcel_93 : decode cX11_parcel 93 = .ok (.getfield 217, 3) := by decide +kernel
theorem dX11_parcel_96 : decode cX11_parcel 96 = .ok (.iconst 1, 1) := by decide +kernel
theorem dX11_parcel_97 : decode cX11_parcel 97 = .ok (.iadd, 1) := by decide +kernel
theorem dX11_parcel_98 : decode cX11_parcel 98 = .ok (.putfield 217, 3) := by decide +kernel
theorem dX11_parcel_101 : decode cX11_parcel 101 = .ok (.aload_n 0, 1) := by decide +kernel
theorem dX11_parcel_102 : decode cX11_parcel 102 = .ok (.getfield 217, 3) := by decide +kernel
theorem dX11_parcel_105 : decode cX11_parcel 105 = .ok (.iconst 1, 1) := by decide +kernel
theorem dX11_parcel_106 : decode cX11_parcel 106 = .ok (.isub, 1) := by decide +kernel
theorem dX11_parcel_107 : decode cX11_parcel 107 = .ok (.ireturn, 1) := by decide +kernel
set_option maxRecDepth 20000 in
theorem ggX11_spend_X11_noTake : GoodIn wsX11_spend wsX11_noTake := goodIn_r _ [9, 10, 11, 12, 8, 13, 18, 19, 20, 21, 22, 23, 24, 25, 26, 27, 28, 29, 30, 31, 32, 33, 34, 35, 36, 37, 38, 39, 40, 41, 42, 43, 44, 45, 46, 47, 48, 49, 50, 51, 52, 53, 54, 55, 56] (by decide +kernel) (by decide +kernel)
set_option maxRecDepth 20000 in
theorem gX11_spend_X11_noTake : GoodIn wsX11_spend (wsV RX11 214 RX11 yX11_noTake wsX11_noTake) := goodIn_app (goodIn_of _ (by decide +kernel)) ggX11_spend_X11_noTake
set_option maxRecDepth 20000 in
theorem ggX11_spend_X11_in : GoodIn wsX11_spend wsX11_in := goodIn_r _ [13] (by decide +kernel) (by decide +kernel)
set_option maxRecDepth 20000 in
theorem gX11_spend_X11_in : GoodIn wsX11_spend (va_wsS RX11 111 yX11_in wsX11_in) := goodIn_app (goodIn_of _ (by decide +kernel)) ggX11_spend_X11_in
set_option maxRecDepth 20000 in
theorem ggX11_spend_X11_lost : GoodIn wsX11_spend wsX11_lost := goodIn_r _ [16, 17] (by decide +kernel) (by decide +kernel)
set_option maxRecDepth 20000 in
theorem gX11_spend_X11_lost : GoodIn wsX11_spend (va_wsS RX11 105 yX11_lost wsX11_lost) := goodIn_app (goodIn_of _ (by decide +kernel)) ggX11_spend_X11_lost
theorem dX11_spend_0 : decode cX11_spend 0 = .ok (.aload_n 0, 1) := by decide +kernel
theorem dX11_spend_1 : decode cX11_spend 1 = .ok (.iload_n 1, 1) := by decide +kernel
theorem dX11_spend_2 : decode cX11_spend 2 = .ok (.invokevirtual 214, 3) := by decide +kernel
theorem dX11_spend_5 : decode cX11_spend 5 = .ok (.ifCond .ne 34, 3) := by decide +kernel
theorem dX11_spend_8 : decode cX11_spend 8 = .ok (.iload_n 2, 1) := by decide +kernel
theorem dX11_spend_9 : decode cX11_spend 9 = .ok (.i2l, 1) := by decide +kernel
theorem dX11_spend_10 : decode cX11_spend 10 = .ok (.lconst 0, 1) := by decide +kernel
theorem dX11_spend_11 : decode cX11_spend 11 = .ok (.lconst 1, 1) := by decide +kernel
theorem dX11_spend_12 : decode cX11_spend 12 = .ok (.invokestatic 111, 3) := by decide +kernel
theorem dX11_spend_15 : decode cX11_spend 15 = .ok (.ifCond .eq 24, 3) := by decide +kernel
theorem dX11_spend_18 : decode cX11_spend 18 = .ok (.iload_n 3, 1) := by decide +kernel
theorem dX11_spend_19 : decode cX11_spend 19 = .ok (.i2l, 1) := by decide +kernel
theorem dX11_spend_20 : decode cX11_spend 20 = .ok (.lconst 0, 1) := by decide +kernel
theorem dX11_spend_21 : decode cX11_spend 21 = .ok (.ldc2_w 220, 3) := by decide +kernel
theorem dX11_spend_24 : decode cX11_spend 24 = .ok (.invokestatic 111, 3) := by decide +kernel
theorem dX11_spend_27 : decode cX11_spend 27 = .ok (.ifCond .eq 12, 3) := by decide +kernel
theorem dX11_spend_30 : decode cX11_spend 30 = .ok (.aload_n 0, 1) := by decide +kernel
theorem dX11_spend_31 : decode cX11_spend 31 = .ok (.getfield 65, 3) := by decide +kernel
theorem dX11_spend_34 : decode cX11_spend 34 = .ok (.iload_n 1, 1) := by decide +kernel
theorem dX11_spend_35 : decode cX11_spend 35 = .ok (.baload, 1) := by decide +kernel
theorem dX11_spend_36 : decode cX11_spend 36 = .ok (.ifCond .eq 7, 3) := by decide +kernel
theorem dX11_spend_39 : decode cX11_spend 39 = .ok (.invokestatic 105, 3) := by decide +kernel
theorem dX11_spend_42 : decode cX11_spend 42 = .ok (.lreturn, 1) := by decide +kernel
theorem dX11_spend_43 : decode cX11_spend 43 = .ok (.aload_n 0, 1) := by decide +kernel
theorem dX11_spend_44 : decode cX11_spend 44 = .ok (.getfield 75, 3) := by decide +kernel
theorem dX11_spend_47 : decode cX11_spend 47 = .ok (.iload_n 1, 1) := by decide +kernel
theorem dX11_spend_48 : decode cX11_spend 48 = .ok (.dup2, 1) := by decide +kernel
theorem dX11_spend_49 : decode cX11_spend 49 = .ok (.laload, 1) := by decide +kernel
theorem dX11_spend_50 : decode cX11_spend 50 = .ok (.iload_n 2, 1) := by decide +kernel
theorem dX11_spend_51 : decode cX11_spend 51 = .ok (.ifCond .ne 8, 3) := by decide +kernel
theorem dX11_spend_54 : decode cX11_spend 54 = .ok (.iload_n 3, 1) := by decide +kernel
theorem dX11_spend_55 : decode cX11_spend 55 = .ok (.i2l, 1) := by decide +kernel
theorem dX11_spend_56 : decode cX11_spend 56 = .ok (.goto 4, 3) := by decide +kernel
theorem dX11_spend_59 : decode cX11_spend 59 = .ok (.lconst 0, 1) := by decide +kernel
theorem dX11_spend_60 : decode cX11_spend 60 = .ok (.ladd, 1) := by decide +kernel
theorem dX11_spend_61 : decode cX11_spend 61 = .ok (.lastore, 1) := by decide +kernel
theorem dX11_spend_62 : decode cX11_spend 62 = .ok (.aload_n 0, 1) := by decide +kernel
theorem dX11_spend_63 : decode cX11_spend 63 = .ok (.getfield 78, 3) := by decide +kernel
theorem dX11_spend_66 : decode cX11_spend 66 = .ok (.iload_n 1, 1) := by decide +kernel
theorem dX11_spend_67 : decode cX11_spend 67 = .ok (.dup2, 1) := by decide +kernel
theorem dX11_spend_68 : decode cX11_spend 68 = .ok (.laload, 1) := by decide +kernel
theorem dX11_spend_69 : decode cX11_spend 69 = .ok (.iload_n 2, 1) := by decide +kernel
theorem dX11_spend_70 : decode cX11_spend 70 = .ok (.iconst 1, 1) := by decide +kernel
theorem dX11_spend_71 : decode cX11_spend 71 = .ok (.if_icmp .ne 8, 3) := by decide +kernel
theorem dX11_spend_74 : decode cX11_spend 74 = .ok (.iload_n 3, 1) := by decide +kernel
theorem dX11_spend_75 : decode cX11_spend 75 = .ok (.i2l, 1) := by decide +kernel
theorem dX11_spend_76 : decode cX11_spend 76 = .ok (.goto 4, 3) := by decide +kernel
theorem dX11_spend_79 : decode cX11_spend 79 = .ok (.lconst 0, 1) := by decide +kernel
theorem dX11_spend_80 : decode cX11_spend 80 = .ok (.ladd, 1) := by decide +kernel
theorem dX11_spend_81 : decode cX11_spend 81 = .ok (.lastore, 1) := by decide +kernel
theorem dX11_spend_82 : decode cX11_spend 82 = .ok (.iload_n 2, 1) := by decide +kernel
theorem dX11_spend_83 : decode cX11_spend 83 = .ok (.ifCond .ne 12, 3) := by decide +kernel
theorem dX11_spend_86 : decode cX11_spend 86 = .ok (.aload_n 0, 1) := by decide +kernel
theorem dX11_spend_87 : decode cX11_spend 87 = .ok (.getfield 75, 3) := by decide +kernel
theorem dX11_spend_90 : decode cX11_spend 90 = .ok (.iload_n 1, 1) := by decide +kernel
theorem dX11_spend_91 : decode cX11_spend 91 = .ok (.laload, 1) := by decide +kernel
theorem dX11_spend_92 : decode cX11_spend 92 = .ok (.goto 9, 3) := by decide +kernel
theorem dX11_spend_95 : decode cX11_spend 95 = .ok (.aload_n 0, 1) := by decide +kernel
theorem dX11_spend_96 : decode cX11_spend 96 = .ok (.getfield 78, 3) := by decide +kernel
theorem dX11_spend_99 : decode cX11_spend 99 = .ok (.iload_n 1, 1) := by decide +kernel
theorem dX11_spend_100 : decode cX11_spend 100 = .ok (.laload, 1) := by decide +kernel
theorem dX11_spend_101 : decode cX11_spend 101 = .ok (.lreturn, 1) := by decide +kernel
theorem dX11_worthOf_0 : decode cX11_worthOf 0 = .ok (.lconst 0, 1) := by decide +kernel
theorem dX11_worthOf_1 : decode cX11_worthOf 1 = .ok (.lstore_n 2, 1) := by decide +kernel
theorem dX11_worthOf_2 : decode cX11_worthOf 2 = .ok (.iconst 0, 1) := by decide +kernel
theorem dX11_worthOf_3 : decode cX11_worthOf 3 = .ok (.istore 4, 2) := by decide +kernel
theorem dX11_worthOf_5 : decode cX11_worthOf 5 = .ok (.iload 4, 2) := by decide +kernel
theorem dX11_worthOf_7 : decode cX11_worthOf 7 = .ok (.aload_n 0, 1) := by decide +kernel
theorem dX11_worthOf_8 : decode cX11_worthOf 8 = .ok (.getfield 217, 3) := by decide +kernel
theorem dX11_worthOf_11 : decode cX11_worthOf 11 = .ok (.if_icmp .ge 44, 3) := by decide +kernel
theorem dX11_worthOf_14 : decode cX11_worthOf 14 = .ok (.lload_n 2, 1) := by decide +kernel
theorem dX11_worthOf_15 : decode cX11_worthOf 15 = .ok (.aload_n 0, 1) := by decide +kernel
theorem dX11_worthOf_16 : decode cX11_worthOf 16 = .ok (.getfield 84, 3) := by decide +kernel
theorem dX11_worthOf_19 : decode cX11_worthOf 19 = .ok (.iload 4, 2) := by decide +kernel
theorem dX11_worthOf_21 : decode cX11_worthOf 21 = .ok (.iaload, 1) := by decide +kernel
theorem dX11_worthOf_22 : decode cX11_worthOf 22 = .ok (.iload_n 1, 1) := by decide +kernel
theorem dX11_worthOf_23 : decode cX11_worthOf 23 = .ok (.if_icmp .ne 23, 3) := by decide +kernel
theorem dX11_worthOf_26 : decode cX11_worthOf 26 = .ok (.aload_n 0, 1) := by decide +kernel
theorem dX11_worthOf_27 : decode cX11_worthOf 27 = .ok (.getfield 87, 3) := by decide +kernel
theorem dX11_worthOf_30 : decode cX11_worthOf 30 = .ok (.iload 4, 2) := by decide +kernel
theorem dX11_worthOf_32 : decode cX11_worthOf 32 = .ok (.iaload, 1) := by decide +kernel
theorem dX11_worthOf_33 : decode cX11_worthOf 33 = .ok (.i2l, 1) := by decide +kernel
theorem dX11_worthOf_34 : decode cX11_worthOf 34 = .ok (.aload_n 0, 1) := by decide +kernel
theorem dX11_worthOf_35 : decode cX11_worthOf 35 = .ok (.getfield 90, 3) := by decide +kernel
theorem dX11_worthOf_38 : decode cX11_worthOf 38 = .ok (.iload 4, 2) := by decide +kernel
theorem dX11_worthOf_40 : decode cX11_worthOf 40 = .ok (.iaload, 1) := by decide +kernel
theorem dX11_worthOf_41 : decode cX11_worthOf 41 = .ok (.i2l, 1) := by decide +kernel
theorem dX11_worthOf_42 : decode cX11_worthOf 42 = .ok (.lmul, 1) := by decide +kernel
theorem dX11_worthOf_43 : decode cX11_worthOf 43 = .ok (.goto 4, 3) := by decide +kernel
theorem dX11_worthOf_46 : decode cX11_worthOf 46 = .ok (.lconst 0, 1) := by decide +kernel
theorem dX11_worthOf_47 : decode cX11_worthOf 47 = .ok (.ladd, 1) := by decide +kernel
theorem dX11_worthOf_48 : decode cX11_worthOf 48 = .ok (.lstore_n 2, 1) := by decide +kernel
theorem dX11_worthOf_49 : decode cX11_worthOf 49 = .ok (.iinc 4 1, 3) := by decide +kernel
theorem dX11_worthOf_52 : decode cX11_worthOf 52 = .ok (.goto (-47), 3) := by decide +kernel
theorem dX11_worthOf_55 : decode cX11_worthOf 55 = .ok (.lload_n 2, 1) := by decide +kernel
theorem dX11_worthOf_56 : decode cX11_worthOf 56 = .ok (.lreturn, 1) := by decide +kernel
set_option maxRecDepth 20000 in
theorem ggX11_settle_X11_noTake : GoodIn wsX11_settle wsX11_noTake := goodIn_r _ [15, 16, 17, 18, 14, 19, 32, 33, 34, 35, 36, 37, 38, 39, 40, 41, 42, 43, 44, 45, 46, 47, 48, 49, 50, 51, 52, 53, 54, 55, 56, 57, 58, 59, 60, 61, 62, 63, 64, 65, 66, 67, 68, 69, 70] (by decide +kernel) (by decide +kernel)
set_option maxRecDepth 20000 in
theorem gX11_settle_X11_noTake : GoodIn wsX11_settle (wsV RX11 214 RX11 yX11_noTake wsX11_noTake) := goodIn_app (goodIn_of _ (by decide +kernel)) ggX11_settle_X11_noTake
set_option maxRecDepth 20000 in
theorem ggX11_settle_X11_lost : GoodIn wsX11_settle wsX11_lost := goodIn_r _ [22, 23] (by decide +kernel) (by decide +kernel)
set_option maxRecDepth 20000 in
theorem gX11_settle_X11_lost : GoodIn wsX11_settle (va_wsS RX11 105 yX11_lost wsX11_lost) := goodIn_app (goodIn_of _ (by decide +kernel)) ggX11_settle_X11_lost
set_option maxRecDepth 20000 in
theorem ggX11_settle_X11_worthOf : GoodIn wsX11_settle wsX11_worthOf := goodIn_r _ [27, 28, 29, 30, 31, 32, 33, 34, 35, 36, 37, 38, 39, 40, 41, 42, 43, 44, 45, 46, 47, 48, 49, 50, 51, 52, 53, 54, 55, 56, 57, 58, 59, 60, 61, 62, 63, 64, 65, 66, 67, 68, 69, 70] (by decide +kernel) (by decide +kernel)
set_option maxRecDepth 20000 in
theorem gX11_settle_X11_worthOf : GoodIn wsX11_settle (wsV RX11 222 RX11 yX11_worthOf wsX11_worthOf) := goodIn_app (goodIn_of _ (by decide +kernel)) ggX11_settle_X11_worthOf
theorem dX11_settle_0 : decode cX11_settle 0 = .ok (.aload_n 0, 1) := by decide +kernel
theorem dX11_settle_1 : decode cX11_settle 1 = .ok (.iload_n 1, 1) := by decide +kernel
theorem dX11_settle_2 : decode cX11_settle 2 = .ok (.invokevirtual 214, 3) := by decide +kernel
theorem dX11_settle_5 : decode cX11_settle 5 = .ok (.ifCond .ne 12, 3) := by decide +kernel
theorem dX11_settle_8 : decode cX11_settle 8 = .ok (.aload_n 0, 1) := by decide +kernel
theorem dX11_settle_9 : decode cX11_settle 9 = .ok (.getfield 65, 3) := by decide +kernel
theorem dX11_settle_12 : decode cX11_settle 12 = .ok (.iload_n 1, 1) := by decide +kernel
theorem dX11_settle_13 : decode cX11_settle 13 = .ok (.baload, 1) := by decide +kernel
theorem dX11_settle_14 : decode cX11_settle 14 = .ok (.ifCond .eq 7, 3) := by decide +kernel
theorem dX11_settle_17 : decode cX11_settle 17 = .ok (.invokestatic 105, 3) := by decide +kernel
theorem dX11_settle_20 : decode cX11_settle 20 = .ok (.lreturn, 1) := by decide +kernel
theorem dX11_settle_21 : decode cX11_settle 21 = .ok (.aload_n 0, 1) := by decide +kernel
theorem dX11_settle_22 : decode cX11_settle 22 = .ok (.getfield 56, 3) := by decide +kernel
theorem dX11_settle_25 : decode cX11_settle 25 = .ok (.iload_n 1, 1) := by decide +kernel
theorem dX11_settle_26 : decode cX11_settle 26 = .ok (.iaload, 1) := by decide +kernel
theorem dX11_settle_27 : decode cX11_settle 27 = .ok (.istore_n 2, 1) := by decide +kernel
theorem dX11_settle_28 : decode cX11_settle 28 = .ok (.aload_n 0, 1) := by decide +kernel
theorem dX11_settle_29 : decode cX11_settle 29 = .ok (.getfield 49, 3) := by decide +kernel
theorem dX11_settle_32 : decode cX11_settle 32 = .ok (.iload_n 2, 1) := by decide +kernel
theorem dX11_settle_33 : decode cX11_settle 33 = .ok (.iaload, 1) := by decide +kernel
theorem dX11_settle_34 : decode cX11_settle 34 = .ok (.iconst 2, 1) := by decide +kernel
theorem dX11_settle_35 : decode cX11_settle 35 = .ok (.if_icmp .ne 16, 3) := by decide +kernel
theorem dX11_settle_38 : decode cX11_settle 38 = .ok (.aload_n 0, 1) := by decide +kernel
theorem dX11_settle_39 : decode cX11_settle 39 = .ok (.getfield 52, 3) := by decide +kernel
theorem dX11_settle_42 : decode cX11_settle 42 = .ok (.iload_n 2, 1) := by decide +kernel
theorem dX11_settle_43 : decode cX11_settle 43 = .ok (.laload, 1) := by decide +kernel
theorem dX11_settle_44 : decode cX11_settle 44 = .ok (.ldc2_w 151, 3) := by decide +kernel
theorem dX11_settle_47 : decode cX11_settle 47 = .ok (.ldiv, 1) := by decide +kernel
theorem dX11_settle_48 : decode cX11_settle 48 = .ok (.goto 9, 3) := by decide +kernel
theorem dX11_settle_51 : decode cX11_settle 51 = .ok (.aload_n 0, 1) := by decide +kernel
theorem dX11_settle_52 : decode cX11_settle 52 = .ok (.getfield 52, 3) := by decide +kernel
theorem dX11_settle_55 : decode cX11_settle 55 = .ok (.iload_n 2, 1) := by decide +kernel
theorem dX11_settle_56 : decode cX11_settle 56 = .ok (.laload, 1) := by decide +kernel
theorem dX11_settle_57 : decode cX11_settle 57 = .ok (.lstore_n 3, 1) := by decide +kernel
theorem dX11_settle_58 : decode cX11_settle 58 = .ok (.aload_n 0, 1) := by decide +kernel
theorem dX11_settle_59 : decode cX11_settle 59 = .ok (.getfield 62, 3) := by decide +kernel
theorem dX11_settle_62 : decode cX11_settle 62 = .ok (.iload_n 1, 1) := by decide +kernel
theorem dX11_settle_63 : decode cX11_settle 63 = .ok (.iaload, 1) := by decide +kernel
theorem dX11_settle_64 : decode cX11_settle 64 = .ok (.i2l, 1) := by decide +kernel
theorem dX11_settle_65 : decode cX11_settle 65 = .ok (.aload_n 0, 1) := by decide +kernel
theorem dX11_settle_66 : decode cX11_settle 66 = .ok (.iload_n 1, 1) := by decide +kernel
theorem dX11_settle_67 : decode cX11_settle 67 = .ok (.invokevirtual 222, 3) := by decide +kernel
theorem dX11_settle_70 : decode cX11_settle 70 = .ok (.lmul, 1) := by decide +kernel
theorem dX11_settle_71 : decode cX11_settle 71 = .ok (.ldc2_w 191, 3) := by decide +kernel
theorem dX11_settle_74 : decode cX11_settle 74 = .ok (.ldiv, 1) := by decide +kernel
theorem dX11_settle_75 : decode cX11_settle 75 = .ok (.aload_n 0, 1) := by decide +kernel
theorem dX11_settle_76 : decode cX11_settle 76 = .ok (.getfield 49, 3) := by decide +kernel
theorem dX11_settle_79 : decode cX11_settle 79 = .ok (.iload_n 2, 1) := by decide +kernel
theorem dX11_settle_80 : decode cX11_settle 80 = .ok (.iaload, 1) := by decide +kernel
theorem dX11_settle_81 : decode cX11_settle 81 = .ok (.ifCond .le 16, 3) := by decide +kernel
theorem dX11_settle_84 : decode cX11_settle 84 = .ok (.aload_n 0, 1) := by decide +kernel
theorem dX11_settle_85 : decode cX11_settle 85 = .ok (.getfield 75, 3) := by decide +kernel
theorem dX11_settle_88 : decode cX11_settle 88 = .ok (.iload_n 1, 1) := by decide +kernel
theorem dX11_settle_89 : decode cX11_settle 89 = .ok (.laload, 1) := by decide +kernel
theorem dX11_settle_90 : decode cX11_settle 90 = .ok (.ldc2_w 151, 3) := by decide +kernel
theorem dX11_settle_93 : decode cX11_settle 93 = .ok (.ldiv, 1) := by decide +kernel
theorem dX11_settle_94 : decode cX11_settle 94 = .ok (.goto 9, 3) := by decide +kernel
theorem dX11_settle_97 : decode cX11_settle 97 = .ok (.aload_n 0, 1) := by decide +kernel
theorem dX11_settle_98 : decode cX11_settle 98 = .ok (.getfield 75, 3) := by decide +kernel
theorem dX11_settle_101 : decode cX11_settle 101 = .ok (.iload_n 1, 1) := by decide +kernel
theorem dX11_settle_102 : decode cX11_settle 102 = .ok (.laload, 1) := by decide +kernel
theorem dX11_settle_103 : decode cX11_settle 103 = .ok (.lsub, 1) := by decide +kernel
theorem dX11_settle_104 : decode cX11_settle 104 = .ok (.aload_n 0, 1) := by decide +kernel
theorem dX11_settle_105 : decode cX11_settle 105 = .ok (.getfield 78, 3) := by decide +kernel
theorem dX11_settle_108 : decode cX11_settle 108 = .ok (.iload_n 1, 1) := by decide +kernel
theorem dX11_settle_109 : decode cX11_settle 109 = .ok (.laload, 1) := by decide +kernel
theorem dX11_settle_110 : decode cX11_settle 110 = .ok (.lsub, 1) := by decide +kernel
theorem dX11_settle_111 : decode cX11_settle 111 = .ok (.lload_n 3, 1) := by decide +kernel
theorem dX11_settle_112 : decode cX11_settle 112 = .ok (.lsub, 1) := by decide +kernel
theorem dX11_settle_113 : decode cX11_settle 113 = .ok (.lstore 5, 2) := by decide +kernel
theorem dX11_settle_115 : decode cX11_settle 115 = .ok (.aload_n 0, 1) := by decide +kernel
theorem dX11_settle_116 : decode cX11_settle 116 = .ok (.getfield 52, 3) := by decide +kernel
theorem dX11_settle_119 : decode cX11_settle 119 = .ok (.iload_n 2, 1) := by decide +kernel
theorem dX11_settle_120 : decode cX11_settle 120 = .ok (.dup2, 1) := by decide +kernel
theorem dX11_settle_121 : decode cX11_settle 121 = .ok (.laload, 1) := by decide +kernel
theorem dX11_settle_122 : decode cX11_settle 122 = .ok (.lload_n 3, 1) := by decide +kernel
theorem dX11_settle_123 : decode cX11_settle 123 = .ok (.lsub, 1) := by decide +kernel
theorem dX11_settle_124 : decode cX11_settle 124 = .ok (.lastore, 1) := by decide +kernel
theorem dX11_settle_125 : decode cX11_settle 125 = .ok (.aload_n 0, 1) := by decide +kernel
theorem dX11_settle_126 : decode cX11_settle 126 = .ok (.getfield 52, 3) := by decide +kernel
theorem dX11_settle_129 : decode cX11_settle 129 = .ok (.iload_n 2, 1) := by decide +kernel
theorem dX11_settle_130 : decode cX11_settle 130 = .ok (.dup2, 1) := by decide +kernel
theorem dX11_settle_131 : decode cX11_settle 131 = .ok (.laload, 1) := by decide +kernel
theorem dX11_settle_132 : decode cX11_settle 132 = .ok (.lload 5, 2) := by decide +kernel
theorem dX11_settle_134 : decode cX11_settle 134 = .ok (.lconst 0, 1) := by decide +kernel
theorem dX11_settle_135 : decode cX11_settle 135 = .ok (.lcmp, 1) := by decide +kernel
theorem dX11_settle_136 : decode cX11_settle 136 = .ok (.ifCond .ge 9, 3) := by decide +kernel
theorem dX11_settle_139 : decode cX11_settle 139 = .ok (.lload 5, 2) := by decide +kernel
theorem dX11_settle_141 : decode cX11_settle 141 = .ok (.lneg, 1) := by decide +kernel
theorem dX11_settle_142 : decode cX11_settle 142 = .ok (.goto 4, 3) := by decide +kernel
theorem dX11_settle_145 : decode cX11_settle 145 = .ok (.lconst 0, 1) := by decide +kernel
theorem dX11_settle_146 : decode cX11_settle 146 = .ok (.ladd, 1) := by decide +kernel
theorem dX11_settle_147 : decode cX11_settle 147 = .ok (.lastore, 1) := by decide +kernel
theorem dX11_settle_148 : decode cX11_settle 148 = .ok (.aload_n 0, 1) := by decide +kernel
theorem dX11_settle_149 : decode cX11_settle 149 = .ok (.getfield 81, 3) := by decide +kernel
theorem dX11_settle_152 : decode cX11_settle 152 = .ok (.iload_n 1, 1) := by decide +kernel
theorem dX11_settle_153 : decode cX11_settle 153 = .ok (.lload 5, 2) := by decide +kernel
theorem dX11_settle_155 : decode cX11_settle 155 = .ok (.lconst 0, 1) := by decide +kernel
theorem dX11_settle_156 : decode cX11_settle 156 = .ok (.lcmp, 1) := by decide +kernel
theorem dX11_settle_157 : decode cX11_settle 157 = .ok (.ifCond .ge 7, 3) := by decide +kernel
theorem dX11_settle_160 : decode cX11_settle 160 = .ok (.lconst 0, 1) := by decide +kernel
theorem dX11_settle_161 : decode cX11_settle 161 = .ok (.goto 5, 3) := by decide +kernel
theorem dX11_settle_164 : decode cX11_settle 164 = .ok (.lload 5, 2) := by decide +kernel
theorem dX11_settle_166 : decode cX11_settle 166 = .ok (.lastore, 1) := by decide +kernel
theorem dX11_settle_167 : decode cX11_settle 167 = .ok (.aload_n 0, 1) := by decide +kernel
theorem dX11_settle_168 : decode cX11_settle 168 = .ok (.getfield 65, 3) := by decide +kernel
theorem dX11_settle_171 : decode cX11_settle 171 = .ok (.iload_n 1, 1) := by decide +kernel
theorem dX11_settle_172 : decode cX11_settle 172 = .ok (.iconst 1, 1) := by decide +kernel
theorem dX11_settle_173 : decode cX11_settle 173 = .ok (.bastore, 1) := by decide +kernel
theorem dX11_settle_174 : decode cX11_settle 174 = .ok (.aload_n 0, 1) := by decide +kernel
theorem dX11_settle_175 : decode cX11_settle 175 = .ok (.getfield 81, 3) := by decide +kernel
theorem dX11_settle_178 : decode cX11_settle 178 = .ok (.iload_n 1, 1) := by decide +kernel
theorem dX11_settle_179 : decode cX11_settle 179 = .ok (.laload, 1) := by decide +kernel
theorem dX11_settle_180 : decode cX11_settle 180 = .ok (.lreturn, 1) := by decide +kernel
theorem dX11_parcelsOf_0 : decode cX11_parcelsOf 0 = .ok (.iconst 0, 1) := by decide +kernel
theorem dX11_parcelsOf_1 : decode cX11_parcelsOf 1 = .ok (.istore_n 2, 1) := by decide +kernel
theorem dX11_parcelsOf_2 : decode cX11_parcelsOf 2 = .ok (.iconst 0, 1) := by decide +kernel
theorem dX11_parcelsOf_3 : decode cX11_parcelsOf 3 = .ok (.istore_n 3, 1) := by decide +kernel
theorem dX11_parcelsOf_4 : decode cX11_parcelsOf 4 = .ok (.iload_n 3, 1) := by decide +kernel
theorem dX11_parcelsOf_5 : decode cX11_parcelsOf 5 = .ok (.aload_n 0, 1) := by decide +kernel
theorem dX11_parcelsOf_6 : decode cX11_parcelsOf 6 = .ok (.getfield 217, 3) := by decide +kernel
theorem dX11_parcelsOf_9 : decode cX11_parcelsOf 9 = .ok (.if_icmp .ge 27, 3) := by decide +kernel
theorem dX11_parcelsOf_12 : decode cX11_parcelsOf 12 = .ok (.iload_n 2, 1) := by decide +kernel
theorem dX11_parcelsOf_13 : decode cX11_parcelsOf 13 = .ok (.aload_n 0, 1) := by decide +kernel
theorem dX11_parcelsOf_14 : decode cX11_parcelsOf 14 = .ok (.getfield 84, 3) := by decide +kernel
theorem dX11_parcelsOf_17 : decode cX11_parcelsOf 17 = .ok (.iload_n 3, 1) := by decide +kernel
theorem dX11_parcelsOf_18 : decode cX11_parcelsOf 18 = .ok (.iaload, 1) := by decide +kernel
theorem dX11_parcelsOf_19 : decode cX11_parcelsOf 19 = .ok (.iload_n 1, 1) := by decide +kernel
theorem dX11_parcelsOf_20 : decode cX11_parcelsOf 20 = .ok (.if_icmp .ne 7, 3) := by decide +kernel
theorem dX11_parcelsOf_23 : decode cX11_parcelsOf 23 = .ok (.iconst 1, 1) := by decide +kernel
theorem dX11_parcelsOf_24 : decode cX11_parcelsOf 24 = .ok (.goto 4, 3) := by decide +kernel
theorem dX11_parcelsOf_27 : decode cX11_parcelsOf 27 = .ok (.iconst 0, 1) := by decide +kernel
theorem dX11_parcelsOf_28 : decode cX11_parcelsOf 28 = .ok (.iadd, 1) := by decide +kernel
theorem dX11_parcelsOf_29 : decode cX11_parcelsOf 29 = .ok (.istore_n 2, 1) := by decide +kernel
theorem dX11_parcelsOf_30 : decode cX11_parcelsOf 30 = .ok (.iinc 3 1, 3) := by decide +kernel
theorem dX11_parcelsOf_33 : decode cX11_parcelsOf 33 = .ok (.goto (-29), 3) := by decide +kernel
theorem dX11_parcelsOf_36 : decode cX11_parcelsOf 36 = .ok (.iload_n 2, 1) := by decide +kernel
theorem dX11_parcelsOf_37 : decode cX11_parcelsOf 37 = .ok (.ireturn, 1) := by decide +kernel
set_option maxRecDepth 20000 in
theorem ggX11_taken_X11_noTake : GoodIn wsX11_taken wsX11_noTake := goodIn_r _ [9, 10, 11, 12, 8, 13, 20, 21, 22, 23, 24, 25, 26, 27, 28, 29, 30, 31, 32, 33, 34, 35, 36, 37, 38, 39, 40, 41, 42, 43, 44, 45, 46, 47, 48, 49, 50, 51, 52, 53, 54, 55, 56, 57, 58] (by decide +kernel) (by decide +kernel)
set_option maxRecDepth 20000 in
theorem gX11_taken_X11_noTake : GoodIn wsX11_taken (wsV RX11 214 RX11 yX11_noTake wsX11_noTake) := goodIn_app (goodIn_of _ (by decide +kernel)) ggX11_taken_X11_noTake
set_option maxRecDepth 20000 in
theorem ggX11_taken_X11_parcelsOf : GoodIn wsX11_taken wsX11_parcelsOf := goodIn_r _ [17, 18, 19, 20, 21, 22, 23, 24, 25, 26, 27, 28, 29, 30, 31, 32, 33, 34, 35, 36, 37, 38, 39, 40, 41, 42, 43, 44, 45, 46, 47, 48, 49, 50, 51, 52, 53, 54, 55, 56, 57, 58] (by decide +kernel) (by decide +kernel)
set_option maxRecDepth 20000 in
theorem gX11_taken_X11_parcelsOf : GoodIn wsX11_taken (wsV RX11 225 RX11 yX11_parcelsOf wsX11_parcelsOf) := goodIn_app (goodIn_of _ (by decide +kernel)) ggX11_taken_X11_parcelsOf
theorem dX11_taken_0 : decode cX11_taken 0 = .ok (.aload_n 0, 1) := by decide +kernel
theorem dX11_taken_1 : decode cX11_taken 1 = .ok (.iload_n 1, 1) := by decide +kernel
theorem dX11_taken_2 : decode cX11_taken 2 = .ok (.invokevirtual 214, 3) := by decide +kernel
theorem dX11_taken_5 : decode cX11_taken 5 = .ok (.ifCond .eq 5, 3) := by decide +kernel
theorem dX11_taken_8 : decode cX11_taken 8 = .ok (.iconst (-1), 1) := by decide +kernel
theorem dX11_taken_9 : decode cX11_taken 9 = .ok (.ireturn, 1) := by decide +kernel
theorem dX11_taken_10 : decode cX11_taken 10 = .ok (.iload_n 2, 1) := by decide +kernel
theorem dX11_taken_11 : decode cX11_taken 11 = .ok (.tableswitch 75 0 4 #[33, 40, 47, 54, 69], 33) := by decide +kernel
theorem dX11_taken_44 : decode cX11_taken 44 = .ok (.aload_n 0, 1) := by decide +kernel
theorem dX11_taken_45 : decode cX11_taken 45 = .ok (.getfield 56, 3) := by decide +kernel
theorem dX11_taken_48 : decode cX11_taken 48 = .ok (.iload_n 1, 1) := by decide +kernel
theorem dX11_taken_49 : decode cX11_taken 49 = .ok (.iaload, 1) := by decide +kernel
theorem dX11_taken_50 : decode cX11_taken 50 = .ok (.ireturn, 1) := by decide +kernel
theorem dX11_taken_51 : decode cX11_taken 51 = .ok (.aload_n 0, 1) := by decide +kernel
theorem dX11_taken_52 : decode cX11_taken 52 = .ok (.getfield 59, 3) := by decide +kernel
theorem dX11_taken_55 : decode cX11_taken 55 = .ok (.iload_n 1, 1) := by decide +kernel
theorem dX11_taken_56 : decode cX11_taken 56 = .ok (.iaload, 1) := by decide +kernel
theorem dX11_taken_57 : decode cX11_taken 57 = .ok (.ireturn, 1) := by decide +kernel
theorem dX11_taken_58 : decode cX11_taken 58 = .ok (.aload_n 0, 1) := by decide +kernel
theorem dX11_taken_59 : decode cX11_taken 59 = .ok (.getfield 62, 3) := by decide +kernel
theorem dX11_taken_62 : decode cX11_taken 62 = .ok (.iload_n 1, 1) := by decide +kernel
theorem dX11_taken_63 : decode cX11_taken 63 = .ok (.iaload, 1) := by decide +kernel
theorem dX11_taken_64 : decode cX11_taken 64 = .ok (.ireturn, 1) := by decide +kernel
theorem dX11_taken_65 : decode cX11_taken 65 = .ok (.aload_n 0, 1) := by decide +kernel
theorem dX11_taken_66 : decode cX11_taken 66 = .ok (.getfield 65, 3) := by decide +kernel
theorem dX11_taken_69 : decode cX11_taken 69 = .ok (.iload_n 1, 1) := by decide +kernel
theorem dX11_taken_70 : decode cX11_taken 70 = .ok (.baload, 1) := by decide +kernel
theorem dX11_taken_71 : decode cX11_taken 71 = .ok (.ifCond .eq 7, 3) := by decide +kernel
theorem dX11_taken_74 : decode cX11_taken 74 = .ok (.iconst 1, 1) := by decide +kernel
theorem dX11_taken_75 : decode cX11_taken 75 = .ok (.goto 4, 3) := by decide +kernel
theorem dX11_taken_78 : decode cX11_taken 78 = .ok (.iconst 0, 1) := by decide +kernel
theorem dX11_taken_79 : decode cX11_taken 79 = .ok (.ireturn, 1) := by decide +kernel
theorem dX11_taken_80 : decode cX11_taken 80 = .ok (.aload_n 0, 1) := by decide +kernel
theorem dX11_taken_81 : decode cX11_taken 81 = .ok (.iload_n 1, 1) := by decide +kernel
theorem dX11_taken_82 : decode cX11_taken 82 = .ok (.invokevirtual 225, 3) := by decide +kernel
theorem dX11_taken_85 : decode cX11_taken 85 = .ok (.ireturn, 1) := by decide +kernel
theorem dX11_taken_86 : decode cX11_taken 86 = .ok (.bipush (-2), 2) := by decide +kernel
theorem dX11_taken_88 : decode cX11_taken 88 = .ok (.ireturn, 1) := by decide +kernel
set_option maxRecDepth 20000 in
theorem ggX11_money_X11_noTake : GoodIn wsX11_money wsX11_noTake := goodIn_r _ [10, 11, 12, 13, 9, 14, 27, 28, 29, 30, 31, 32, 33, 34, 35, 36, 37, 38, 39, 40, 41, 42, 43, 44, 45, 46, 47, 48, 49, 50, 51, 52, 53, 54, 55, 56, 57, 58, 59, 60, 61, 62, 63, 64, 65] (by decide +kernel) (by decide +kernel)
set_option maxRecDepth 20000 in
theorem gX11_money_X11_noTake : GoodIn wsX11_money (wsV RX11 214 RX11 yX11_noTake wsX11_noTake) := goodIn_app (goodIn_of _ (by decide +kernel)) ggX11_money_X11_noTake
set_option maxRecDepth 20000 in
theorem ggX11_money_X11_lost : GoodIn wsX11_money wsX11_lost := goodIn_r _ [17, 18] (by decide +kernel) (by decide +kernel)
set_option maxRecDepth 20000 in
theorem gX11_money_X11_lost : GoodIn wsX11_money (va_wsS RX11 105 yX11_lost wsX11_lost) := goodIn_app (goodIn_of _ (by decide +kernel)) ggX11_money_X11_lost
set_option maxRecDepth 20000 in
theorem ggX11_money_X11_worthOf : GoodIn wsX11_money wsX11_worthOf := goodIn_r _ [22, 23, 24, 25, 26, 27, 28, 29, 30, 31, 32, 33, 34, 35, 36, 37, 38, 39, 40, 41, 42, 43, 44, 45, 46, 47, 48, 49, 50, 51, 52, 53, 54, 55, 56, 57, 58, 59, 60, 61, 62, 63, 64, 65] (by decide +kernel) (by decide +kernel)
set_option maxRecDepth 20000 in
theorem gX11_money_X11_worthOf : GoodIn wsX11_money (wsV RX11 222 RX11 yX11_worthOf wsX11_worthOf) := goodIn_app (goodIn_of _ (by decide +kernel)) ggX11_money_X11_worthOf
theorem dX11_money_0 : decode cX11_money 0 = .ok (.aload_n 0, 1) := by decide +kernel
theorem dX11_money_1 : decode cX11_money 1 = .ok (.iload_n 1, 1) := by decide +kernel
theorem dX11_money_2 : decode cX11_money 2 = .ok (.invokevirtual 214, 3) := by decide +kernel
theorem dX11_money_5 : decode cX11_money 5 = .ok (.ifCond .eq 7, 3) := by decide +kernel
theorem dX11_money_8 : decode cX11_money 8 = .ok (.invokestatic 105, 3) := by decide +kernel
theorem dX11_money_11 : decode cX11_money 11 = .ok (.lreturn, 1) := by decide +kernel
theorem dX11_money_12 : decode cX11_money 12 = .ok (.iload_n 2, 1) := by decide +kernel
theorem dX11_money_13 : decode cX11_money 13 = .ok (.tableswitch 80 0 5 #[39, 45, 52, 59, 66, 73], 39) := by decide +kernel
theorem dX11_money_52 : decode cX11_money 52 = .ok (.aload_n 0, 1) := by decide +kernel
theorem dX11_money_53 : decode cX11_money 53 = .ok (.iload_n 1, 1) := by decide +kernel
theorem dX11_money_54 : decode cX11_money 54 = .ok (.invokevirtual 222, 3) := by decide +kernel
theorem dX11_money_57 : decode cX11_money 57 = .ok (.lreturn, 1) := by decide +kernel
theorem dX11_money_58 : decode cX11_money 58 = .ok (.aload_n 0, 1) := by decide +kernel
theorem dX11_money_59 : decode cX11_money 59 = .ok (.getfield 75, 3) := by decide +kernel
theorem dX11_money_62 : decode cX11_money 62 = .ok (.iload_n 1, 1) := by decide +kernel
theorem dX11_money_63 : decode cX11_money 63 = .ok (.laload, 1) := by decide +kernel
theorem dX11_money_64 : decode cX11_money 64 = .ok (.lreturn, 1) := by decide +kernel
theorem dX11_money_65 : decode cX11_money 65 = .ok (.aload_n 0, 1) := by decide +kernel
theorem dX11_money_66 : decode cX11_money 66 = .ok (.getfield 78, 3) := by decide +kernel
theorem dX11_money_69 : decode cX11_money 69 = .ok (.iload_n 1, 1) := by decide +kernel
theorem dX11_money_70 : decode cX11_money 70 = .ok (.laload, 1) := by decide +kernel
theorem dX11_money_71 : decode cX11_money 71 = .ok (.lreturn, 1) := by decide +kernel
theorem dX11_money_72 : decode cX11_money 72 = .ok (.aload_n 0, 1) := by decide +kernel
theorem dX11_money_73 : decode cX11_money 73 = .ok (.getfield 81, 3) := by decide +kernel
theorem dX11_money_76 : decode cX11_money 76 = .ok (.iload_n 1, 1) := by decide +kernel
theorem dX11_money_77 : decode cX11_money 77 = .ok (.laload, 1) := by decide +kernel
theorem dX11_money_78 : decode cX11_money 78 = .ok (.lreturn, 1) := by decide +kernel
theorem dX11_money_79 : decode cX11_money 79 = .ok (.aload_n 0, 1) := by decide +kernel
theorem dX11_money_80 : decode cX11_money 80 = .ok (.getfield 69, 3) := by decide +kernel
theorem dX11_money_83 : decode cX11_money 83 = .ok (.iload_n 1, 1) := by decide +kernel
theorem dX11_money_84 : decode cX11_money 84 = .ok (.laload, 1) := by decide +kernel
theorem dX11_money_85 : decode cX11_money 85 = .ok (.lreturn, 1) := by decide +kernel
theorem dX11_money_86 : decode cX11_money 86 = .ok (.aload_n 0, 1) := by decide +kernel
theorem dX11_money_87 : decode cX11_money 87 = .ok (.getfield 72, 3) := by decide +kernel
theorem dX11_money_90 : decode cX11_money 90 = .ok (.iload_n 1, 1) := by decide +kernel
theorem dX11_money_91 : decode cX11_money 91 = .ok (.laload, 1) := by decide +kernel
theorem dX11_money_92 : decode cX11_money 92 = .ok (.lreturn, 1) := by decide +kernel
theorem dX11_money_93 : decode cX11_money 93 = .ok (.invokestatic 105, 3) := by decide +kernel
theorem dX11_money_96 : decode cX11_money 96 = .ok (.lreturn, 1) := by decide +kernel
set_option maxRecDepth 20000 in
theorem ggX11_debt_X11_noGang : GoodIn wsX11_debt wsX11_noGang := goodIn_r _ [6, 7, 8, 9, 5, 10, 15, 16, 17, 18, 19, 20, 21, 22, 23, 24, 25, 26, 27, 28, 29, 30, 31, 32, 33, 34, 35, 36, 37, 38, 39, 40, 41, 42, 43, 44, 45, 46, 47, 48, 49, 50, 51, 52, 53] (by decide +kernel) (by decide +kernel)
set_option maxRecDepth 20000 in
theorem gX11_debt_X11_noGang : GoodIn wsX11_debt (wsV RX11 205 RX11 yX11_noGang wsX11_noGang) := goodIn_app (goodIn_of _ (by decide +kernel)) ggX11_debt_X11_noGang
set_option maxRecDepth 20000 in
theorem ggX11_debt_X11_lost : GoodIn wsX11_debt wsX11_lost := goodIn_r _ [13, 14] (by decide +kernel) (by decide +kernel)
set_option maxRecDepth 20000 in
theorem gX11_debt_X11_lost : GoodIn wsX11_debt (va_wsS RX11 105 yX11_lost wsX11_lost) := goodIn_app (goodIn_of _ (by decide +kernel)) ggX11_debt_X11_lost
theorem dX11_debt_0 : decode cX11_debt 0 = .ok (.aload_n 0, 1) := by decide +kernel
theorem dX11_debt_1 : decode cX11_debt 1 = .ok (.iload_n 1, 1) := by decide +kernel
theorem dX11_debt_2 : decode cX11_debt 2 = .ok (.invokevirtual 205, 3) := by decide +kernel
theorem dX11_debt_5 : decode cX11_debt 5 = .ok (.ifCond .eq 9, 3) := by decide +kernel
theorem dX11_debt_8 : decode cX11_debt 8 = .ok (.invokestatic 105, 3) := by decide +kernel
theorem dX11_debt_11 : decode cX11_debt 11 = .ok (.goto 9, 3) := by decide +kernel
theorem dX11_debt_14 : decode cX11_debt 14 = .ok (.aload_n 0, 1) := by decide +kernel
theorem dX11_debt_15 : decode cX11_debt 15 = .ok (.getfield 52, 3) := by decide +kernel
theorem dX11_debt_18 : decode cX11_debt 18 = .ok (.iload_n 1, 1) := by decide +kernel
theorem dX11_debt_19 : decode cX11_debt 19 = .ok (.laload, 1) := by decide +kernel
theorem dX11_debt_20 : decode cX11_debt 20 = .ok (.lreturn, 1) := by decide +kernel
set_option maxRecDepth 20000 in
theorem ggX11_isSuspect_X11_isOn : GoodIn wsX11_isSuspect wsX11_isOn := goodIn_r _ [9, 10, 11, 12, 13, 14, 15, 8, 16, 17, 18, 19, 20, 21, 22, 23, 24, 25, 26, 27, 28, 29, 30, 31, 32, 33, 34, 35, 36, 37, 38, 39, 40, 41, 42, 43, 44, 45, 46, 47, 48, 49, 50, 51, 52, 53, 54, 55] (by decide +kernel) (by decide +kernel)
set_option maxRecDepth 20000 in
theorem gX11_isSuspect_X11_isOn : GoodIn wsX11_isSuspect (wsV RX11 175 RX11 yX11_isOn wsX11_isOn) := goodIn_app (goodIn_of _ (by decide +kernel)) ggX11_isSuspect_X11_isOn
theorem dX11_isSuspect_0 : decode cX11_isSuspect 0 = .ok (.aload_n 0, 1) := by decide +kernel
theorem dX11_isSuspect_1 : decode cX11_isSuspect 1 = .ok (.getfield 59, 3) := by decide +kernel
theorem dX11_isSuspect_4 : decode cX11_isSuspect 4 = .ok (.aload_n 0, 1) := by decide +kernel
theorem dX11_isSuspect_5 : decode cX11_isSuspect 5 = .ok (.getfield 84, 3) := by decide +kernel
theorem dX11_isSuspect_8 : decode cX11_isSuspect 8 = .ok (.iload_n 1, 1) := by decide +kernel
theorem dX11_isSuspect_9 : decode cX11_isSuspect 9 = .ok (.iaload, 1) := by decide +kernel
theorem dX11_isSuspect_10 : decode cX11_isSuspect 10 = .ok (.iaload, 1) := by decide +kernel
theorem dX11_isSuspect_11 : decode cX11_isSuspect 11 = .ok (.istore_n 2, 1) := by decide +kernel
theorem dX11_isSuspect_12 : decode cX11_isSuspect 12 = .ok (.iconst 0, 1) := by decide +kernel
theorem dX11_isSuspect_13 : decode cX11_isSuspect 13 = .ok (.istore_n 3, 1) := by decide +kernel
theorem dX11_isSuspect_14 : decode cX11_isSuspect 14 = .ok (.iconst 0, 1) := by decide +kernel
theorem dX11_isSuspect_15 : decode cX11_isSuspect 15 = .ok (.istore 4, 2) := by decide +kernel
theorem dX11_isSuspect_17 : decode cX11_isSuspect 17 = .ok (.iload 4, 2) := by decide +kernel
theorem dX11_isSuspect_19 : decode cX11_isSuspect 19 = .ok (.bipush 48, 2) := by decide +kernel
theorem dX11_isSuspect_21 : decode cX11_isSuspect 21 = .ok (.if_icmp .ge 42, 3) := by decide +kernel
theorem dX11_isSuspect_24 : decode cX11_isSuspect 24 = .ok (.aload_n 0, 1) := by decide +kernel
theorem dX11_isSuspect_25 : decode cX11_isSuspect 25 = .ok (.iload_n 2, 1) := by decide +kernel
theorem dX11_isSuspect_26 : decode cX11_isSuspect 26 = .ok (.iload 4, 2) := by decide +kernel
theorem dX11_isSuspect_28 : decode cX11_isSuspect 28 = .ok (.invokevirtual 175, 3) := by decide +kernel
theorem dX11_isSuspect_31 : decode cX11_isSuspect 31 = .ok (.ifCond .eq 24, 3) := by decide +kernel
theorem dX11_isSuspect_34 : decode cX11_isSuspect 34 = .ok (.aload_n 0, 1) := by decide +kernel
theorem dX11_isSuspect_35 : decode cX11_isSuspect 35 = .ok (.getfield 13, 3) := by decide +kernel
theorem dX11_isSuspect_38 : decode cX11_isSuspect 38 = .ok (.iload 4, 2) := by decide +kernel
theorem dX11_isSuspect_40 : decode cX11_isSuspect 40 = .ok (.iaload, 1) := by decide +kernel
theorem dX11_isSuspect_41 : decode cX11_isSuspect 41 = .ok (.iload_n 3, 1) := by decide +kernel
theorem dX11_isSuspect_42 : decode cX11_isSuspect 42 = .ok (.if_icmp .le 13, 3) := by decide +kernel
theorem dX11_isSuspect_45 : decode cX11_isSuspect 45 = .ok (.aload_n 0, 1) := by decide +kernel
theorem dX11_isSuspect_46 : decode cX11_isSuspect 46 = .ok (.getfield 13, 3) := by decide +kernel
theorem dX11_isSuspect_49 : decode cX11_isSuspect 49 = .ok (.iload 4, 2) := by decide +kernel
theorem dX11_isSuspect_51 : decode cX11_isSuspect 51 = .ok (.iaload, 1) := by decide +kernel
theorem dX11_isSuspect_52 : decode cX11_isSuspect 52 = .ok (.goto 4, 3) := by decide +kernel
theorem dX11_isSuspect_55 : decode cX11_isSuspect 55 = .ok (.iload_n 3, 1) := by decide +kernel
theorem dX11_isSuspect_56 : decode cX11_isSuspect 56 = .ok (.istore_n 3, 1) := by decide +kernel
theorem dX11_isSuspect_57 : decode cX11_isSuspect 57 = .ok (.iinc 4 1, 3) := by decide +kernel
theorem dX11_isSuspect_60 : decode cX11_isSuspect 60 = .ok (.goto (-43), 3) := by decide +kernel
theorem dX11_isSuspect_63 : decode cX11_isSuspect 63 = .ok (.aload_n 0, 1) := by decide +kernel
theorem dX11_isSuspect_64 : decode cX11_isSuspect 64 = .ok (.getfield 90, 3) := by decide +kernel
theorem dX11_isSuspect_67 : decode cX11_isSuspect 67 = .ok (.iload_n 1, 1) := by decide +kernel
theorem dX11_isSuspect_68 : decode cX11_isSuspect 68 = .ok (.iaload, 1) := by decide +kernel
theorem dX11_isSuspect_69 : decode cX11_isSuspect 69 = .ok (.iload_n 3, 1) := by decide +kernel
theorem dX11_isSuspect_70 : decode cX11_isSuspect 70 = .ok (.if_icmp .le 7, 3) := by decide +kernel
theorem dX11_isSuspect_73 : decode cX11_isSuspect 73 = .ok (.iconst 1, 1) := by decide +kernel
theorem dX11_isSuspect_74 : decode cX11_isSuspect 74 = .ok (.goto 4, 3) := by decide +kernel
theorem dX11_isSuspect_77 : decode cX11_isSuspect 77 = .ok (.iconst 0, 1) := by decide +kernel
theorem dX11_isSuspect_78 : decode cX11_isSuspect 78 = .ok (.ireturn, 1) := by decide +kernel
set_option maxRecDepth 20000 in
theorem ggX11_suspects_X11_isSuspect : GoodIn wsX11_suspects wsX11_isSuspect := goodIn_r _ [6, 7, 8, 9, 10, 11, 12, 13, 5, 14, 15, 16, 17, 18, 19, 20, 21, 22, 23, 24, 25, 26, 27, 28, 29, 30, 31, 32, 33, 34, 35, 36, 37, 38, 39, 40, 41, 42, 43, 44, 45, 46, 47, 48, 49, 50, 51, 52, 53, 54, 55, 56, 57, 58, 59, 60] (by decide +kernel) (by decide +kernel)
set_option maxRecDepth 20000 in
theorem gX11_suspects_X11_isSuspect : GoodIn wsX11_suspects (wsV RX11 228 RX11 yX11_isSuspect wsX11_isSuspect) := goodIn_app (goodIn_of _ (by decide +kernel)) ggX11_suspects_X11_isSuspect
theorem dX11_suspects_0 : decode cX11_suspects 0 = .ok (.iconst 0, 1) := by decide +kernel
theorem dX11_suspects_1 : decode cX11_suspects 1 = .ok (.istore_n 1, 1) := by decide +kernel
theorem dX11_suspects_2 : decode cX11_suspects 2 = .ok (.iconst 0, 1) := by decide +kernel
theorem dX11_suspects_3 : decode cX11_suspects 3 = .ok (.istore_n 2, 1) := by decide +kernel
theorem dX11_suspects_4 : decode cX11_suspects 4 = .ok (.iload_n 2, 1) := by decide +kernel
theorem dX11_suspects_5 : decode cX11_suspects 5 = .ok (.aload_n 0, 1) := by decide +kernel
theorem dX11_suspects_6 : decode cX11_suspects 6 = .ok (.getfield 217, 3) := by decide +kernel
theorem dX11_suspects_9 : decode cX11_suspects 9 = .ok (.if_icmp .ge 25, 3) := by decide +kernel
theorem dX11_suspects_12 : decode cX11_suspects 12 = .ok (.iload_n 1, 1) := by decide +kernel
theorem dX11_suspects_13 : decode cX11_suspects 13 = .ok (.aload_n 0, 1) := by decide +kernel
theorem dX11_suspects_14 : decode cX11_suspects 14 = .ok (.iload_n 2, 1) := by decide +kernel
theorem dX11_suspects_15 : decode cX11_suspects 15 = .ok (.invokevirtual 228, 3) := by decide +kernel
theorem dX11_suspects_18 : decode cX11_suspects 18 = .ok (.ifCond .eq 7, 3) := by decide +kernel
theorem dX11_suspects_21 : decode cX11_suspects 21 = .ok (.iconst 1, 1) := by decide +kernel
theorem dX11_suspects_22 : decode cX11_suspects 22 = .ok (.goto 4, 3) := by decide +kernel
theorem dX11_suspects_25 : decode cX11_suspects 25 = .ok (.iconst 0, 1) := by decide +kernel
theorem dX11_suspects_26 : decode cX11_suspects 26 = .ok (.iadd, 1) := by decide +kernel
theorem dX11_suspects_27 : decode cX11_suspects 27 = .ok (.istore_n 1, 1) := by decide +kernel
theorem dX11_suspects_28 : decode cX11_suspects 28 = .ok (.iinc 2 1, 3) := by decide +kernel
theorem dX11_suspects_31 : decode cX11_suspects 31 = .ok (.goto (-27), 3) := by decide +kernel
theorem dX11_suspects_34 : decode cX11_suspects 34 = .ok (.iload_n 1, 1) := by decide +kernel
theorem dX11_suspects_35 : decode cX11_suspects 35 = .ok (.ireturn, 1) := by decide +kernel
set_option maxRecDepth 20000 in
theorem ggX11_suspect_X11_isSuspect : GoodIn wsX11_suspect wsX11_isSuspect := goodIn_r _ [6, 7, 8, 9, 10, 11, 12, 13, 5, 14, 15, 16, 17, 18, 19, 20, 21, 22, 23, 24, 25, 26, 27, 28, 29, 30, 31, 32, 33, 34, 35, 36, 37, 38, 39, 40, 41, 42, 43, 44, 45, 46, 47, 48, 49, 50, 51, 52, 53, 54, 55, 56, 57, 58, 59, 60] (by decide +kernel) (by decide +kernel)
set_option maxRecDepth 20000 in
theorem gX11_suspect_X11_isSuspect : GoodIn wsX11_suspect (wsV RX11 228 RX11 yX11_isSuspect wsX11_isSuspect) := goodIn_app (goodIn_of _ (by decide +kernel)) ggX11_suspect_X11_isSuspect
theorem dX11_suspect_0 : decode cX11_suspect 0 = .ok (.iconst 0, 1) := by decide +kernel
theorem dX11_suspect_1 : decode cX11_suspect 1 = .ok (.istore_n 2, 1) := by decide +kernel
theorem dX11_suspect_2 : decode cX11_suspect 2 = .ok (.iconst 0, 1) := by decide +kernel
theorem dX11_suspect_3 : decode cX11_suspect 3 = .ok (.istore_n 3, 1) := by decide +kernel
theorem dX11_suspect_4 : decode cX11_suspect 4 = .ok (.iload_n 3, 1) := by decide +kernel
theorem dX11_suspect_5 : decode cX11_suspect 5 = .ok (.aload_n 0, 1) := by decide +kernel
theorem dX11_suspect_6 : decode cX11_suspect 6 = .ok (.getfield 217, 3) := by decide +kernel
theorem dX11_suspect_9 : decode cX11_suspect 9 = .ok (.if_icmp .ge 27, 3) := by decide +kernel
theorem dX11_suspect_12 : decode cX11_suspect 12 = .ok (.aload_n 0, 1) := by decide +kernel
theorem dX11_suspect_13 : decode cX11_suspect 13 = .ok (.iload_n 3, 1) := by decide +kernel
theorem dX11_suspect_14 : decode cX11_suspect 14 = .ok (.invokevirtual 228, 3) := by decide +kernel
theorem dX11_suspect_17 : decode cX11_suspect 17 = .ok (.ifCond .eq 13, 3) := by decide +kernel
theorem dX11_suspect_20 : decode cX11_suspect 20 = .ok (.iload_n 2, 1) := by decide +kernel
theorem dX11_suspect_21 : decode cX11_suspect 21 = .ok (.iload_n 1, 1) := by decide +kernel
theorem dX11_suspect_22 : decode cX11_suspect 22 = .ok (.if_icmp .ne 5, 3) := by decide +kernel
theorem dX11_suspect_25 : decode cX11_suspect 25 = .ok (.iload_n 3, 1) := by decide +kernel
theorem dX11_suspect_26 : decode cX11_suspect 26 = .ok (.ireturn, 1) := by decide +kernel
theorem dX11_suspect_27 : decode cX11_suspect 27 = .ok (.iinc 2 1, 3) := by decide +kernel
theorem dX11_suspect_30 : decode cX11_suspect 30 = .ok (.iinc 3 1, 3) := by decide +kernel
theorem dX11_suspect_33 : decode cX11_suspect 33 = .ok (.goto (-29), 3) := by decide +kernel
theorem dX11_suspect_36 : decode cX11_suspect 36 = .ok (.iconst (-1), 1) := by decide +kernel
theorem dX11_suspect_37 : decode cX11_suspect 37 = .ok (.ireturn, 1) := by decide +kernel
theorem dX11_common_0 : decode cX11_common 0 = .ok (.lload_n 0, 1) := by decide +kernel
theorem dX11_common_1 : decode cX11_common 1 = .ok (.lstore 4, 2) := by decide +kernel
theorem dX11_common_3 : decode cX11_common 3 = .ok (.lload_n 2, 1) := by decide +kernel
theorem dX11_common_4 : decode cX11_common 4 = .ok (.lstore 6, 2) := by decide +kernel
theorem dX11_common_6 : decode cX11_common 6 = .ok (.lload 6, 2) := by decide +kernel
theorem dX11_common_8 : decode cX11_common 8 = .ok (.lconst 0, 1) := by decide +kernel
theorem dX11_common_9 : decode cX11_common 9 = .ok (.lcmp, 1) := by decide +kernel
theorem dX11_common_10 : decode cX11_common 10 = .ok (.ifCond .eq 21, 3) := by decide +kernel
theorem dX11_common_13 : decode cX11_common 13 = .ok (.lload 4, 2) := by decide +kernel
theorem dX11_common_15 : decode cX11_common 15 = .ok (.lload 6, 2) := by decide +kernel
theorem dX11_common_17 : decode cX11_common 17 = .ok (.lrem, 1) := by decide +kernel
theorem dX11_common_18 : decode cX11_common 18 = .ok (.lstore 8, 2) := by decide +kernel
theorem dX11_common_20 : decode cX11_common 20 = .ok (.lload 6, 2) := by decide +kernel
theorem dX11_common_22 : decode cX11_common 22 = .ok (.lstore 4, 2) := by decide +kernel
theorem dX11_common_24 : decode cX11_common 24 = .ok (.lload 8, 2) := by decide +kernel
theorem dX11_common_26 : decode cX11_common 26 = .ok (.lstore 6, 2) := by decide +kernel
theorem dX11_common_28 : decode cX11_common 28 = .ok (.goto (-22), 3) := by decide +kernel
theorem dX11_common_31 : decode cX11_common 31 = .ok (.lload 4, 2) := by decide +kernel
theorem dX11_common_33 : decode cX11_common 33 = .ok (.lreturn, 1) := by decide +kernel
set_option maxRecDepth 20000 in
theorem ggX11_skill_X11_noGang : GoodIn wsX11_skill wsX11_noGang := goodIn_r _ [11, 12, 13, 14, 10, 15, 31, 32, 33, 34, 35, 36, 37, 38, 39, 40, 41, 42, 43, 44, 45, 46, 47, 48, 49, 50, 51, 52, 53, 54, 55, 56, 57, 58, 59, 60, 61, 62, 63, 64, 65, 66, 67, 68, 69] (by decide +kernel) (by decide +kernel)
set_option maxRecDepth 20000 in
theorem gX11_skill_X11_noGang : GoodIn wsX11_skill (wsV RX11 205 RX11 yX11_noGang wsX11_noGang) := goodIn_app (goodIn_of _ (by decide +kernel)) ggX11_skill_X11_noGang
set_option maxRecDepth 20000 in
theorem ggX11_skill_X11_in : GoodIn wsX11_skill wsX11_in := goodIn_r _ [15] (by decide +kernel) (by decide +kernel)
set_option maxRecDepth 20000 in
theorem gX11_skill_X11_in : GoodIn wsX11_skill (va_wsS RX11 111 yX11_in wsX11_in) := goodIn_app (goodIn_of _ (by decide +kernel)) ggX11_skill_X11_in
set_option maxRecDepth 20000 in
theorem ggX11_skill_X11_lost : GoodIn wsX11_skill wsX11_lost := goodIn_r _ [18, 19] (by decide +kernel) (by decide +kernel)
set_option maxRecDepth 20000 in
theorem gX11_skill_X11_lost : GoodIn wsX11_skill (va_wsS RX11 105 yX11_lost wsX11_lost) := goodIn_app (goodIn_of _ (by decide +kernel)) ggX11_skill_X11_lost
set_option maxRecDepth 20000 in
theorem ggX11_skill_X11_worthOf : GoodIn wsX11_skill wsX11_worthOf := goodIn_r _ [23, 24, 25, 26, 27, 31, 32, 33, 34, 35, 36, 37, 38, 39, 40, 41, 42, 43, 44, 45, 46, 47, 48, 49, 50, 51, 52, 53, 54, 55, 56, 57, 58, 59, 60, 61, 62, 63, 64, 65, 66, 67, 68, 69] (by decide +kernel) (by decide +kernel)
set_option maxRecDepth 20000 in
theorem gX11_skill_X11_worthOf : GoodIn wsX11_skill (wsV RX11 222 RX11 yX11_worthOf wsX11_worthOf) := goodIn_app (goodIn_of _ (by decide +kernel)) ggX11_skill_X11_worthOf
set_option maxRecDepth 20000 in
theorem ggX11_skill_X11_common : GoodIn wsX11_skill wsX11_common := goodIn_r _ [30] (by decide +kernel) (by decide +kernel)
set_option maxRecDepth 20000 in
theorem gX11_skill_X11_common : GoodIn wsX11_skill (va_wsS RX11 231 yX11_common wsX11_common) := goodIn_app (goodIn_of _ (by decide +kernel)) ggX11_skill_X11_common
theorem dX11_skill_0 : decode cX11_skill 0 = .ok (.aload_n 0, 1) := by decide +kernel
theorem dX11_skill_1 : decode cX11_skill 1 = .ok (.iload_n 1, 1) := by decide +kernel
theorem dX11_skill_2 : decode cX11_skill 2 = .ok (.invokevirtual 205, 3) := by decide +kernel
theorem dX11_skill_5 : decode cX11_skill 5 = .ok (.ifCond .ne 13, 3) := by decide +kernel
theorem dX11_skill_8 : decode cX11_skill 8 = .ok (.iload_n 2, 1) := by decide +kernel
theorem dX11_skill_9 : decode cX11_skill 9 = .ok (.i2l, 1) := by decide +kernel
theorem dX11_skill_10 : decode cX11_skill 10 = .ok (.lconst 0, 1) := by decide +kernel
theorem dX11_skill_11 : decode cX11_skill 11 = .ok (.lconst 1, 1) := by decide +kernel
theorem dX11_skill_12 : decode cX11_skill 12 = .ok (.invokestatic 111, 3) := by decide +kernel
theorem dX11_skill_15 : decode cX11_skill 15 = .ok (.ifCond .ne 7, 3) := by decide +kernel
theorem dX11_skill_18 : decode cX11_skill 18 = .ok (.invokestatic 105, 3) := by decide +kernel
theorem dX11_skill_21 : decode cX11_skill 21 = .ok (.lreturn, 1) := by decide +kernel
theorem dX11_skill_22 : decode cX11_skill 22 = .ok (.lconst 0, 1) := by decide +kernel
theorem dX11_skill_23 : decode cX11_skill 23 = .ok (.lstore_n 3, 1) := by decide +kernel
theorem dX11_skill_24 : decode cX11_skill 24 = .ok (.lconst 0, 1) := by decide +kernel
theorem dX11_skill_25 : decode cX11_skill 25 = .ok (.lstore 5, 2) := by decide +kernel
theorem dX11_skill_27 : decode cX11_skill 27 = .ok (.iconst 0, 1) := by decide +kernel
theorem dX11_skill_28 : decode cX11_skill 28 = .ok (.istore 7, 2) := by decide +kernel
theorem dX11_skill_30 : decode cX11_skill 30 = .ok (.iload 7, 2) := by decide +kernel
theorem dX11_skill_32 : decode cX11_skill 32 = .ok (.aload_n 0, 1) := by decide +kernel
theorem dX11_skill_33 : decode cX11_skill 33 = .ok (.getfield 188, 3) := by decide +kernel
theorem dX11_skill_36 : decode cX11_skill 36 = .ok (.if_icmp .ge 80, 3) := by decide +kernel
theorem dX11_skill_39 : decode cX11_skill 39 = .ok (.aload_n 0, 1) := by decide +kernel
theorem dX11_skill_40 : decode cX11_skill 40 = .ok (.getfield 69, 3) := by decide +kernel
theorem dX11_skill_43 : decode cX11_skill 43 = .ok (.iload 7, 2) := by decide +kernel
theorem dX11_skill_45 : decode cX11_skill 45 = .ok (.laload, 1) := by decide +kernel
theorem dX11_skill_46 : decode cX11_skill 46 = .ok (.aload_n 0, 1) := by decide +kernel
theorem dX11_skill_47 : decode cX11_skill 47 = .ok (.getfield 72, 3) := by decide +kernel
theorem dX11_skill_50 : decode cX11_skill 50 = .ok (.iload 7, 2) := by decide +kernel
theorem dX11_skill_52 : decode cX11_skill 52 = .ok (.laload, 1) := by decide +kernel
theorem dX11_skill_53 : decode cX11_skill 53 = .ok (.ladd, 1) := by decide +kernel
theorem dX11_skill_54 : decode cX11_skill 54 = .ok (.lstore 8, 2) := by decide +kernel
theorem dX11_skill_56 : decode cX11_skill 56 = .ok (.aload_n 0, 1) := by decide +kernel
theorem dX11_skill_57 : decode cX11_skill 57 = .ok (.getfield 56, 3) := by decide +kernel
theorem dX11_skill_60 : decode cX11_skill 60 = .ok (.iload 7, 2) := by decide +kernel
theorem dX11_skill_62 : decode cX11_skill 62 = .ok (.iaload, 1) := by decide +kernel
theorem dX11_skill_63 : decode cX11_skill 63 = .ok (.iload_n 1, 1) := by decide +kernel
theorem dX11_skill_64 : decode cX11_skill 64 = .ok (.if_icmp .ne 46, 3) := by decide +kernel
theorem dX11_skill_67 : decode cX11_skill 67 = .ok (.aload_n 0, 1) := by decide +kernel
theorem dX11_skill_68 : decode cX11_skill 68 = .ok (.getfield 65, 3) := by decide +kernel
theorem dX11_skill_71 : decode cX11_skill 71 = .ok (.iload 7, 2) := by decide +kernel
theorem dX11_skill_73 : decode cX11_skill 73 = .ok (.baload, 1) := by decide +kernel
theorem dX11_skill_74 : decode cX11_skill 74 = .ok (.ifCond .eq 36, 3) := by decide +kernel
theorem dX11_skill_77 : decode cX11_skill 77 = .ok (.lload 8, 2) := by decide +kernel
theorem dX11_skill_79 : decode cX11_skill 79 = .ok (.lconst 0, 1) := by decide +kernel
theorem dX11_skill_80 : decode cX11_skill 80 = .ok (.lcmp, 1) := by decide +kernel
theorem dX11_skill_81 : decode cX11_skill 81 = .ok (.ifCond .le 29, 3) := by decide +kernel
theorem dX11_skill_84 : decode cX11_skill 84 = .ok (.lload_n 3, 1) := by decide +kernel
theorem dX11_skill_85 : decode cX11_skill 85 = .ok (.lload 8, 2) := by decide +kernel
theorem dX11_skill_87 : decode cX11_skill 87 = .ok (.ldc2_w 151, 3) := by decide +kernel
theorem dX11_skill_90 : decode cX11_skill 90 = .ok (.lmul, 1) := by decide +kernel
theorem dX11_skill_91 : decode cX11_skill 91 = .ok (.aload_n 0, 1) := by decide +kernel
theorem dX11_skill_92 : decode cX11_skill 92 = .ok (.iload 7, 2) := by decide +kernel
theorem dX11_skill_94 : decode cX11_skill 94 = .ok (.invokevirtual 222, 3) := by decide +kernel
theorem dX11_skill_97 : decode cX11_skill 97 = .ok (.lmul, 1) := by decide +kernel
theorem dX11_skill_98 : decode cX11_skill 98 = .ok (.ladd, 1) := by decide +kernel
theorem dX11_skill_99 : decode cX11_skill 99 = .ok (.lstore_n 3, 1) := by decide +kernel
theorem dX11_skill_100 : decode cX11_skill 100 = .ok (.lload 5, 2) := by decide +kernel
theorem dX11_skill_102 : decode cX11_skill 102 = .ok (.lload 8, 2) := by decide +kernel
theorem dX11_skill_104 : decode cX11_skill 104 = .ok (.lload 8, 2) := by decide +kernel
theorem dX11_skill_106 : decode cX11_skill 106 = .ok (.lmul, 1) := by decide +kernel
theorem dX11_skill_107 : decode cX11_skill 107 = .ok (.ladd, 1) := by decide +kernel
theorem dX11_skill_108 : decode cX11_skill 108 = .ok (.lstore 5, 2) := by decide +kernel
theorem dX11_skill_110 : decode cX11_skill 110 = .ok (.iinc 7 1, 3) := by decide +kernel
theorem dX11_skill_113 : decode cX11_skill 113 = .ok (.goto (-83), 3) := by decide +kernel
theorem dX11_skill_116 : decode cX11_skill 116 = .ok (.lload_n 3, 1) := by decide +kernel
theorem dX11_skill_117 : decode cX11_skill 117 = .ok (.lconst 0, 1) := by decide +kernel
theorem dX11_skill_118 : decode cX11_skill 118 = .ok (.lcmp, 1) := by decide +kernel
theorem dX11_skill_119 : decode cX11_skill 119 = .ok (.ifCond .ne 6, 3) := by decide +kernel
theorem dX11_skill_122 : decode cX11_skill 122 = .ok (.iload_n 2, 1) := by decide +kernel
theorem dX11_skill_123 : decode cX11_skill 123 = .ok (.i2l, 1) := by decide +kernel
theorem dX11_skill_124 : decode cX11_skill 124 = .ok (.lreturn, 1) := by decide +kernel
theorem dX11_skill_125 : decode cX11_skill 125 = .ok (.lload_n 3, 1) := by decide +kernel
theorem dX11_skill_126 : decode cX11_skill 126 = .ok (.lload 5, 2) := by decide +kernel
theorem dX11_skill_128 : decode cX11_skill 128 = .ok (.invokestatic 231, 3) := by decide +kernel
theorem dX11_skill_131 : decode cX11_skill 131 = .ok (.lstore 7, 2) := by decide +kernel
theorem dX11_skill_133 : decode cX11_skill 133 = .ok (.iload_n 2, 1) := by decide +kernel
theorem dX11_skill_134 : decode cX11_skill 134 = .ok (.ifCond .ne 10, 3) := by decide +kernel
theorem dX11_skill_137 : decode cX11_skill 137 = .ok (.lload_n 3, 1) := by decide +kernel
theorem dX11_skill_138 : decode cX11_skill 138 = .ok (.lload 7, 2) := by decide +kernel
theorem dX11_skill_140 : decode cX11_skill 140 = .ok (.ldiv, 1) := by decide +kernel
theorem dX11_skill_141 : decode cX11_skill 141 = .ok (.goto 8, 3) := by decide +kernel
theorem dX11_skill_144 : decode cX11_skill 144 = .ok (.lload 5, 2) := by decide +kernel
theorem dX11_skill_146 : decode cX11_skill 146 = .ok (.lload 7, 2) := by decide +kernel
theorem dX11_skill_148 : decode cX11_skill 148 = .ok (.ldiv, 1) := by decide +kernel
theorem dX11_skill_149 : decode cX11_skill 149 = .ok (.lreturn, 1) := by decide +kernel
theorem dX11_traced_0 : decode cX11_traced 0 = .ok (.aload_n 0, 1) := by decide +kernel
theorem dX11_traced_1 : decode cX11_traced 1 = .ok (.bipush 31, 2) := by decide +kernel
theorem dX11_traced_3 : decode cX11_traced 3 = .ok (.aload_n 0, 1) := by decide +kernel
theorem dX11_traced_4 : decode cX11_traced 4 = .ok (.getfield 235, 3) := by decide +kernel
theorem dX11_traced_7 : decode cX11_traced 7 = .ok (.imul, 1) := by decide +kernel
theorem dX11_traced_8 : decode cX11_traced 8 = .ok (.iload_n 1, 1) := by decide +kernel
theorem dX11_traced_9 : decode cX11_traced 9 = .ok (.iadd, 1) := by decide +kernel
theorem dX11_traced_10 : decode cX11_traced 10 = .ok (.putfield 235, 3) := by decide +kernel
theorem dX11_traced_13 : decode cX11_traced 13 = .ok (.return_, 1) := by decide +kernel
theorem dX11_takesBy_0 : decode cX11_takesBy 0 = .ok (.iconst 0, 1) := by decide +kernel
theorem dX11_takesBy_1 : decode cX11_takesBy 1 = .ok (.istore_n 2, 1) := by decide +kernel
theorem dX11_takesBy_2 : decode cX11_takesBy 2 = .ok (.iconst 0, 1) := by decide +kernel
theorem dX11_takesBy_3 : decode cX11_takesBy 3 = .ok (.istore_n 3, 1) := by decide +kernel
theorem dX11_takesBy_4 : decode cX11_takesBy 4 = .ok (.iload_n 3, 1) := by decide +kernel
theorem dX11_takesBy_5 : decode cX11_takesBy 5 = .ok (.aload_n 0, 1) := by decide +kernel
theorem dX11_takesBy_6 : decode cX11_takesBy 6 = .ok (.getfield 188, 3) := by decide +kernel
theorem dX11_takesBy_9 : decode cX11_takesBy 9 = .ok (.if_icmp .ge 27, 3) := by decide +kernel
theorem dX11_takesBy_12 : decode cX11_takesBy 12 = .ok (.iload_n 2, 1) := by decide +kernel
theorem dX11_takesBy_13 : decode cX11_takesBy 13 = .ok (.aload_n 0, 1) := by decide +kernel
theorem dX11_takesBy_14 : decode cX11_takesBy 14 = .ok (.getfield 56, 3) := by decide +kernel
theorem dX11_takesBy_17 : decode cX11_takesBy 17 = .ok (.iload_n 3, 1) := by decide +kernel
theorem dX11_takesBy_18 : decode cX11_takesBy 18 = .ok (.iaload, 1) := by decide +kernel
theorem dX11_takesBy_19 : decode cX11_takesBy 19 = .ok (.iload_n 1, 1) := by decide +kernel
theorem dX11_takesBy_20 : decode cX11_takesBy 20 = .ok (.if_icmp .ne 7, 3) := by decide +kernel
theorem dX11_takesBy_23 : decode cX11_takesBy 23 = .ok (.iconst 1, 1) := by decide +kernel
theorem dX11_takesBy_24 : decode cX11_takesBy 24 = .ok (.goto 4, 3) := by decide +kernel
theorem dX11_takesBy_27 : decode cX11_takesBy 27 = .ok (.iconst 0, 1) := by decide +kernel
theorem dX11_takesBy_28 : decode cX11_takesBy 28 = .ok (.iadd, 1) := by decide +kernel
theorem dX11_takesBy_29 : decode cX11_takesBy 29 = .ok (.istore_n 2, 1) := by decide +kernel
theorem dX11_takesBy_30 : decode cX11_takesBy 30 = .ok (.iinc 3 1, 3) := by decide +kernel
theorem dX11_takesBy_33 : decode cX11_takesBy 33 = .ok (.goto (-29), 3) := by decide +kernel
theorem dX11_takesBy_36 : decode cX11_takesBy 36 = .ok (.iload_n 2, 1) := by decide +kernel
theorem dX11_takesBy_37 : decode cX11_takesBy 37 = .ok (.ireturn, 1) := by decide +kernel
set_option maxRecDepth 20000 in
theorem ggX11_tell_X11_noGang : GoodIn wsX11_tell wsX11_noGang := goodIn_r _ [6, 7, 8, 9, 5, 10, 22, 23, 24, 25, 26, 27, 28, 29, 30, 31, 32, 33, 34, 35, 36, 37, 38, 39, 40, 41, 42, 43, 44, 45, 46, 47, 48, 49, 50, 51, 52, 53, 54, 55, 56, 57, 58, 59, 60] (by decide +kernel) (by decide +kernel)
set_option maxRecDepth 20000 in
theorem gX11_tell_X11_noGang : GoodIn wsX11_tell (wsV RX11 205 RX11 yX11_noGang wsX11_noGang) := goodIn_app (goodIn_of _ (by decide +kernel)) ggX11_tell_X11_noGang
set_option maxRecDepth 20000 in
theorem ggX11_tell_X11_traced : GoodIn wsX11_tell wsX11_traced := goodIn_r _ [14, 15, 22, 23, 24, 25, 26, 27, 28, 29, 30, 31, 32, 33, 34, 35, 36, 37, 38, 39, 40, 41, 42, 43, 44, 45, 46, 47, 48, 49, 50, 51, 52, 53, 54, 55, 56, 57, 58, 59, 60] (by decide +kernel) (by decide +kernel)
set_option maxRecDepth 20000 in
theorem gX11_tell_X11_traced : GoodIn wsX11_tell (wsV RX11 238 RX11 yX11_traced wsX11_traced) := goodIn_app (goodIn_of _ (by decide +kernel)) ggX11_tell_X11_traced
set_option maxRecDepth 20000 in
theorem ggX11_tell_X11_takesBy : GoodIn wsX11_tell wsX11_takesBy := goodIn_r _ [19, 20, 21, 22, 23, 24, 25, 26, 27, 28, 29, 30, 31, 32, 33, 34, 35, 36, 37, 38, 39, 40, 41, 42, 43, 44, 45, 46, 47, 48, 49, 50, 51, 52, 53, 54, 55, 56, 57, 58, 59, 60] (by decide +kernel) (by decide +kernel)
set_option maxRecDepth 20000 in
theorem gX11_tell_X11_takesBy : GoodIn wsX11_tell (wsV RX11 242 RX11 yX11_takesBy wsX11_takesBy) := goodIn_app (goodIn_of _ (by decide +kernel)) ggX11_tell_X11_takesBy
theorem dX11_tell_0 : decode cX11_tell 0 = .ok (.aload_n 0, 1) := by decide +kernel
theorem dX11_tell_1 : decode cX11_tell 1 = .ok (.iload_n 1, 1) := by decide +kernel
theorem dX11_tell_2 : decode cX11_tell 2 = .ok (.invokevirtual 205, 3) := by decide +kernel
theorem dX11_tell_5 : decode cX11_tell 5 = .ok (.ifCond .eq 5, 3) := by decide +kernel
theorem dX11_tell_8 : decode cX11_tell 8 = .ok (.iconst (-1), 1) := by decide +kernel
theorem dX11_tell_9 : decode cX11_tell 9 = .ok (.ireturn, 1) := by decide +kernel
theorem dX11_tell_10 : decode cX11_tell 10 = .ok (.aload_n 0, 1) := by decide +kernel
theorem dX11_tell_11 : decode cX11_tell 11 = .ok (.getfield 49, 3) := by decide +kernel
theorem dX11_tell_14 : decode cX11_tell 14 = .ok (.iload_n 1, 1) := by decide +kernel
theorem dX11_tell_15 : decode cX11_tell 15 = .ok (.iaload, 1) := by decide +kernel
theorem dX11_tell_16 : decode cX11_tell 16 = .ok (.ifCond .le 22, 3) := by decide +kernel
theorem dX11_tell_19 : decode cX11_tell 19 = .ok (.aload_n 0, 1) := by decide +kernel
theorem dX11_tell_20 : decode cX11_tell 20 = .ok (.aload_n 0, 1) := by decide +kernel
theorem dX11_tell_21 : decode cX11_tell 21 = .ok (.getfield 49, 3) := by decide +kernel
theorem dX11_tell_24 : decode cX11_tell 24 = .ok (.iload_n 1, 1) := by decide +kernel
theorem dX11_tell_25 : decode cX11_tell 25 = .ok (.iaload, 1) := by decide +kernel
theorem dX11_tell_26 : decode cX11_tell 26 = .ok (.iconst 1, 1) := by decide +kernel
theorem dX11_tell_27 : decode cX11_tell 27 = .ok (.if_icmp .ne 7, 3) := by decide +kernel
theorem dX11_tell_30 : decode cX11_tell 30 = .ok (.iconst 2, 1) := by decide +kernel
theorem dX11_tell_31 : decode cX11_tell 31 = .ok (.goto 4, 3) := by decide +kernel
theorem dX11_tell_34 : decode cX11_tell 34 = .ok (.iconst 3, 1) := by decide +kernel
theorem dX11_tell_35 : decode cX11_tell 35 = .ok (.invokevirtual 238, 3) := by decide +kernel
theorem dX11_tell_38 : decode cX11_tell 38 = .ok (.aload_n 0, 1) := by decide +kernel
theorem dX11_tell_39 : decode cX11_tell 39 = .ok (.iconst 1, 1) := by decide +kernel
theorem dX11_tell_40 : decode cX11_tell 40 = .ok (.invokevirtual 238, 3) := by decide +kernel
theorem dX11_tell_43 : decode cX11_tell 43 = .ok (.aload_n 0, 1) := by decide +kernel
theorem dX11_tell_44 : decode cX11_tell 44 = .ok (.getfield 49, 3) := by decide +kernel
theorem dX11_tell_47 : decode cX11_tell 47 = .ok (.iload_n 1, 1) := by decide +kernel
theorem dX11_tell_48 : decode cX11_tell 48 = .ok (.iaload, 1) := by decide +kernel
theorem dX11_tell_49 : decode cX11_tell 49 = .ok (.ifCond .ne 11, 3) := by decide +kernel
theorem dX11_tell_52 : decode cX11_tell 52 = .ok (.aload_n 0, 1) := by decide +kernel
theorem dX11_tell_53 : decode cX11_tell 53 = .ok (.iload_n 1, 1) := by decide +kernel
theorem dX11_tell_54 : decode cX11_tell 54 = .ok (.invokevirtual 242, 3) := by decide +kernel
theorem dX11_tell_57 : decode cX11_tell 57 = .ok (.goto 31, 3) := by decide +kernel
theorem dX11_tell_60 : decode cX11_tell 60 = .ok (.aload_n 0, 1) := by decide +kernel
theorem dX11_tell_61 : decode cX11_tell 61 = .ok (.getfield 49, 3) := by decide +kernel
theorem dX11_tell_64 : decode cX11_tell 64 = .ok (.iload_n 1, 1) := by decide +kernel
theorem dX11_tell_65 : decode cX11_tell 65 = .ok (.iaload, 1) := by decide +kernel
theorem dX11_tell_66 : decode cX11_tell 66 = .ok (.iconst 1, 1) := by decide +kernel
theorem dX11_tell_67 : decode cX11_tell 67 = .ok (.if_icmp .ne 14, 3) := by decide +kernel
theorem dX11_tell_70 : decode cX11_tell 70 = .ok (.bipush 10, 2) := by decide +kernel
theorem dX11_tell_72 : decode cX11_tell 72 = .ok (.aload_n 0, 1) := by decide +kernel
theorem dX11_tell_73 : decode cX11_tell 73 = .ok (.iload_n 1, 1) := by decide +kernel
theorem dX11_tell_74 : decode cX11_tell 74 = .ok (.invokevirtual 242, 3) := by decide +kernel
theorem dX11_tell_77 : decode cX11_tell 77 = .ok (.iadd, 1) := by decide +kernel
theorem dX11_tell_78 : decode cX11_tell 78 = .ok (.goto 10, 3) := by decide +kernel
theorem dX11_tell_81 : decode cX11_tell 81 = .ok (.iconst 3, 1) := by decide +kernel
theorem dX11_tell_82 : decode cX11_tell 82 = .ok (.aload_n 0, 1) := by decide +kernel
theorem dX11_tell_83 : decode cX11_tell 83 = .ok (.iload_n 1, 1) := by decide +kernel
theorem dX11_tell_84 : decode cX11_tell 84 = .ok (.invokevirtual 242, 3) := by decide +kernel
theorem dX11_tell_87 : decode cX11_tell 87 = .ok (.imul, 1) := by decide +kernel
theorem dX11_tell_88 : decode cX11_tell 88 = .ok (.ireturn, 1) := by decide +kernel
set_option maxRecDepth 20000 in
theorem ggX11_greet_X11_noGang : GoodIn wsX11_greet wsX11_noGang := goodIn_r _ [6, 7, 8, 9, 5, 10, 16, 17, 18, 19, 20, 21, 22, 23, 24, 25, 26, 27, 28, 29, 30, 31, 32, 33, 34, 35, 36, 37, 38, 39, 40, 41, 42, 43, 44, 45, 46, 47, 48, 49, 50, 51, 52, 53, 54] (by decide +kernel) (by decide +kernel)
set_option maxRecDepth 20000 in
theorem gX11_greet_X11_noGang : GoodIn wsX11_greet (wsV RX11 205 RX11 yX11_noGang wsX11_noGang) := goodIn_app (goodIn_of _ (by decide +kernel)) ggX11_greet_X11_noGang
set_option maxRecDepth 20000 in
theorem ggX11_greet_X11_traced : GoodIn wsX11_greet wsX11_traced := goodIn_r _ [14, 15, 16, 17, 18, 19, 20, 21, 22, 23, 24, 25, 26, 27, 28, 29, 30, 31, 32, 33, 34, 35, 36, 37, 38, 39, 40, 41, 42, 43, 44, 45, 46, 47, 48, 49, 50, 51, 52, 53, 54] (by decide +kernel) (by decide +kernel)
set_option maxRecDepth 20000 in
theorem gX11_greet_X11_traced : GoodIn wsX11_greet (wsV RX11 238 RX11 yX11_traced wsX11_traced) := goodIn_app (goodIn_of _ (by decide +kernel)) ggX11_greet_X11_traced
theorem dX11_greet_0 : decode cX11_greet 0 = .ok (.aload_n 0, 1) := by decide +kernel
theorem dX11_greet_1 : decode cX11_greet 1 = .ok (.iload_n 1, 1) := by decide +kernel
theorem dX11_greet_2 : decode cX11_greet 2 = .ok (.invokevirtual 205, 3) := by decide +kernel
theorem dX11_greet_5 : decode cX11_greet 5 = .ok (.ifCond .eq 5, 3) := by decide +kernel
theorem dX11_greet_8 : decode cX11_greet 8 = .ok (.iconst (-1), 1) := by decide +kernel
theorem dX11_greet_9 : decode cX11_greet 9 = .ok (.ireturn, 1) := by decide +kernel
theorem dX11_greet_10 : decode cX11_greet 10 = .ok (.aload_n 0, 1) := by decide +kernel
theorem dX11_greet_11 : decode cX11_greet 11 = .ok (.getfield 49, 3) := by decide +kernel
theorem dX11_greet_14 : decode cX11_greet 14 = .ok (.iload_n 1, 1) := by decide +kernel
theorem dX11_greet_15 : decode cX11_greet 15 = .ok (.iaload, 1) := by decide +kernel
theorem dX11_greet_16 : decode cX11_greet 16 = .ok (.ifCond .ne 13, 3) := by decide +kernel
theorem dX11_greet_19 : decode cX11_greet 19 = .ok (.aload_n 0, 1) := by decide +kernel
theorem dX11_greet_20 : decode cX11_greet 20 = .ok (.iconst 4, 1) := by decide +kernel
theorem dX11_greet_21 : decode cX11_greet 21 = .ok (.invokevirtual 238, 3) := by decide +kernel
theorem dX11_greet_24 : decode cX11_greet 24 = .ok (.bipush 10, 2) := by decide +kernel
theorem dX11_greet_26 : decode cX11_greet 26 = .ok (.iload_n 1, 1) := by decide +kernel
theorem dX11_greet_27 : decode cX11_greet 27 = .ok (.imul, 1) := by decide +kernel
theorem dX11_greet_28 : decode cX11_greet 28 = .ok (.ireturn, 1) := by decide +kernel
theorem dX11_greet_29 : decode cX11_greet 29 = .ok (.aload_n 0, 1) := by decide +kernel
theorem dX11_greet_30 : decode cX11_greet 30 = .ok (.getfield 49, 3) := by decide +kernel
theorem dX11_greet_33 : decode cX11_greet 33 = .ok (.iload_n 1, 1) := by decide +kernel
theorem dX11_greet_34 : decode cX11_greet 34 = .ok (.iaload, 1) := by decide +kernel
theorem dX11_greet_35 : decode cX11_greet 35 = .ok (.iconst 2, 1) := by decide +kernel
theorem dX11_greet_36 : decode cX11_greet 36 = .ok (.if_icmp .ne 9, 3) := by decide +kernel
theorem dX11_greet_39 : decode cX11_greet 39 = .ok (.aload_n 0, 1) := by decide +kernel
theorem dX11_greet_40 : decode cX11_greet 40 = .ok (.bipush 6, 2) := by decide +kernel
theorem dX11_greet_42 : decode cX11_greet 42 = .ok (.invokevirtual 238, 3) := by decide +kernel
theorem dX11_greet_45 : decode cX11_greet 45 = .ok (.aload_n 0, 1) := by decide +kernel
theorem dX11_greet_46 : decode cX11_greet 46 = .ok (.iconst 5, 1) := by decide +kernel
theorem dX11_greet_47 : decode cX11_greet 47 = .ok (.invokevirtual 238, 3) := by decide +kernel
theorem dX11_greet_50 : decode cX11_greet 50 = .ok (.aload_n 0, 1) := by decide +kernel
theorem dX11_greet_51 : decode cX11_greet 51 = .ok (.getfield 49, 3) := by decide +kernel
theorem dX11_greet_54 : decode cX11_greet 54 = .ok (.iload_n 1, 1) := by decide +kernel
theorem dX11_greet_55 : decode cX11_greet 55 = .ok (.iaload, 1) := by decide +kernel
theorem dX11_greet_56 : decode cX11_greet 56 = .ok (.iconst 2, 1) := by decide +kernel
theorem dX11_greet_57 : decode cX11_greet 57 = .ok (.if_icmp .ne 8, 3) := by decide +kernel
theorem dX11_greet_60 : decode cX11_greet 60 = .ok (.bipush 7, 2) := by decide +kernel
theorem dX11_greet_62 : decode cX11_greet 62 = .ok (.goto 5, 3) := by decide +kernel
theorem dX11_greet_65 : decode cX11_greet 65 = .ok (.bipush 6, 2) := by decide +kernel
theorem dX11_greet_67 : decode cX11_greet 67 = .ok (.ireturn, 1) := by decide +kernel
set_option maxRecDepth 20000 in
theorem ggX11_as_X11_noGang : GoodIn wsX11_as wsX11_noGang := goodIn_r _ [7, 8, 9, 10, 6, 11, 21, 22, 23, 24, 25, 26, 27, 28, 29, 30, 31, 32, 33, 34, 35, 36, 37, 38, 39, 40, 41, 42, 43, 44, 45, 46, 47, 48, 49, 50, 51, 52, 53, 54, 55, 56, 57, 58, 59] (by decide +kernel) (by decide +kernel)
set_option maxRecDepth 20000 in
theorem gX11_as_X11_noGang : GoodIn wsX11_as (wsV RX11 205 RX11 yX11_noGang wsX11_noGang) := goodIn_app (goodIn_of _ (by decide +kernel)) ggX11_as_X11_noGang
set_option maxRecDepth 20000 in
theorem ggX11_as_X11_refused : GoodIn wsX11_as wsX11_refused := goodIn_r _ [15, 16, 21, 22, 23, 24, 25, 26, 27, 28, 29, 30, 31, 32, 33, 34, 35, 36, 37, 38, 39, 40, 41, 42, 43, 44, 45, 46, 47, 48, 49, 50, 51, 52, 53, 54, 55, 56, 57, 58, 59] (by decide +kernel) (by decide +kernel)
set_option maxRecDepth 20000 in
theorem gX11_as_X11_refused : GoodIn wsX11_as (wsV RX11 148 RX11 yX11_refused wsX11_refused) := goodIn_app (goodIn_of _ (by decide +kernel)) ggX11_as_X11_refused
set_option maxRecDepth 20000 in
theorem ggX11_as_X11_in : GoodIn wsX11_as wsX11_in := goodIn_r _ [11] (by decide +kernel) (by decide +kernel)
set_option maxRecDepth 20000 in
theorem gX11_as_X11_in : GoodIn wsX11_as (va_wsS RX11 111 yX11_in wsX11_in) := goodIn_app (goodIn_of _ (by decide +kernel)) ggX11_as_X11_in
set_option maxRecDepth 20000 in
theorem ggX11_as_X11_failed : GoodIn wsX11_as wsX11_failed := goodIn_r _ [20, 16, 21, 22, 23, 24, 25, 26, 27, 28, 29, 30, 31, 32, 33, 34, 35, 36, 37, 38, 39, 40, 41, 42, 43, 44, 45, 46, 47, 48, 49, 50, 51, 52, 53, 54, 55, 56, 57, 58, 59] (by decide +kernel) (by decide +kernel)
set_option maxRecDepth 20000 in
theorem gX11_as_X11_failed : GoodIn wsX11_as (wsV RX11 153 RX11 yX11_failed wsX11_failed) := goodIn_app (goodIn_of _ (by decide +kernel)) ggX11_as_X11_failed
theorem dX11_as_0 : decode cX11_as 0 = .ok (.aload_n 0, 1) := by decide +kernel
theorem dX11_as_1 : decode cX11_as 1 = .ok (.iload_n 1, 1) := by decide +kernel
theorem dX11_as_2 : decode cX11_as 2 = .ok (.invokevirtual 205, 3) := by decide +kernel
theorem dX11_as_5 : decode cX11_as 5 = .ok (.ifCond .eq 9, 3) := by decide +kernel
theorem dX11_as_8 : decode cX11_as 8 = .ok (.aload_n 0, 1) := by decide +kernel
theorem dX11_as_9 : decode cX11_as 9 = .ok (.iconst (-1), 1) := by decide +kernel
theorem dX11_as_10 : decode cX11_as 10 = .ok (.invokevirtual 148, 3) := by decide +kernel
theorem dX11_as_13 : decode cX11_as 13 = .ok (.ireturn, 1) := by decide +kernel
theorem dX11_as_14 : decode cX11_as 14 = .ok (.iload_n 2, 1) := by decide +kernel
theorem dX11_as_15 : decode cX11_as 15 = .ok (.i2l, 1) := by decide +kernel
theorem dX11_as_16 : decode cX11_as 16 = .ok (.lconst 0, 1) := by decide +kernel
theorem dX11_as_17 : decode cX11_as 17 = .ok (.ldc2_w 151, 3) := by decide +kernel
theorem dX11_as_20 : decode cX11_as 20 = .ok (.invokestatic 111, 3) := by decide +kernel
theorem dX11_as_23 : decode cX11_as 23 = .ok (.ifCond .ne 10, 3) := by decide +kernel
theorem dX11_as_26 : decode cX11_as 26 = .ok (.aload_n 0, 1) := by decide +kernel
theorem dX11_as_27 : decode cX11_as 27 = .ok (.bipush (-2), 2) := by decide +kernel
theorem dX11_as_29 : decode cX11_as 29 = .ok (.invokevirtual 148, 3) := by decide +kernel
theorem dX11_as_32 : decode cX11_as 32 = .ok (.ireturn, 1) := by decide +kernel
theorem dX11_as_33 : decode cX11_as 33 = .ok (.aload_n 0, 1) := by decide +kernel
theorem dX11_as_34 : decode cX11_as 34 = .ok (.getfield 49, 3) := by decide +kernel
theorem dX11_as_37 : decode cX11_as 37 = .ok (.iload_n 1, 1) := by decide +kernel
theorem dX11_as_38 : decode cX11_as 38 = .ok (.iaload, 1) := by decide +kernel
theorem dX11_as_39 : decode cX11_as 39 = .ok (.iload_n 2, 1) := by decide +kernel
theorem dX11_as_40 : decode cX11_as 40 = .ok (.if_icmp .lt 11, 3) := by decide +kernel
theorem dX11_as_43 : decode cX11_as 43 = .ok (.aload_n 0, 1) := by decide +kernel
theorem dX11_as_44 : decode cX11_as 44 = .ok (.iconst 1, 1) := by decide +kernel
theorem dX11_as_45 : decode cX11_as 45 = .ok (.invokevirtual 148, 3) := by decide +kernel
theorem dX11_as_48 : decode cX11_as 48 = .ok (.goto 8, 3) := by decide +kernel
theorem dX11_as_51 : decode cX11_as 51 = .ok (.aload_n 0, 1) := by decide +kernel
theorem dX11_as_52 : decode cX11_as 52 = .ok (.iconst 2, 1) := by decide +kernel
theorem dX11_as_53 : decode cX11_as 53 = .ok (.invokevirtual 153, 3) := by decide +kernel
theorem dX11_as_56 : decode cX11_as 56 = .ok (.ireturn, 1) := by decide +kernel
theorem dX11_trace_0 : decode cX11_trace 0 = .ok (.aload_n 0, 1) := by decide +kernel
theorem dX11_trace_1 : decode cX11_trace 1 = .ok (.getfield 235, 3) := by decide +kernel
theorem dX11_trace_4 : decode cX11_trace 4 = .ok (.ireturn, 1) := by decide +kernel
theorem dX11_fault_0 : decode cX11_fault 0 = .ok (.aload_n 0, 1) := by decide +kernel
theorem dX11_fault_1 : decode cX11_fault 1 = .ok (.getfield 102, 3) := by decide +kernel
theorem dX11_fault_4 : decode cX11_fault 4 = .ok (.ireturn, 1) := by decide +kernel
theorem dX11_told_0 : decode cX11_told 0 = .ok (.iload_n 1, 1) := by decide +kernel
theorem dX11_told_1 : decode cX11_told 1 = .ok (.tableswitch 111 0 7 #[47, 52, 57, 62, 67, 72, 89, 94], 47) := by decide +kernel
theorem dX11_told_48 : decode cX11_told 48 = .ok (.aload_n 0, 1) := by decide +kernel
theorem dX11_told_49 : decode cX11_told 49 = .ok (.getfield 170, 3) := by decide +kernel
theorem dX11_told_52 : decode cX11_told 52 = .ok (.ireturn, 1) := by decide +kernel
theorem dX11_told_53 : decode cX11_told 53 = .ok (.aload_n 0, 1) := by decide +kernel
theorem dX11_told_54 : decode cX11_told 54 = .ok (.getfield 185, 3) := by decide +kernel
theorem dX11_told_57 : decode cX11_told 57 = .ok (.ireturn, 1) := by decide +kernel
theorem dX11_told_58 : decode cX11_told 58 = .ok (.aload_n 0, 1) := by decide +kernel
theorem dX11_told_59 : decode cX11_told 59 = .ok (.getfield 188, 3) := by decide +kernel
theorem dX11_told_62 : decode cX11_told 62 = .ok (.ireturn, 1) := by decide +kernel
theorem dX11_told_63 : decode cX11_told 63 = .ok (.aload_n 0, 1) := by decide +kernel
theorem dX11_told_64 : decode cX11_told 64 = .ok (.getfield 217, 3) := by decide +kernel
theorem dX11_told_67 : decode cX11_told 67 = .ok (.ireturn, 1) := by decide +kernel
theorem dX11_told_68 : decode cX11_told 68 = .ok (.aload_n 0, 1) := by decide +kernel
theorem dX11_told_69 : decode cX11_told 69 = .ok (.getfield 93, 3) := by decide +kernel
theorem dX11_told_72 : decode cX11_told 72 = .ok (.ireturn, 1) := by decide +kernel
theorem dX11_told_73 : decode cX11_told 73 = .ok (.aload_n 0, 1) := by decide +kernel
theorem dX11_told_74 : decode cX11_told 74 = .ok (.getfield 97, 3) := by decide +kernel
theorem dX11_told_77 : decode cX11_told 77 = .ok (.ifCond .ge 8, 3) := by decide +kernel
theorem dX11_told_80 : decode cX11_told 80 = .ok (.bipush (-9), 2) := by decide +kernel
theorem dX11_told_82 : decode cX11_told 82 = .ok (.goto 7, 3) := by decide +kernel
theorem dX11_told_85 : decode cX11_told 85 = .ok (.aload_n 0, 1) := by decide +kernel
theorem dX11_told_86 : decode cX11_told 86 = .ok (.getfield 199, 3) := by decide +kernel
theorem dX11_told_89 : decode cX11_told 89 = .ok (.ireturn, 1) := by decide +kernel
theorem dX11_told_90 : decode cX11_told 90 = .ok (.aload_n 0, 1) := by decide +kernel
theorem dX11_told_91 : decode cX11_told 91 = .ok (.getfield 97, 3) := by decide +kernel
theorem dX11_told_94 : decode cX11_told 94 = .ok (.ireturn, 1) := by decide +kernel
theorem dX11_told_95 : decode cX11_told 95 = .ok (.aload_n 0, 1) := by decide +kernel
theorem dX11_told_96 : decode cX11_told 96 = .ok (.getfield 97, 3) := by decide +kernel
theorem dX11_told_99 : decode cX11_told 99 = .ok (.ifCond .ge 8, 3) := by decide +kernel
theorem dX11_told_102 : decode cX11_told 102 = .ok (.bipush (-9), 2) := by decide +kernel
theorem dX11_told_104 : decode cX11_told 104 = .ok (.goto 7, 3) := by decide +kernel
theorem dX11_told_107 : decode cX11_told 107 = .ok (.aload_n 0, 1) := by decide +kernel
theorem dX11_told_108 : decode cX11_told 108 = .ok (.getfield 196, 3) := by decide +kernel
theorem dX11_told_111 : decode cX11_told 111 = .ok (.ireturn, 1) := by decide +kernel
theorem dX11_told_112 : decode cX11_told 112 = .ok (.bipush (-2), 2) := by decide +kernel
theorem dX11_told_114 : decode cX11_told 114 = .ok (.ireturn, 1) := by decide +kernel
theorem dJ9_max_7cf53_0 : decode cJ9_max_7cf53 0 = .ok (.iload_n 0, 1) := by decide +kernel
theorem dJ9_max_7cf53_1 : decode cJ9_max_7cf53 1 = .ok (.iload_n 1, 1) := by decide +kernel
theorem dJ9_max_7cf53_2 : decode cJ9_max_7cf53 2 = .ok (.if_icmp .lt 7, 3) := by decide +kernel
theorem dJ9_max_7cf53_5 : decode cJ9_max_7cf53 5 = .ok (.iload_n 0, 1) := by decide +kernel
theorem dJ9_max_7cf53_6 : decode cJ9_max_7cf53 6 = .ok (.goto 4, 3) := by decide +kernel
theorem dJ9_max_7cf53_9 : decode cJ9_max_7cf53 9 = .ok (.iload_n 1, 1) := by decide +kernel
theorem dJ9_max_7cf53_10 : decode cJ9_max_7cf53 10 = .ok (.ireturn, 1) := by decide +kernel
theorem dJ9_max_f86c9_0 : decode cJ9_max_f86c9 0 = .ok (.lload_n 0, 1) := by decide +kernel
theorem dJ9_max_f86c9_1 : decode cJ9_max_f86c9 1 = .ok (.lload_n 2, 1) := by decide +kernel
theorem dJ9_max_f86c9_2 : decode cJ9_max_f86c9 2 = .ok (.lcmp, 1) := by decide +kernel
theorem dJ9_max_f86c9_3 : decode cJ9_max_f86c9 3 = .ok (.ifCond .lt 7, 3) := by decide +kernel
theorem dJ9_max_f86c9_6 : decode cJ9_max_f86c9 6 = .ok (.lload_n 0, 1) := by decide +kernel
theorem dJ9_max_f86c9_7 : decode cJ9_max_f86c9 7 = .ok (.goto 4, 3) := by decide +kernel
theorem dJ9_max_f86c9_10 : decode cJ9_max_f86c9 10 = .ok (.lload_n 2, 1) := by decide +kernel
theorem dJ9_max_f86c9_11 : decode cJ9_max_f86c9 11 = .ok (.lreturn, 1) := by decide +kernel
theorem dJ9_min_7cf53_0 : decode cJ9_min_7cf53 0 = .ok (.iload_n 0, 1) := by decide +kernel
theorem dJ9_min_7cf53_1 : decode cJ9_min_7cf53 1 = .ok (.iload_n 1, 1) := by decide +kernel
theorem dJ9_min_7cf53_2 : decode cJ9_min_7cf53 2 = .ok (.if_icmp .gt 7, 3) := by decide +kernel
theorem dJ9_min_7cf53_5 : decode cJ9_min_7cf53 5 = .ok (.iload_n 0, 1) := by decide +kernel
theorem dJ9_min_7cf53_6 : decode cJ9_min_7cf53 6 = .ok (.goto 4, 3) := by decide +kernel
theorem dJ9_min_7cf53_9 : decode cJ9_min_7cf53 9 = .ok (.iload_n 1, 1) := by decide +kernel
theorem dJ9_min_7cf53_10 : decode cJ9_min_7cf53 10 = .ok (.ireturn, 1) := by decide +kernel
theorem dJ7_fill_53178_0 : decode cJ7_fill_53178 0 = .ok (.iconst 0, 1) := by decide +kernel
theorem dJ7_fill_53178_1 : decode cJ7_fill_53178 1 = .ok (.istore_n 2, 1) := by decide +kernel
theorem dJ7_fill_53178_2 : decode cJ7_fill_53178 2 = .ok (.aload_n 0, 1) := by decide +kernel
theorem dJ7_fill_53178_3 : decode cJ7_fill_53178 3 = .ok (.arraylength, 1) := by decide +kernel
theorem dJ7_fill_53178_4 : decode cJ7_fill_53178 4 = .ok (.istore_n 3, 1) := by decide +kernel
theorem dJ7_fill_53178_5 : decode cJ7_fill_53178 5 = .ok (.iload_n 2, 1) := by decide +kernel
theorem dJ7_fill_53178_6 : decode cJ7_fill_53178 6 = .ok (.iload_n 3, 1) := by decide +kernel
theorem dJ7_fill_53178_7 : decode cJ7_fill_53178 7 = .ok (.if_icmp .ge 13, 3) := by decide +kernel
theorem dJ7_fill_53178_10 : decode cJ7_fill_53178 10 = .ok (.aload_n 0, 1) := by decide +kernel
theorem dJ7_fill_53178_11 : decode cJ7_fill_53178 11 = .ok (.iload_n 2, 1) := by decide +kernel
theorem dJ7_fill_53178_12 : decode cJ7_fill_53178 12 = .ok (.iload_n 1, 1) := by decide +kernel
theorem dJ7_fill_53178_13 : decode cJ7_fill_53178 13 = .ok (.iastore, 1) := by decide +kernel
theorem dJ7_fill_53178_14 : decode cJ7_fill_53178 14 = .ok (.iinc 2 1, 3) := by decide +kernel
theorem dJ7_fill_53178_17 : decode cJ7_fill_53178 17 = .ok (.goto (-12), 3) := by decide +kernel
theorem dJ7_fill_53178_20 : decode cJ7_fill_53178 20 = .ok (.return_, 1) := by decide +kernel
set_option maxRecDepth 20000 in
theorem ggL_law_X10_init : GoodIn wsL_law wsX10_init := goodIn_r _ [8, 9, 10, 11, 12, 13, 14, 15, 16, 17, 18, 19, 20, 21, 22, 23, 24, 25, 26, 27, 28, 29, 30, 31, 32, 33, 34, 35, 36, 37, 38, 39, 40, 41, 42, 43, 44, 45, 46, 47, 48, 49, 50, 51, 52, 53, 54, 848, 849, 850, 851, 852, 796, 797, 798, 799, 800, 801, 802, 803, 804, 805, 806, 807, 808, 853, 854, 855, 856] (by decide +kernel) (by decide +kernel)
set_option maxRecDepth 20000 in
theorem gL_law_X10_init : GoodIn wsL_law (wsX10_init) := ggL_law_X10_init
set_option maxRecDepth 20000 in
theorem ggL_law_X11_init : GoodIn wsL_law wsX11_init := goodIn_r _ [57, 58, 10, 11, 37, 59, 60, 61, 62, 63, 64, 65, 66, 67, 68, 69, 70, 71, 72, 73, 74, 75, 76, 77, 78, 79, 80, 81, 82, 83, 84, 85, 86, 87, 88, 89, 809, 810, 811, 812, 813, 814, 815, 816, 817, 818, 819, 820, 821, 822, 823, 824, 825, 826, 827, 828, 829, 830, 831, 832, 833, 834, 835, 836, 837, 838, 839, 840, 841, 842, 843, 844, 845, 846, 847] (by decide +kernel) (by decide +kernel)
set_option maxRecDepth 20000 in
theorem gL_law_X11_init : GoodIn wsL_law (wsX11_init) := ggL_law_X11_init
set_option maxRecDepth 20000 in
theorem ggL_law_X10_find : GoodIn wsL_law wsX10_find := goodIn_r _ [93, 15, 94, 95, 96, 14, 97, 98, 2, 99, 100, 101, 102, 103, 104, 38, 40, 105, 106, 107, 108, 39, 41, 109, 110, 111, 112, 113, 114, 115, 116, 117, 118, 119, 120, 121, 122, 123, 124, 125, 126, 42, 127, 128, 129, 130, 131, 132, 133, 134, 135, 796, 797, 798, 799, 800, 801, 802, 803, 804, 805, 806, 807, 808, 848, 849, 850, 851, 852] (by decide +kernel) (by decide +kernel)
set_option maxRecDepth 20000 in
theorem gL_law_X10_find : GoodIn wsL_law (wsV RL 13 RX10 yX10_find wsX10_find) := goodIn_app (goodIn_of _ (by decide +kernel)) ggL_law_X10_find
set_option maxRecDepth 20000 in
theorem ggL_law_X11_find : GoodIn wsL_law wsX11_find := goodIn_r _ [139, 140, 88, 141, 142, 5, 143, 144, 145, 146, 147, 148, 149, 150, 151, 152, 61, 59, 62, 60, 153, 154, 155, 156, 157, 158, 159, 160, 161, 162, 163, 164, 165, 809, 810, 811, 812, 813, 814, 815, 816, 817, 818, 819, 820, 821, 822, 823, 824, 825, 826, 827, 828, 829, 830, 831, 832, 833, 834, 835, 836, 837, 838, 839, 840, 841, 842, 843, 844, 845, 846, 847] (by decide +kernel) (by decide +kernel)
set_option maxRecDepth 20000 in
theorem gL_law_X11_find : GoodIn wsL_law (wsV RL 17 RX11 yX11_find wsX11_find) := goodIn_app (goodIn_of _ (by decide +kernel)) ggL_law_X11_find
set_option maxRecDepth 20000 in
theorem ggL_law_X10_rise : GoodIn wsL_law wsX10_rise := goodIn_r _ [169, 15, 94, 100, 98, 2, 99, 101, 102, 103, 14, 104, 38, 40, 105, 106, 107, 108, 39, 41, 123, 124, 125, 126, 42, 127, 128, 129, 130, 131, 132, 133, 134, 135, 113, 114, 115, 116, 117, 118, 119, 120, 121, 122, 796, 797, 798, 799, 800, 801, 802, 803, 804, 805, 806, 807, 808, 848, 849, 850, 851, 852] (by decide +kernel) (by decide +kernel)
set_option maxRecDepth 20000 in
theorem gL_law_X10_rise : GoodIn wsL_law (wsV RL 18 RX10 yX10_rise wsX10_rise) := goodIn_app (goodIn_of _ (by decide +kernel)) ggL_law_X10_rise
set_option maxRecDepth 20000 in
theorem ggL_law_X11_rise : GoodIn wsL_law wsX11_rise := goodIn_r _ [173, 140, 88, 146, 147, 5, 148, 149, 150, 151, 152, 61, 59, 62, 60, 158, 159, 160, 161, 157, 162, 163, 164, 165, 141, 142, 143, 144, 145, 153, 154, 155, 156, 809, 810, 811, 812, 813, 814, 815, 816, 817, 818, 819, 820, 821, 822, 823, 824, 825, 826, 827, 828, 829, 830, 831, 832, 833, 834, 835, 836, 837, 838, 839, 840, 841, 842, 843, 844, 845, 846, 847] (by decide +kernel) (by decide +kernel)
set_option maxRecDepth 20000 in
theorem gL_law_X11_rise : GoodIn wsL_law (wsV RL 22 RX11 yX11_rise wsX11_rise) := goodIn_app (goodIn_of _ (by decide +kernel)) ggL_law_X11_rise
set_option maxRecDepth 20000 in
theorem ggL_law_X10_good : GoodIn wsL_law wsX10_good := goodIn_r _ [177, 15, 178, 179, 95, 96, 14, 97, 98, 2, 99, 100, 109, 110, 111, 796, 797, 798, 799, 800, 801, 802, 803, 804, 805, 806, 807, 808, 848, 849, 850, 851, 852] (by decide +kernel) (by decide +kernel)
set_option maxRecDepth 20000 in
theorem gL_law_X10_good : GoodIn wsL_law (wsV RL 23 RX10 yX10_good wsX10_good) := goodIn_app (goodIn_of _ (by decide +kernel)) ggL_law_X10_good
set_option maxRecDepth 20000 in
theorem ggL_law_X11_good : GoodIn wsL_law wsX11_good := goodIn_r _ [183, 59, 60, 141, 142, 5, 143, 144, 145, 146, 147, 148, 809, 810, 811, 812, 813, 814, 815, 816, 817, 818, 819, 820, 821, 822, 823, 824, 825, 826, 827, 828, 829, 830, 831, 832, 833, 834, 835, 836, 837, 838, 839, 840, 841, 842, 843, 844, 845, 846, 847] (by decide +kernel) (by decide +kernel)
set_option maxRecDepth 20000 in
theorem gL_law_X11_good : GoodIn wsL_law (wsV RL 27 RX11 yX11_good wsX11_good) := goodIn_app (goodIn_of _ (by decide +kernel)) ggL_law_X11_good
set_option maxRecDepth 20000 in
theorem ggL_law_X10_chart : GoodIn wsL_law wsX10_chart := goodIn_r _ [187, 32, 15, 188, 94, 189, 190, 191, 2, 192, 27, 100, 98, 99, 193, 194, 26, 195, 196, 197, 198, 199, 200, 201, 202, 51, 203, 204, 205, 206, 207, 208, 209, 210, 211, 212, 213, 214, 215, 216, 217, 218, 219, 50, 101, 102, 103, 14, 104, 38, 40, 105, 106, 107, 108, 39, 41, 112, 113, 114, 115, 116, 117, 118, 119, 120, 121, 122, 123, 124, 125, 126, 42, 127, 128, 129, 130, 131, 132, 133, 134, 135, 796, 797, 798, 799, 800, 801, 802, 803, 804, 805, 806, 807, 808, 853, 854, 855, 848, 849, 850, 851, 852] (by decide +kernel) (by decide +kernel)
set_option maxRecDepth 20000 in
theorem gL_law_X10_chart : GoodIn wsL_law (wsV RL 28 RX10 yX10_chart wsX10_chart) := goodIn_app (goodIn_of _ (by decide +kernel)) ggL_law_X10_chart
set_option maxRecDepth 20000 in
theorem ggL_law_X11_chart : GoodIn wsL_law wsX11_chart := goodIn_r _ [223, 224, 225, 63, 64, 65, 88, 226, 227, 5, 228, 229, 146, 147, 148, 230, 231, 232, 233, 234, 235, 236, 237, 238, 239, 240, 241, 149, 150, 151, 152, 61, 59, 62, 60, 153, 154, 155, 156, 157, 158, 159, 160, 161, 162, 163, 164, 165, 141, 142, 143, 144, 145, 809, 810, 811, 812, 813, 814, 815, 816, 817, 818, 819, 820, 821, 822, 823, 824, 825, 826, 827, 828, 829, 830, 831, 832, 833, 834, 835, 836, 837, 838, 839, 840, 841, 842, 843, 844, 845, 846, 847] (by decide +kernel) (by decide +kernel)
set_option maxRecDepth 20000 in
theorem gL_law_X11_chart : GoodIn wsL_law (wsV RL 32 RX11 yX11_chart wsX11_chart) := goodIn_app (goodIn_of _ (by decide +kernel)) ggL_law_X11_chart
set_option maxRecDepth 20000 in
theorem ggL_law_X10_pitch : GoodIn wsL_law wsX10_pitch := goodIn_r _ [245, 246, 17, 16, 247, 248, 95, 96, 14, 97, 98, 2, 99, 100, 249, 250, 251, 252, 253, 254, 255, 256, 257, 258, 259, 260, 261, 262, 263, 264, 10, 11, 265, 266, 796, 797, 798, 799, 800, 801, 802, 803, 804, 805, 806, 807, 808, 857, 858, 859, 860, 861, 862, 863, 864] (by decide +kernel) (by decide +kernel)
set_option maxRecDepth 20000 in
theorem gL_law_X10_pitch : GoodIn wsL_law (wsV RL 33 RX10 yX10_pitch wsX10_pitch) := goodIn_app (goodIn_of _ (by decide +kernel)) ggL_law_X10_pitch
set_option maxRecDepth 20000 in
theorem ggL_law_X11_pitch : GoodIn wsL_law wsX11_pitch := goodIn_r _ [270, 271, 272, 69, 67, 70, 68, 71, 141, 142, 5, 143, 144, 145, 146, 147, 148, 809, 810, 811, 812, 813, 814, 815, 816, 817, 818, 819, 820, 821, 822, 823, 824, 825, 826, 827, 828, 829, 830, 831, 832, 833, 834, 835, 836, 837, 838, 839, 840, 841, 842, 843, 844, 845, 846, 847] (by decide +kernel) (by decide +kernel)
set_option maxRecDepth 20000 in
theorem gL_law_X11_pitch : GoodIn wsL_law (wsV RL 36 RX11 yX11_pitch wsX11_pitch) := goodIn_app (goodIn_of _ (by decide +kernel)) ggL_law_X11_pitch
set_option maxRecDepth 20000 in
theorem ggL_law_X10_foretold : GoodIn wsL_law wsX10_foretold := goodIn_r _ [276, 277, 15, 178, 179, 278, 279, 280, 2, 281, 246, 17, 100, 98, 99, 282, 283, 284, 248, 285, 259, 260, 257, 258, 266, 286, 110, 14, 111, 796, 797, 798, 799, 800, 801, 802, 803, 804, 805, 806, 807, 808, 848, 849, 850, 851, 852, 857, 858, 859, 860, 861, 862, 863, 864] (by decide +kernel) (by decide +kernel)
set_option maxRecDepth 20000 in
theorem gL_law_X10_foretold : GoodIn wsL_law (wsV RL 37 RX10 yX10_foretold wsX10_foretold) := goodIn_app (goodIn_of _ (by decide +kernel)) ggL_law_X10_foretold
set_option maxRecDepth 20000 in
theorem ggL_law_X11_foretold : GoodIn wsL_law wsX11_foretold := goodIn_r _ [290, 291, 292, 293, 5, 294, 272, 146, 147, 148, 295, 296, 297, 298, 299, 300, 301, 302, 59, 60, 71, 303, 304, 305, 306, 67, 69, 68, 70, 809, 810, 811, 812, 813, 814, 815, 816, 817, 818, 819, 820, 821, 822, 823, 824, 825, 826, 827, 828, 829, 830, 831, 832, 833, 834, 835, 836, 837, 838, 839, 840, 841, 842, 843, 844, 845, 846, 847] (by decide +kernel) (by decide +kernel)
set_option maxRecDepth 20000 in
theorem gL_law_X11_foretold : GoodIn wsL_law (wsV RL 41 RX11 yX11_foretold wsX11_foretold) := goodIn_app (goodIn_of _ (by decide +kernel)) ggL_law_X11_foretold
set_option maxRecDepth 20000 in
theorem ggL_law_X10_gang : GoodIn wsL_law wsX10_gang := goodIn_r _ [310, 311, 19, 100, 98, 2, 99, 312, 313, 314, 315, 316, 317, 318, 319, 320, 18, 321, 322, 323, 324, 325, 326, 327, 328, 329, 330, 331, 332, 10, 11, 333, 334, 335, 796, 797, 798, 799, 800, 801, 802, 803, 804, 805, 806, 807, 808, 865, 866, 867, 868, 869, 870, 871, 872, 873, 874, 875, 876] (by decide +kernel) (by decide +kernel)
set_option maxRecDepth 20000 in
theorem gL_law_X10_gang : GoodIn wsL_law (wsV RL 42 RX10 yX10_gang wsX10_gang) := goodIn_app (goodIn_of _ (by decide +kernel)) ggL_law_X10_gang
set_option maxRecDepth 20000 in
theorem ggL_law_X11_gang : GoodIn wsL_law wsX11_gang := goodIn_r _ [339, 225, 340, 72, 146, 147, 5, 148, 809, 810, 811, 812, 813, 814, 815, 816, 817, 818, 819, 820, 821, 822, 823, 824, 825, 826, 827, 828, 829, 830, 831, 832, 833, 834, 835, 836, 837, 838, 839, 840, 841, 842, 843, 844, 845, 846, 847] (by decide +kernel) (by decide +kernel)
set_option maxRecDepth 20000 in
theorem gL_law_X11_gang : GoodIn wsL_law (wsV RL 45 RX11 yX11_gang wsX11_gang) := goodIn_app (goodIn_of _ (by decide +kernel)) ggL_law_X11_gang
set_option maxRecDepth 20000 in
theorem ggL_law_X10_auction : GoodIn wsL_law wsX10_auction := goodIn_r _ [344, 345, 346, 347, 348, 349, 278, 279, 280, 2, 281, 246, 17, 100, 98, 99, 350, 351, 352, 353, 10, 11, 354, 355, 857, 858, 859, 860, 861, 862, 863, 864, 796, 797, 798, 799, 800, 801, 802, 803, 804, 805, 806, 807, 808, 877, 878, 879, 880] (by decide +kernel) (by decide +kernel)
set_option maxRecDepth 20000 in
theorem gL_law_X10_auction : GoodIn wsL_law (wsV RL 46 RX10 yX10_auction wsX10_auction) := goodIn_app (goodIn_of _ (by decide +kernel)) ggL_law_X10_auction
set_option maxRecDepth 20000 in
theorem ggL_law_X11_auction : GoodIn wsL_law wsX11_auction := goodIn_r _ [359, 360, 89, 361, 362, 363, 291, 292, 293, 5, 294, 272, 146, 147, 148, 364, 365, 366, 367, 368, 76, 79, 809, 810, 811, 812, 813, 814, 815, 816, 817, 818, 819, 820, 821, 822, 823, 824, 825, 826, 827, 828, 829, 830, 831, 832, 833, 834, 835, 836, 837, 838, 839, 840, 841, 842, 843, 844, 845, 846, 847] (by decide +kernel) (by decide +kernel)
set_option maxRecDepth 20000 in
theorem gL_law_X11_auction : GoodIn wsL_law (wsV RL 50 RX11 yX11_auction wsX11_auction) := goodIn_app (goodIn_of _ (by decide +kernel)) ggL_law_X11_auction
set_option maxRecDepth 20000 in
theorem ggL_law_X10_bid : GoodIn wsL_law wsX10_bid := goodIn_r _ [372, 346, 373, 374, 375, 376, 377, 378, 379, 2, 380, 311, 19, 100, 98, 99, 381, 382, 383, 349, 384, 385, 355, 796, 797, 798, 799, 800, 801, 802, 803, 804, 805, 806, 807, 808, 877, 878, 879, 880, 869, 870, 871, 872, 873, 874, 875, 876, 865, 866, 867, 868] (by decide +kernel) (by decide +kernel)
set_option maxRecDepth 20000 in
theorem gL_law_X10_bid : GoodIn wsL_law (wsV RL 51 RX10 yX10_bid wsX10_bid) := goodIn_app (goodIn_of _ (by decide +kernel)) ggL_law_X10_bid
set_option maxRecDepth 20000 in
theorem ggL_law_X11_bid : GoodIn wsL_law wsX11_bid := goodIn_r _ [389, 89, 362, 361, 363, 390, 391, 392, 5, 393, 340, 146, 147, 148, 394, 395, 396, 397, 368, 75, 79, 809, 810, 811, 812, 813, 814, 815, 816, 817, 818, 819, 820, 821, 822, 823, 824, 825, 826, 827, 828, 829, 830, 831, 832, 833, 834, 835, 836, 837, 838, 839, 840, 841, 842, 843, 844, 845, 846, 847] (by decide +kernel) (by decide +kernel)
set_option maxRecDepth 20000 in
theorem gL_law_X11_bid : GoodIn wsL_law (wsV RL 54 RX11 yX11_bid wsX11_bid) := goodIn_app (goodIn_of _ (by decide +kernel)) ggL_law_X11_bid
set_option maxRecDepth 20000 in
theorem ggL_law_X10_strike : GoodIn wsL_law wsX10_strike := goodIn_r _ [401, 346, 402, 373, 403, 20, 404, 405, 376, 15, 178, 406, 179, 407, 21, 408, 409, 410, 411, 10, 11, 412, 413, 414, 415, 282, 283, 284, 248, 285, 259, 260, 257, 258, 266, 286, 110, 14, 111, 416, 417, 418, 419, 420, 421, 422, 423, 796, 797, 798, 799, 800, 801, 802, 803, 804, 805, 806, 807, 808, 877, 878, 879, 880, 881, 882, 883, 884, 885, 886, 887, 888, 889, 890, 891, 892, 848, 849, 850, 851, 852, 857, 858, 859, 860, 861, 862, 863, 864, 869, 870, 871, 872, 873, 874, 875, 876, 865, 866, 867, 868] (by decide +kernel) (by decide +kernel)
set_option maxRecDepth 20000 in
theorem gL_law_X10_strike : GoodIn wsL_law (wsV RL 55 RX10 yX10_strike wsX10_strike) := goodIn_app (goodIn_of _ (by decide +kernel)) ggL_law_X10_strike
set_option maxRecDepth 20000 in
theorem ggL_law_X11_strike : GoodIn wsL_law wsX11_strike := goodIn_r _ [427, 89, 362, 368, 75, 363, 76, 77, 361, 80, 81, 299, 300, 301, 5, 302, 59, 60, 71, 303, 304, 305, 306, 67, 69, 68, 70, 146, 147, 148, 809, 810, 811, 812, 813, 814, 815, 816, 817, 818, 819, 820, 821, 822, 823, 824, 825, 826, 827, 828, 829, 830, 831, 832, 833, 834, 835, 836, 837, 838, 839, 840, 841, 842, 843, 844, 845, 846, 847] (by decide +kernel) (by decide +kernel)
set_option maxRecDepth 20000 in
theorem gL_law_X11_strike : GoodIn wsL_law (wsV RL 59 RX11 yX11_strike wsX11_strike) := goodIn_app (goodIn_of _ (by decide +kernel)) ggL_law_X11_strike
set_option maxRecDepth 20000 in
theorem ggL_law_X10_about : GoodIn wsL_law wsX10_about := goodIn_r _ [431, 432, 433, 434, 435, 436, 345, 437, 438, 278, 279, 280, 2, 281, 246, 17, 100, 98, 99, 857, 858, 859, 860, 861, 862, 863, 864, 881, 882, 883, 884, 885, 886, 887, 888, 889, 890, 891, 892, 796, 797, 798, 799, 800, 801, 802, 803, 804, 805, 806, 807, 808] (by decide +kernel) (by decide +kernel)
set_option maxRecDepth 20000 in
theorem gL_law_X10_about : GoodIn wsL_law (wsV RL 60 RX10 yX10_about wsX10_about) := goodIn_app (goodIn_of _ (by decide +kernel)) ggL_law_X10_about
set_option maxRecDepth 20000 in
theorem ggL_law_X11_about : GoodIn wsL_law wsX11_about := goodIn_r _ [442, 67, 68, 69, 70, 71, 291, 292, 293, 5, 294, 272, 146, 147, 148, 364, 365, 366, 367, 368, 76, 79, 443, 444, 445, 446, 809, 810, 811, 812, 813, 814, 815, 816, 817, 818, 819, 820, 821, 822, 823, 824, 825, 826, 827, 828, 829, 830, 831, 832, 833, 834, 835, 836, 837, 838, 839, 840, 841, 842, 843, 844, 845, 846, 847] (by decide +kernel) (by decide +kernel)
set_option maxRecDepth 20000 in
theorem gL_law_X11_about : GoodIn wsL_law (wsV RL 63 RX11 yX11_about wsX11_about) := goodIn_app (goodIn_of _ (by decide +kernel)) ggL_law_X11_about
set_option maxRecDepth 20000 in
theorem ggL_law_X10_parcel : GoodIn wsL_law wsX10_parcel := goodIn_r _ [450, 451, 452, 23, 22, 453, 454, 455, 456, 457, 458, 459, 460, 2, 461, 403, 21, 100, 98, 99, 462, 463, 464, 465, 10, 11, 466, 467, 881, 882, 883, 884, 885, 886, 887, 888, 889, 890, 891, 892, 796, 797, 798, 799, 800, 801, 802, 803, 804, 805, 806, 807, 808, 893, 894] (by decide +kernel) (by decide +kernel)
set_option maxRecDepth 20000 in
theorem gL_law_X10_parcel : GoodIn wsL_law (wsV RL 64 RX10 yX10_parcel wsX10_parcel) := goodIn_app (goodIn_of _ (by decide +kernel)) ggL_law_X10_parcel
set_option maxRecDepth 20000 in
theorem ggL_law_X11_parcel : GoodIn wsL_law wsX11_parcel := goodIn_r _ [471, 140, 79, 472, 85, 86, 87, 473, 474, 475, 5, 476, 368, 146, 147, 148, 809, 810, 811, 812, 813, 814, 815, 816, 817, 818, 819, 820, 821, 822, 823, 824, 825, 826, 827, 828, 829, 830, 831, 832, 833, 834, 835, 836, 837, 838, 839, 840, 841, 842, 843, 844, 845, 846, 847] (by decide +kernel) (by decide +kernel)
set_option maxRecDepth 20000 in
theorem gL_law_X11_parcel : GoodIn wsL_law (wsV RL 67 RX11 yX11_parcel wsX11_parcel) := goodIn_app (goodIn_of _ (by decide +kernel)) ggL_law_X11_parcel
set_option maxRecDepth 20000 in
theorem ggL_law_X10_spend : GoodIn wsL_law wsX10_spend := goodIn_r _ [480, 481, 277, 451, 482, 483, 458, 459, 460, 2, 461, 403, 21, 100, 98, 99, 881, 882, 883, 884, 885, 886, 887, 888, 889, 890, 891, 892, 796, 797, 798, 799, 800, 801, 802, 803, 804, 805, 806, 807, 808] (by decide +kernel) (by decide +kernel)
set_option maxRecDepth 20000 in
theorem gL_law_X10_spend : GoodIn wsL_law (wsV RL 68 RX10 yX10_spend wsX10_spend) := goodIn_app (goodIn_of _ (by decide +kernel)) ggL_law_X10_spend
set_option maxRecDepth 20000 in
theorem ggL_law_X11_spend : GoodIn wsL_law wsX11_spend := goodIn_r _ [487, 488, 79, 82, 83, 473, 474, 475, 5, 476, 368, 146, 147, 148, 295, 296, 297, 298, 809, 810, 811, 812, 813, 814, 815, 816, 817, 818, 819, 820, 821, 822, 823, 824, 825, 826, 827, 828, 829, 830, 831, 832, 833, 834, 835, 836, 837, 838, 839, 840, 841, 842, 843, 844, 845, 846, 847] (by decide +kernel) (by decide +kernel)
set_option maxRecDepth 20000 in
theorem gL_law_X11_spend : GoodIn wsL_law (wsV RL 72 RX11 yX11_spend wsX11_spend) := goodIn_app (goodIn_of _ (by decide +kernel)) ggL_law_X11_spend
set_option maxRecDepth 20000 in
theorem ggL_law_X10_settle : GoodIn wsL_law wsX10_settle := goodIn_r _ [492, 451, 277, 493, 458, 459, 460, 2, 461, 403, 21, 100, 98, 99, 494, 495, 496, 405, 497, 413, 415, 498, 499, 500, 501, 502, 503, 118, 504, 505, 506, 507, 423, 414, 420, 508, 509, 510, 511, 322, 512, 513, 514, 515, 516, 517, 518, 317, 519, 520, 521, 522, 523, 524, 525, 526, 527, 320, 528, 529, 530, 531, 532, 533, 534, 881, 882, 883, 884, 885, 886, 887, 888, 889, 890, 891, 892, 796, 797, 798, 799, 800, 801, 802, 803, 804, 805, 806, 807, 808, 869, 870, 871, 872, 873, 874, 875, 876, 865, 866, 867, 868, 857, 858, 859, 860, 861, 862, 863, 864] (by decide +kernel) (by decide +kernel)
set_option maxRecDepth 20000 in
theorem gL_law_X10_settle : GoodIn wsL_law (wsV RL 73 RX10 yX10_settle wsX10_settle) := goodIn_app (goodIn_of _ (by decide +kernel)) ggL_law_X10_settle
set_option maxRecDepth 20000 in
theorem ggL_law_X11_settle : GoodIn wsL_law wsX11_settle := goodIn_r _ [538, 79, 75, 72, 74, 225, 77, 360, 82, 83, 84, 473, 474, 475, 5, 476, 368, 146, 147, 148, 295, 296, 297, 298, 539, 540, 541, 542, 472, 85, 86, 87, 809, 810, 811, 812, 813, 814, 815, 816, 817, 818, 819, 820, 821, 822, 823, 824, 825, 826, 827, 828, 829, 830, 831, 832, 833, 834, 835, 836, 837, 838, 839, 840, 841, 842, 843, 844, 845, 846, 847] (by decide +kernel) (by decide +kernel)
set_option maxRecDepth 20000 in
theorem gL_law_X11_settle : GoodIn wsL_law (wsV RL 77 RX11 yX11_settle wsX11_settle) := goodIn_app (goodIn_of _ (by decide +kernel)) ggL_law_X11_settle
set_option maxRecDepth 20000 in
theorem ggL_law_X10_taken : GoodIn wsL_law wsX10_taken := goodIn_r _ [546, 547, 548, 455, 549, 550, 451, 456, 458, 459, 460, 2, 461, 403, 21, 100, 98, 99, 881, 882, 883, 884, 885, 886, 887, 888, 889, 890, 891, 892, 869, 870, 871, 872, 873, 874, 875, 876, 865, 866, 867, 868, 857, 858, 859, 860, 861, 862, 863, 864, 796, 797, 798, 799, 800, 801, 802, 803, 804, 805, 806, 807, 808] (by decide +kernel) (by decide +kernel)
set_option maxRecDepth 20000 in
theorem gL_law_X10_taken : GoodIn wsL_law (wsV RL 78 RX10 yX10_taken wsX10_taken) := goodIn_app (goodIn_of _ (by decide +kernel)) ggL_law_X10_taken
set_option maxRecDepth 20000 in
theorem ggL_law_X11_taken : GoodIn wsL_law wsX11_taken := goodIn_r _ [554, 75, 76, 77, 79, 473, 474, 475, 5, 476, 368, 146, 147, 148, 555, 556, 557, 558, 472, 85, 809, 810, 811, 812, 813, 814, 815, 816, 817, 818, 819, 820, 821, 822, 823, 824, 825, 826, 827, 828, 829, 830, 831, 832, 833, 834, 835, 836, 837, 838, 839, 840, 841, 842, 843, 844, 845, 846, 847] (by decide +kernel) (by decide +kernel)
set_option maxRecDepth 20000 in
theorem gL_law_X11_taken : GoodIn wsL_law (wsV RL 81 RX11 yX11_taken wsX11_taken) := goodIn_app (goodIn_of _ (by decide +kernel)) ggL_law_X11_taken
set_option maxRecDepth 20000 in
theorem ggL_law_X10_money : GoodIn wsL_law wsX10_money := goodIn_r _ [562, 277, 457, 482, 483, 493, 406, 407, 458, 459, 460, 2, 461, 403, 21, 100, 98, 99, 881, 882, 883, 884, 885, 886, 887, 888, 889, 890, 891, 892, 796, 797, 798, 799, 800, 801, 802, 803, 804, 805, 806, 807, 808] (by decide +kernel) (by decide +kernel)
set_option maxRecDepth 20000 in
theorem gL_law_X10_money : GoodIn wsL_law (wsV RL 82 RX10 yX10_money wsX10_money) := goodIn_app (goodIn_of _ (by decide +kernel)) ggL_law_X10_money
set_option maxRecDepth 20000 in
theorem ggL_law_X11_money : GoodIn wsL_law wsX11_money := goodIn_r _ [566, 82, 83, 84, 80, 81, 473, 474, 475, 5, 476, 368, 146, 147, 148, 295, 296, 297, 298, 539, 540, 541, 542, 472, 85, 86, 87, 809, 810, 811, 812, 813, 814, 815, 816, 817, 818, 819, 820, 821, 822, 823, 824, 825, 826, 827, 828, 829, 830, 831, 832, 833, 834, 835, 836, 837, 838, 839, 840, 841, 842, 843, 844, 845, 846, 847] (by decide +kernel) (by decide +kernel)
set_option maxRecDepth 20000 in
theorem gL_law_X11_money : GoodIn wsL_law (wsV RL 85 RX11 yX11_money wsX11_money) := goodIn_app (goodIn_of _ (by decide +kernel)) ggL_law_X11_money
set_option maxRecDepth 20000 in
theorem ggL_law_X10_debt : GoodIn wsL_law wsX10_debt := goodIn_r _ [570, 277, 571, 377, 378, 379, 2, 380, 311, 19, 100, 98, 99, 869, 870, 871, 872, 873, 874, 875, 876, 865, 866, 867, 868, 796, 797, 798, 799, 800, 801, 802, 803, 804, 805, 806, 807, 808] (by decide +kernel) (by decide +kernel)
set_option maxRecDepth 20000 in
theorem gL_law_X10_debt : GoodIn wsL_law (wsV RL 86 RX10 yX10_debt wsX10_debt) := goodIn_app (goodIn_of _ (by decide +kernel)) ggL_law_X10_debt
end
section
set_option maxRecDepth 20000 in
theorem ggL_law_X11_debt : GoodIn wsL_law wsX11_debt := goodIn_r _ [575, 74, 390, 391, 392, 5, 393, 340, 146, 147, 148, 295, 296, 297, 298, 809, 810, 811, 812, 813, 814, 815, 816, 817, 818, 819, 820, 821, 822, 823, 824, 825, 826, 827, 828, 829, 830, 831, 832, 833, 834, 835, 836, 837, 838, 839, 840, 841, 842, 843, 844, 845, 846, 847] (by decide +kernel) (by decide +kernel)
set_option maxRecDepth 20000 in
theorem gL_law_X11_debt : GoodIn wsL_law (wsV RL 89 RX11 yX11_debt wsX11_debt) := goodIn_app (goodIn_of _ (by decide +kernel)) ggL_law_X11_debt
set_option maxRecDepth 20000 in
theorem ggL_law_X10_suspects : GoodIn wsL_law wsX10_suspects := goodIn_r _ [579, 452, 23, 15, 580, 581, 582, 454, 583, 467, 466, 584, 585, 586, 587, 248, 588, 259, 260, 257, 258, 589, 117, 118, 119, 286, 110, 14, 111, 796, 797, 798, 799, 800, 801, 802, 803, 804, 805, 806, 807, 808, 893, 894, 848, 849, 850, 851, 852, 857, 858, 859, 860, 861, 862, 863, 864] (by decide +kernel) (by decide +kernel)
set_option maxRecDepth 20000 in
theorem gL_law_X10_suspects : GoodIn wsL_law (wsV RL 90 RX10 yX10_suspects wsX10_suspects) := goodIn_app (goodIn_of _ (by decide +kernel)) ggL_law_X10_suspects
set_option maxRecDepth 20000 in
theorem ggL_law_X11_suspects : GoodIn wsL_law wsX11_suspects := goodIn_r _ [593, 472, 594, 595, 596, 5, 597, 76, 85, 60, 87, 303, 304, 305, 306, 67, 69, 68, 70, 146, 147, 148, 809, 810, 811, 812, 813, 814, 815, 816, 817, 818, 819, 820, 821, 822, 823, 824, 825, 826, 827, 828, 829, 830, 831, 832, 833, 834, 835, 836, 837, 838, 839, 840, 841, 842, 843, 844, 845, 846, 847] (by decide +kernel) (by decide +kernel)
set_option maxRecDepth 20000 in
theorem gL_law_X11_suspects : GoodIn wsL_law (wsV RL 93 RX11 yX11_suspects wsX11_suspects) := goodIn_app (goodIn_of _ (by decide +kernel)) ggL_law_X11_suspects
set_option maxRecDepth 20000 in
theorem ggL_law_X10_suspect : GoodIn wsL_law wsX10_suspect := goodIn_r _ [601, 452, 23, 15, 580, 581, 582, 454, 583, 467, 466, 584, 585, 586, 587, 248, 588, 259, 260, 257, 258, 589, 117, 118, 119, 286, 110, 14, 111, 796, 797, 798, 799, 800, 801, 802, 803, 804, 805, 806, 807, 808, 893, 894, 848, 849, 850, 851, 852, 857, 858, 859, 860, 861, 862, 863, 864] (by decide +kernel) (by decide +kernel)
set_option maxRecDepth 20000 in
theorem gL_law_X10_suspect : GoodIn wsL_law (wsV RL 94 RX10 yX10_suspect wsX10_suspect) := goodIn_app (goodIn_of _ (by decide +kernel)) ggL_law_X10_suspect
set_option maxRecDepth 20000 in
theorem ggL_law_X11_suspect : GoodIn wsL_law wsX11_suspect := goodIn_r _ [605, 472, 594, 595, 596, 5, 597, 76, 85, 60, 87, 303, 304, 305, 306, 67, 69, 68, 70, 146, 147, 148, 809, 810, 811, 812, 813, 814, 815, 816, 817, 818, 819, 820, 821, 822, 823, 824, 825, 826, 827, 828, 829, 830, 831, 832, 833, 834, 835, 836, 837, 838, 839, 840, 841, 842, 843, 844, 845, 846, 847] (by decide +kernel) (by decide +kernel)
set_option maxRecDepth 20000 in
theorem gL_law_X11_suspect : GoodIn wsL_law (wsV RL 97 RX11 yX11_suspect wsX11_suspect) := goodIn_app (goodIn_of _ (by decide +kernel)) ggL_law_X11_suspect
set_option maxRecDepth 20000 in
theorem ggL_law_X10_skill : GoodIn wsL_law wsX10_skill := goodIn_r _ [609, 277, 403, 21, 547, 451, 406, 407, 610, 457, 377, 378, 379, 2, 380, 311, 19, 100, 98, 99, 611, 612, 613, 796, 797, 798, 799, 800, 801, 802, 803, 804, 805, 806, 807, 808, 881, 882, 883, 884, 885, 886, 887, 888, 889, 890, 891, 892] (by decide +kernel) (by decide +kernel)
set_option maxRecDepth 20000 in
theorem gL_law_X10_skill : GoodIn wsL_law (wsV RL 98 RX10 yX10_skill wsX10_skill) := goodIn_app (goodIn_of _ (by decide +kernel)) ggL_law_X10_skill
set_option maxRecDepth 20000 in
theorem ggL_law_X11_skill : GoodIn wsL_law wsX11_skill := goodIn_r _ [617, 368, 80, 81, 75, 79, 225, 390, 391, 392, 5, 393, 340, 146, 147, 148, 295, 296, 297, 298, 539, 540, 541, 542, 472, 85, 86, 87, 618, 619, 620, 809, 810, 811, 812, 813, 814, 815, 816, 817, 818, 819, 820, 821, 822, 823, 824, 825, 826, 827, 828, 829, 830, 831, 832, 833, 834, 835, 836, 837, 838, 839, 840, 841, 842, 843, 844, 845, 846, 847] (by decide +kernel) (by decide +kernel)
set_option maxRecDepth 20000 in
theorem gL_law_X11_skill : GoodIn wsL_law (wsV RL 101 RX11 yX11_skill wsX11_skill) := goodIn_app (goodIn_of _ (by decide +kernel)) ggL_law_X11_skill
set_option maxRecDepth 20000 in
theorem ggL_law_X10_sheet : GoodIn wsL_law wsX10_sheet := goodIn_r _ [624, 32, 189, 190, 191, 2, 192, 27, 100, 98, 99, 193, 194, 26, 195, 212, 213, 214, 215, 625, 626, 627, 628, 50, 51, 211, 629, 44, 45, 46, 796, 797, 798, 799, 800, 801, 802, 803, 804, 805, 806, 807, 808, 853, 854, 855] (by decide +kernel) (by decide +kernel)
set_option maxRecDepth 20000 in
theorem gL_law_X10_sheet : GoodIn wsL_law (wsV RL 102 RX10 yX10_sheet wsX10_sheet) := goodIn_app (goodIn_of _ (by decide +kernel)) ggL_law_X10_sheet
set_option maxRecDepth 20000 in
theorem ggL_law_X11_sheet : GoodIn wsL_law wsX11_sheet := goodIn_r _ [633, 225, 63, 64, 65, 226, 227, 5, 228, 229, 146, 147, 148, 230, 231, 232, 233, 234, 235, 236, 237, 238, 809, 810, 811, 812, 813, 814, 815, 816, 817, 818, 819, 820, 821, 822, 823, 824, 825, 826, 827, 828, 829, 830, 831, 832, 833, 834, 835, 836, 837, 838, 839, 840, 841, 842, 843, 844, 845, 846, 847] (by decide +kernel) (by decide +kernel)
set_option maxRecDepth 20000 in
theorem gL_law_X11_sheet : GoodIn wsL_law (wsV RL 105 RX11 yX11_sheet wsX11_sheet) := goodIn_app (goodIn_of _ (by decide +kernel)) ggL_law_X11_sheet
set_option maxRecDepth 20000 in
theorem ggL_law_X10_lose : GoodIn wsL_law wsX10_lose := goodIn_r _ [637, 189, 190, 191, 2, 192, 27, 100, 98, 99, 638, 204, 205, 26, 206, 51, 625, 626, 627, 628, 50, 211, 629, 44, 45, 46, 796, 797, 798, 799, 800, 801, 802, 803, 804, 805, 806, 807, 808, 853, 854, 855] (by decide +kernel) (by decide +kernel)
set_option maxRecDepth 20000 in
theorem gL_law_X10_lose : GoodIn wsL_law (wsV RL 106 RX10 yX10_lose wsX10_lose) := goodIn_app (goodIn_of _ (by decide +kernel)) ggL_law_X10_lose
set_option maxRecDepth 20000 in
theorem ggL_law_X11_lose : GoodIn wsL_law wsX11_lose := goodIn_r _ [642, 63, 226, 227, 5, 228, 229, 146, 147, 148, 809, 810, 811, 812, 813, 814, 815, 816, 817, 818, 819, 820, 821, 822, 823, 824, 825, 826, 827, 828, 829, 830, 831, 832, 833, 834, 835, 836, 837, 838, 839, 840, 841, 842, 843, 844, 845, 846, 847] (by decide +kernel) (by decide +kernel)
set_option maxRecDepth 20000 in
theorem gL_law_X11_lose : GoodIn wsL_law (wsV RL 109 RX11 yX11_lose wsX11_lose) := goodIn_app (goodIn_of _ (by decide +kernel)) ggL_law_X11_lose
set_option maxRecDepth 20000 in
theorem ggL_law_X10_put : GoodIn wsL_law wsX10_put := goodIn_r _ [646, 32, 188, 189, 190, 191, 2, 192, 27, 100, 98, 99, 638, 204, 205, 26, 206, 51, 212, 213, 214, 215, 207, 208, 209, 210, 211, 647, 648, 649, 650, 796, 797, 798, 799, 800, 801, 802, 803, 804, 805, 806, 807, 808, 853, 854, 855] (by decide +kernel) (by decide +kernel)
set_option maxRecDepth 20000 in
theorem gL_law_X10_put : GoodIn wsL_law (wsV RL 110 RX10 yX10_put wsX10_put) := goodIn_app (goodIn_of _ (by decide +kernel)) ggL_law_X10_put
set_option maxRecDepth 20000 in
theorem ggL_law_X11_put : GoodIn wsL_law wsX11_put := goodIn_r _ [654, 65, 64, 226, 227, 5, 228, 229, 146, 147, 148, 230, 231, 232, 233, 234, 655, 656, 657, 658, 63, 235, 236, 237, 238, 809, 810, 811, 812, 813, 814, 815, 816, 817, 818, 819, 820, 821, 822, 823, 824, 825, 826, 827, 828, 829, 830, 831, 832, 833, 834, 835, 836, 837, 838, 839, 840, 841, 842, 843, 844, 845, 846, 847] (by decide +kernel) (by decide +kernel)
set_option maxRecDepth 20000 in
theorem gL_law_X11_put : GoodIn wsL_law (wsV RL 113 RX11 yX11_put wsX11_put) := goodIn_app (goodIn_of _ (by decide +kernel)) ggL_law_X11_put
set_option maxRecDepth 20000 in
theorem ggL_law_X10_cell : GoodIn wsL_law wsX10_cell := goodIn_r _ [662, 32, 277, 188, 189, 190, 191, 2, 192, 27, 100, 98, 99, 193, 194, 26, 195, 199, 200, 201, 202, 51, 203, 204, 205, 206, 207, 208, 209, 210, 211, 796, 797, 798, 799, 800, 801, 802, 803, 804, 805, 806, 807, 808, 853, 854, 855] (by decide +kernel) (by decide +kernel)
set_option maxRecDepth 20000 in
theorem gL_law_X10_cell : GoodIn wsL_law (wsV RL 114 RX10 yX10_cell wsX10_cell) := goodIn_app (goodIn_of _ (by decide +kernel)) ggL_law_X10_cell
set_option maxRecDepth 20000 in
theorem ggL_law_X11_cell : GoodIn wsL_law wsX11_cell := goodIn_r _ [666, 234, 225, 63, 64, 65, 226, 227, 5, 228, 229, 146, 147, 148, 295, 296, 297, 298, 667, 668, 669, 670, 655, 656, 657, 658, 809, 810, 811, 812, 813, 814, 815, 816, 817, 818, 819, 820, 821, 822, 823, 824, 825, 826, 827, 828, 829, 830, 831, 832, 833, 834, 835, 836, 837, 838, 839, 840, 841, 842, 843, 844, 845, 846, 847] (by decide +kernel) (by decide +kernel)
set_option maxRecDepth 20000 in
theorem gL_law_X11_cell : GoodIn wsL_law (wsV RL 117 RX11 yX11_cell wsX11_cell) := goodIn_app (goodIn_of _ (by decide +kernel)) ggL_law_X11_cell
set_option maxRecDepth 20000 in
theorem ggL_law_X10_copy : GoodIn wsL_law wsX10_copy := goodIn_r _ [674, 32, 675, 188, 676, 106, 107, 108, 189, 190, 191, 2, 192, 27, 100, 98, 99, 638, 204, 205, 26, 206, 51, 212, 213, 214, 215, 207, 208, 209, 210, 211, 796, 797, 798, 799, 800, 801, 802, 803, 804, 805, 806, 807, 808, 853, 854, 855] (by decide +kernel) (by decide +kernel)
set_option maxRecDepth 20000 in
theorem gL_law_X10_copy : GoodIn wsL_law (wsV RL 118 RX10 yX10_copy wsX10_copy) := goodIn_app (goodIn_of _ (by decide +kernel)) ggL_law_X10_copy
set_option maxRecDepth 20000 in
theorem ggL_law_X11_copy : GoodIn wsL_law wsX11_copy := goodIn_r _ [680, 63, 64, 66, 65, 226, 227, 5, 228, 229, 146, 147, 148, 230, 231, 232, 233, 234, 235, 236, 237, 238, 239, 240, 241, 809, 810, 811, 812, 813, 814, 815, 816, 817, 818, 819, 820, 821, 822, 823, 824, 825, 826, 827, 828, 829, 830, 831, 832, 833, 834, 835, 836, 837, 838, 839, 840, 841, 842, 843, 844, 845, 846, 847] (by decide +kernel) (by decide +kernel)
set_option maxRecDepth 20000 in
theorem gL_law_X11_copy : GoodIn wsL_law (wsV RL 121 RX11 yX11_copy wsX11_copy) := goodIn_app (goodIn_of _ (by decide +kernel)) ggL_law_X11_copy
set_option maxRecDepth 20000 in
theorem ggL_law_X10_tell : GoodIn wsL_law wsX10_tell := goodIn_r _ [684, 31, 377, 378, 379, 2, 380, 311, 19, 100, 98, 99, 685, 686, 687, 688, 689, 320, 690, 691, 692, 693, 30, 694, 695, 696, 697, 698, 699, 322, 700, 701, 702, 703, 704, 705, 706, 707, 708, 709, 710, 711, 712, 713, 714, 715, 317, 716, 717, 718, 719, 720, 796, 797, 798, 799, 800, 801, 802, 803, 804, 805, 806, 807, 808, 856, 869, 870, 871, 872, 873, 874, 875, 876, 865, 866, 867, 868] (by decide +kernel) (by decide +kernel)
set_option maxRecDepth 20000 in
theorem gL_law_X10_tell : GoodIn wsL_law (wsV RL 122 RX10 yX10_tell wsX10_tell) := goodIn_app (goodIn_of _ (by decide +kernel)) ggL_law_X10_tell
set_option maxRecDepth 20000 in
theorem ggL_law_X11_tell : GoodIn wsL_law wsX11_tell := goodIn_r _ [724, 72, 390, 391, 392, 5, 393, 340, 146, 147, 148, 725, 726, 727, 728, 729, 730, 731, 732, 733, 368, 75, 809, 810, 811, 812, 813, 814, 815, 816, 817, 818, 819, 820, 821, 822, 823, 824, 825, 826, 827, 828, 829, 830, 831, 832, 833, 834, 835, 836, 837, 838, 839, 840, 841, 842, 843, 844, 845, 846, 847] (by decide +kernel) (by decide +kernel)
set_option maxRecDepth 20000 in
theorem gL_law_X11_tell : GoodIn wsL_law (wsV RL 125 RX11 yX11_tell wsX11_tell) := goodIn_app (goodIn_of _ (by decide +kernel)) ggL_law_X11_tell
set_option maxRecDepth 20000 in
theorem ggL_law_X10_greet : GoodIn wsL_law wsX10_greet := goodIn_r _ [737, 31, 377, 378, 379, 2, 380, 311, 19, 100, 98, 99, 738, 739, 740, 741, 742, 320, 743, 691, 692, 693, 30, 694, 695, 744, 745, 746, 747, 322, 333, 702, 748, 749, 317, 750, 717, 751, 752, 753, 796, 797, 798, 799, 800, 801, 802, 803, 804, 805, 806, 807, 808, 856, 869, 870, 871, 872, 873, 874, 875, 876, 865, 866, 867, 868] (by decide +kernel) (by decide +kernel)
set_option maxRecDepth 20000 in
theorem gL_law_X10_greet : GoodIn wsL_law (wsV RL 126 RX10 yX10_greet wsX10_greet) := goodIn_app (goodIn_of _ (by decide +kernel)) ggL_law_X10_greet
set_option maxRecDepth 20000 in
theorem ggL_law_X11_greet : GoodIn wsL_law wsX11_greet := goodIn_r _ [757, 72, 390, 391, 392, 5, 393, 340, 146, 147, 148, 725, 726, 727, 728, 729, 809, 810, 811, 812, 813, 814, 815, 816, 817, 818, 819, 820, 821, 822, 823, 824, 825, 826, 827, 828, 829, 830, 831, 832, 833, 834, 835, 836, 837, 838, 839, 840, 841, 842, 843, 844, 845, 846, 847] (by decide +kernel) (by decide +kernel)
set_option maxRecDepth 20000 in
theorem gL_law_X11_greet : GoodIn wsL_law (wsV RL 129 RX11 yX11_greet wsX11_greet) := goodIn_app (goodIn_of _ (by decide +kernel)) ggL_law_X11_greet
set_option maxRecDepth 20000 in
theorem ggL_law_X10_as : GoodIn wsL_law wsX10_as := goodIn_r _ [761, 32, 377, 378, 379, 2, 380, 311, 19, 100, 98, 99, 762, 763, 764, 765, 766, 212, 213, 214, 215, 796, 797, 798, 799, 800, 801, 802, 803, 804, 805, 806, 807, 808] (by decide +kernel) (by decide +kernel)
set_option maxRecDepth 20000 in
theorem gL_law_X10_as : GoodIn wsL_law (wsV RL 130 RX10 yX10_as wsX10_as) := goodIn_app (goodIn_of _ (by decide +kernel)) ggL_law_X10_as
set_option maxRecDepth 20000 in
theorem ggL_law_X11_as : GoodIn wsL_law wsX11_as := goodIn_r _ [770, 225, 72, 390, 391, 392, 5, 393, 340, 146, 147, 148, 230, 231, 232, 233, 234, 235, 236, 237, 238, 809, 810, 811, 812, 813, 814, 815, 816, 817, 818, 819, 820, 821, 822, 823, 824, 825, 826, 827, 828, 829, 830, 831, 832, 833, 834, 835, 836, 837, 838, 839, 840, 841, 842, 843, 844, 845, 846, 847] (by decide +kernel) (by decide +kernel)
set_option maxRecDepth 20000 in
theorem gL_law_X11_as : GoodIn wsL_law (wsV RL 133 RX11 yX11_as wsX11_as) := goodIn_app (goodIn_of _ (by decide +kernel)) ggL_law_X11_as
set_option maxRecDepth 20000 in
theorem ggL_law_X10_trace : GoodIn wsL_law wsX10_trace := goodIn_r _ [774, 31, 775, 796, 797, 798, 799, 800, 801, 802, 803, 804, 805, 806, 807, 808, 856] (by decide +kernel) (by decide +kernel)
set_option maxRecDepth 20000 in
theorem gL_law_X10_trace : GoodIn wsL_law (wsV RL 134 RX10 yX10_trace wsX10_trace) := goodIn_app (goodIn_of _ (by decide +kernel)) ggL_law_X10_trace
set_option maxRecDepth 20000 in
theorem ggL_law_X11_trace : GoodIn wsL_law wsX11_trace := goodIn_r _ [779, 729, 809, 810, 811, 812, 813, 814, 815, 816, 817, 818, 819, 820, 821, 822, 823, 824, 825, 826, 827, 828, 829, 830, 831, 832, 833, 834, 835, 836, 837, 838, 839, 840, 841, 842, 843, 844, 845, 846, 847] (by decide +kernel) (by decide +kernel)
set_option maxRecDepth 20000 in
theorem gL_law_X11_trace : GoodIn wsL_law (wsV RL 137 RX11 yX11_trace wsX11_trace) := goodIn_app (goodIn_of _ (by decide +kernel)) ggL_law_X11_trace
set_option maxRecDepth 20000 in
theorem ggL_law_X10_fault : GoodIn wsL_law wsX10_fault := goodIn_r _ [783, 32, 796, 797, 798, 799, 800, 801, 802, 803, 804, 805, 806, 807, 808] (by decide +kernel) (by decide +kernel)
set_option maxRecDepth 20000 in
theorem gL_law_X10_fault : GoodIn wsL_law (wsV RL 138 RX10 yX10_fault wsX10_fault) := goodIn_app (goodIn_of _ (by decide +kernel)) ggL_law_X10_fault
set_option maxRecDepth 20000 in
theorem ggL_law_X11_fault : GoodIn wsL_law wsX11_fault := goodIn_r _ [787, 234, 809, 810, 811, 812, 813, 814, 815, 816, 817, 818, 819, 820, 821, 822, 823, 824, 825, 826, 827, 828, 829, 830, 831, 832, 833, 834, 835, 836, 837, 838, 839, 840, 841, 842, 843, 844, 845, 846, 847] (by decide +kernel) (by decide +kernel)
set_option maxRecDepth 20000 in
theorem gL_law_X11_fault : GoodIn wsL_law (wsV RL 141 RX11 yX11_fault wsX11_fault) := goodIn_app (goodIn_of _ (by decide +kernel)) ggL_law_X11_fault
set_option maxRecDepth 20000 in
theorem ggL_law_X10_told : GoodIn wsL_law wsX10_told := goodIn_r _ [791, 246, 311, 403, 452, 15, 94, 346, 375, 402, 549, 376, 796, 797, 798, 799, 800, 801, 802, 803, 804, 805, 806, 807, 808, 848, 849, 850, 851, 852, 877, 878, 879, 880, 857, 858, 859, 860, 861, 862, 863, 864] (by decide +kernel) (by decide +kernel)
set_option maxRecDepth 20000 in
theorem gL_law_X10_told : GoodIn wsL_law (wsV RL 142 RX10 yX10_told wsX10_told) := goodIn_app (goodIn_of _ (by decide +kernel)) ggL_law_X10_told
set_option maxRecDepth 20000 in
theorem ggL_law_X11_told : GoodIn wsL_law wsX11_told := goodIn_r _ [795, 272, 340, 368, 472, 88, 89, 362, 361, 809, 810, 811, 812, 813, 814, 815, 816, 817, 818, 819, 820, 821, 822, 823, 824, 825, 826, 827, 828, 829, 830, 831, 832, 833, 834, 835, 836, 837, 838, 839, 840, 841, 842, 843, 844, 845, 846, 847] (by decide +kernel) (by decide +kernel)
set_option maxRecDepth 20000 in
theorem gL_law_X11_told : GoodIn wsL_law (wsV RL 145 RX11 yX11_told wsX11_told) := goodIn_app (goodIn_of _ (by decide +kernel)) ggL_law_X11_told
theorem dL_law_0 : decode cL_law 0 = .ok (.new 7, 3) := by decide +kernel
theorem dL_law_3 : decode cL_law 3 = .ok (.dup, 1) := by decide +kernel
theorem dL_law_4 : decode cL_law 4 = .ok (.invokespecial 9, 3) := by decide +kernel
theorem dL_law_7 : decode cL_law 7 = .ok (.astore_n 1, 1) := by decide +kernel
theorem dL_law_8 : decode cL_law 8 = .ok (.new 10, 3) := by decide +kernel
theorem dL_law_11 : decode cL_law 11 = .ok (.dup, 1) := by decide +kernel
theorem dL_law_12 : decode cL_law 12 = .ok (.invokespecial 12, 3) := by decide +kernel
theorem dL_law_15 : decode cL_law 15 = .ok (.astore_n 2, 1) := by decide +kernel
theorem dL_law_16 : decode cL_law 16 = .ok (.iconst 0, 1) := by decide +kernel
theorem dL_law_17 : decode cL_law 17 = .ok (.istore_n 3, 1) := by decide +kernel
theorem dL_law_18 : decode cL_law 18 = .ok (.iload_n 3, 1) := by decide +kernel
theorem dL_law_19 : decode cL_law 19 = .ok (.aload_n 0, 1) := by decide +kernel
theorem dL_law_20 : decode cL_law 20 = .ok (.arraylength, 1) := by decide +kernel
theorem dL_law_21 : decode cL_law 21 = .ok (.bipush 6, 2) := by decide +kernel
theorem dL_law_23 : decode cL_law 23 = .ok (.isub, 1) := by decide +kernel
theorem dL_law_24 : decode cL_law 24 = .ok (.if_icmp .gt 1184, 3) := by decide +kernel
theorem dL_law_27 : decode cL_law 27 = .ok (.aload_n 0, 1) := by decide +kernel
theorem dL_law_28 : decode cL_law 28 = .ok (.iload_n 3, 1) := by decide +kernel
theorem dL_law_29 : decode cL_law 29 = .ok (.iaload, 1) := by decide +kernel
theorem dL_law_30 : decode cL_law 30 = .ok (.bipush 31, 2) := by decide +kernel
theorem dL_law_32 : decode cL_law 32 = .ok (.iand, 1) := by decide +kernel
theorem dL_law_33 : decode cL_law 33 = .ok (.tableswitch 1169 0 30 #[139, 192, 215, 258, 321, 384, 418, 441, 474, 507, 520, 553, 596, 640, 664, 697, 731, 755, 768, 791, 825, 868, 891, 934, 978, 1041, 1064, 1087, 1120, 1133, 1146], 139) := by decide +kernel
theorem dL_law_172 : decode cL_law 172 = .ok (.aload_n 1, 1) := by decide +kernel
theorem dL_law_173 : decode cL_law 173 = .ok (.aload_n 0, 1) := by decide +kernel
theorem dL_law_174 : decode cL_law 174 = .ok (.iload_n 3, 1) := by decide +kernel
theorem dL_law_175 : decode cL_law 175 = .ok (.iconst 1, 1) := by decide +kernel
theorem dL_law_176 : decode cL_law 176 = .ok (.iadd, 1) := by decide +kernel
theorem dL_law_177 : decode cL_law 177 = .ok (.iaload, 1) := by decide +kernel
theorem dL_law_178 : decode cL_law 178 = .ok (.aload_n 0, 1) := by decide +kernel
theorem dL_law_179 : decode cL_law 179 = .ok (.iload_n 3, 1) := by decide +kernel
theorem dL_law_180 : decode cL_law 180 = .ok (.iconst 2, 1) := by decide +kernel
theorem dL_law_181 : decode cL_law 181 = .ok (.iadd, 1) := by decide +kernel
theorem dL_law_182 : decode cL_law 182 = .ok (.iaload, 1) := by decide +kernel
theorem dL_law_183 : decode cL_law 183 = .ok (.aload_n 0, 1) := by decide +kernel
theorem dL_law_184 : decode cL_law 184 = .ok (.iload_n 3, 1) := by decide +kernel
theorem dL_law_185 : decode cL_law 185 = .ok (.iconst 3, 1) := by decide +kernel
theorem dL_law_186 : decode cL_law 186 = .ok (.iadd, 1) := by decide +kernel
theorem dL_law_187 : decode cL_law 187 = .ok (.iaload, 1) := by decide +kernel
theorem dL_law_188 : decode cL_law 188 = .ok (.aload_n 0, 1) := by decide +kernel
theorem dL_law_189 : decode cL_law 189 = .ok (.iload_n 3, 1) := by decide +kernel
theorem dL_law_190 : decode cL_law 190 = .ok (.iconst 4, 1) := by decide +kernel
theorem dL_law_191 : decode cL_law 191 = .ok (.iadd, 1) := by decide +kernel
theorem dL_law_192 : decode cL_law 192 = .ok (.iaload, 1) := by decide +kernel
theorem dL_law_193 : decode cL_law 193 = .ok (.invokevirtual 13, 3) := by decide +kernel
theorem dL_law_196 : decode cL_law 196 = .ok (.aload_n 2, 1) := by decide +kernel
theorem dL_law_197 : decode cL_law 197 = .ok (.aload_n 0, 1) := by decide +kernel
theorem dL_law_198 : decode cL_law 198 = .ok (.iload_n 3, 1) := by decide +kernel
theorem dL_law_199 : decode cL_law 199 = .ok (.iconst 1, 1) := by decide +kernel
theorem dL_law_200 : decode cL_law 200 = .ok (.iadd, 1) := by decide +kernel
theorem dL_law_201 : decode cL_law 201 = .ok (.iaload, 1) := by decide +kernel
theorem dL_law_202 : decode cL_law 202 = .ok (.aload_n 0, 1) := by decide +kernel
theorem dL_law_203 : decode cL_law 203 = .ok (.iload_n 3, 1) := by decide +kernel
theorem dL_law_204 : decode cL_law 204 = .ok (.iconst 2, 1) := by decide +kernel
theorem dL_law_205 : decode cL_law 205 = .ok (.iadd, 1) := by decide +kernel
theorem dL_law_206 : decode cL_law 206 = .ok (.iaload, 1) := by decide +kernel
theorem dL_law_207 : decode cL_law 207 = .ok (.aload_n 0, 1) := by decide +kernel
theorem dL_law_208 : decode cL_law 208 = .ok (.iload_n 3, 1) := by decide +kernel
theorem dL_law_209 : decode cL_law 209 = .ok (.iconst 3, 1) := by decide +kernel
theorem dL_law_210 : decode cL_law 210 = .ok (.iadd, 1) := by decide +kernel
theorem dL_law_211 : decode cL_law 211 = .ok (.iaload, 1) := by decide +kernel
theorem dL_law_212 : decode cL_law 212 = .ok (.aload_n 0, 1) := by decide +kernel
theorem dL_law_213 : decode cL_law 213 = .ok (.iload_n 3, 1) := by decide +kernel
theorem dL_law_214 : decode cL_law 214 = .ok (.iconst 4, 1) := by decide +kernel
theorem dL_law_215 : decode cL_law 215 = .ok (.iadd, 1) := by decide +kernel
theorem dL_law_216 : decode cL_law 216 = .ok (.iaload, 1) := by decide +kernel
theorem dL_law_217 : decode cL_law 217 = .ok (.invokevirtual 17, 3) := by decide +kernel
theorem dL_law_220 : decode cL_law 220 = .ok (.if_icmp .eq 982, 3) := by decide +kernel
theorem dL_law_223 : decode cL_law 223 = .ok (.iconst 0, 1) := by decide +kernel
theorem dL_law_224 : decode cL_law 224 = .ok (.ireturn, 1) := by decide +kernel
theorem dL_law_225 : decode cL_law 225 = .ok (.aload_n 1, 1) := by decide +kernel
theorem dL_law_226 : decode cL_law 226 = .ok (.aload_n 0, 1) := by decide +kernel
theorem dL_law_227 : decode cL_law 227 = .ok (.iload_n 3, 1) := by decide +kernel
theorem dL_law_228 : decode cL_law 228 = .ok (.iconst 1, 1) := by decide +kernel
theorem dL_law_229 : decode cL_law 229 = .ok (.iadd, 1) := by decide +kernel
theorem dL_law_230 : decode cL_law 230 = .ok (.iaload, 1) := by decide +kernel
theorem dL_law_231 : decode cL_law 231 = .ok (.invokevirtual 18, 3) := by decide +kernel
theorem dL_law_234 : decode cL_law 234 = .ok (.aload_n 2, 1) := by decide +kernel
theorem dL_law_235 : decode cL_law 235 = .ok (.aload_n 0, 1) := by decide +kernel
theorem dL_law_236 : decode cL_law 236 = .ok (.iload_n 3, 1) := by decide +kernel
theorem dL_law_237 : decode cL_law 237 = .ok (.iconst 1, 1) := by decide +kernel
theorem dL_law_238 : decode cL_law 238 = .ok (.iadd, 1) := by decide +kernel
theorem dL_law_239 : decode cL_law 239 = .ok (.iaload, 1) := by decide +kernel
theorem dL_law_240 : decode cL_law 240 = .ok (.invokevirtual 22, 3) := by decide +kernel
theorem dL_law_243 : decode cL_law 243 = .ok (.if_icmp .eq 959, 3) := by decide +kernel
theorem dL_law_246 : decode cL_law 246 = .ok (.iconst 0, 1) := by decide +kernel
theorem dL_law_247 : decode cL_law 247 = .ok (.ireturn, 1) := by decide +kernel
theorem dL_law_248 : decode cL_law 248 = .ok (.aload_n 1, 1) := by decide +kernel
theorem dL_law_249 : decode cL_law 249 = .ok (.aload_n 0, 1) := by decide +kernel
theorem dL_law_250 : decode cL_law 250 = .ok (.iload_n 3, 1) := by decide +kernel
theorem dL_law_251 : decode cL_law 251 = .ok (.iconst 1, 1) := by decide +kernel
theorem dL_law_252 : decode cL_law 252 = .ok (.iadd, 1) := by decide +kernel
theorem dL_law_253 : decode cL_law 253 = .ok (.iaload, 1) := by decide +kernel
theorem dL_law_254 : decode cL_law 254 = .ok (.aload_n 0, 1) := by decide +kernel
theorem dL_law_255 : decode cL_law 255 = .ok (.iload_n 3, 1) := by decide +kernel
theorem dL_law_256 : decode cL_law 256 = .ok (.iconst 2, 1) := by decide +kernel
theorem dL_law_257 : decode cL_law 257 = .ok (.iadd, 1) := by decide +kernel
theorem dL_law_258 : decode cL_law 258 = .ok (.iaload, 1) := by decide +kernel
theorem dL_law_259 : decode cL_law 259 = .ok (.aload_n 0, 1) := by decide +kernel
theorem dL_law_260 : decode cL_law 260 = .ok (.iload_n 3, 1) := by decide +kernel
theorem dL_law_261 : decode cL_law 261 = .ok (.iconst 3, 1) := by decide +kernel
theorem dL_law_262 : decode cL_law 262 = .ok (.iadd, 1) := by decide +kernel
theorem dL_law_263 : decode cL_law 263 = .ok (.iaload, 1) := by decide +kernel
theorem dL_law_264 : decode cL_law 264 = .ok (.invokevirtual 23, 3) := by decide +kernel
theorem dL_law_267 : decode cL_law 267 = .ok (.aload_n 2, 1) := by decide +kernel
theorem dL_law_268 : decode cL_law 268 = .ok (.aload_n 0, 1) := by decide +kernel
theorem dL_law_269 : decode cL_law 269 = .ok (.iload_n 3, 1) := by decide +kernel
theorem dL_law_270 : decode cL_law 270 = .ok (.iconst 1, 1) := by decide +kernel
theorem dL_law_271 : decode cL_law 271 = .ok (.iadd, 1) := by decide +kernel
theorem dL_law_272 : decode cL_law 272 = .ok (.iaload, 1) := by decide +kernel
theorem dL_law_273 : decode cL_law 273 = .ok (.aload_n 0, 1) := by decide +kernel
theorem dL_law_274 : decode cL_law 274 = .ok (.iload_n 3, 1) := by decide +kernel
theorem dL_law_275 : decode cL_law 275 = .ok (.iconst 2, 1) := by decide +kernel
theorem dL_law_276 : decode cL_law 276 = .ok (.iadd, 1) := by decide +kernel
theorem dL_law_277 : decode cL_law 277 = .ok (.iaload, 1) := by decide +kernel
theorem dL_law_278 : decode cL_law 278 = .ok (.aload_n 0, 1) := by decide +kernel
theorem dL_law_279 : decode cL_law 279 = .ok (.iload_n 3, 1) := by decide +kernel
theorem dL_law_280 : decode cL_law 280 = .ok (.iconst 3, 1) := by decide +kernel
theorem dL_law_281 : decode cL_law 281 = .ok (.iadd, 1) := by decide +kernel
theorem dL_law_282 : decode cL_law 282 = .ok (.iaload, 1) := by decide +kernel
theorem dL_law_283 : decode cL_law 283 = .ok (.invokevirtual 27, 3) := by decide +kernel
theorem dL_law_286 : decode cL_law 286 = .ok (.if_icmp .eq 916, 3) := by decide +kernel
theorem dL_law_289 : decode cL_law 289 = .ok (.iconst 0, 1) := by decide +kernel
theorem dL_law_290 : decode cL_law 290 = .ok (.ireturn, 1) := by decide +kernel
theorem dL_law_291 : decode cL_law 291 = .ok (.aload_n 1, 1) := by decide +kernel
theorem dL_law_292 : decode cL_law 292 = .ok (.aload_n 0, 1) := by decide +kernel
theorem dL_law_293 : decode cL_law 293 = .ok (.iload_n 3, 1) := by decide +kernel
theorem dL_law_294 : decode cL_law 294 = .ok (.iconst 1, 1) := by decide +kernel
theorem dL_law_295 : decode cL_law 295 = .ok (.iadd, 1) := by decide +kernel
theorem dL_law_296 : decode cL_law 296 = .ok (.iaload, 1) := by decide +kernel
theorem dL_law_297 : decode cL_law 297 = .ok (.aload_n 0, 1) := by decide +kernel
theorem dL_law_298 : decode cL_law 298 = .ok (.iload_n 3, 1) := by decide +kernel
theorem dL_law_299 : decode cL_law 299 = .ok (.iconst 2, 1) := by decide +kernel
theorem dL_law_300 : decode cL_law 300 = .ok (.iadd, 1) := by decide +kernel
theorem dL_law_301 : decode cL_law 301 = .ok (.iaload, 1) := by decide +kernel
theorem dL_law_302 : decode cL_law 302 = .ok (.aload_n 0, 1) := by decide +kernel
theorem dL_law_303 : decode cL_law 303 = .ok (.iload_n 3, 1) := by decide +kernel
theorem dL_law_304 : decode cL_law 304 = .ok (.iconst 3, 1) := by decide +kernel
theorem dL_law_305 : decode cL_law 305 = .ok (.iadd, 1) := by decide +kernel
theorem dL_law_306 : decode cL_law 306 = .ok (.iaload, 1) := by decide +kernel
theorem dL_law_307 : decode cL_law 307 = .ok (.aload_n 0, 1) := by decide +kernel
theorem dL_law_308 : decode cL_law 308 = .ok (.iload_n 3, 1) := by decide +kernel
theorem dL_law_309 : decode cL_law 309 = .ok (.iconst 4, 1) := by decide +kernel
theorem dL_law_310 : decode cL_law 310 = .ok (.iadd, 1) := by decide +kernel
theorem dL_law_311 : decode cL_law 311 = .ok (.iaload, 1) := by decide +kernel
theorem dL_law_312 : decode cL_law 312 = .ok (.aload_n 0, 1) := by decide +kernel
theorem dL_law_313 : decode cL_law 313 = .ok (.iload_n 3, 1) := by decide +kernel
theorem dL_law_314 : decode cL_law 314 = .ok (.iconst 5, 1) := by decide +kernel
theorem dL_law_315 : decode cL_law 315 = .ok (.iadd, 1) := by decide +kernel
theorem dL_law_316 : decode cL_law 316 = .ok (.iaload, 1) := by decide +kernel
theorem dL_law_317 : decode cL_law 317 = .ok (.invokevirtual 28, 3) := by decide +kernel
theorem dL_law_320 : decode cL_law 320 = .ok (.aload_n 2, 1) := by decide +kernel
theorem dL_law_321 : decode cL_law 321 = .ok (.aload_n 0, 1) := by decide +kernel
theorem dL_law_322 : decode cL_law 322 = .ok (.iload_n 3, 1) := by decide +kernel
theorem dL_law_323 : decode cL_law 323 = .ok (.iconst 1, 1) := by decide +kernel
theorem dL_law_324 : decode cL_law 324 = .ok (.iadd, 1) := by decide +kernel
theorem dL_law_325 : decode cL_law 325 = .ok (.iaload, 1) := by decide +kernel
theorem dL_law_326 : decode cL_law 326 = .ok (.aload_n 0, 1) := by decide +kernel
theorem dL_law_327 : decode cL_law 327 = .ok (.iload_n 3, 1) := by decide +kernel
theorem dL_law_328 : decode cL_law 328 = .ok (.iconst 2, 1) := by decide +kernel
theorem dL_law_329 : decode cL_law 329 = .ok (.iadd, 1) := by decide +kernel
theorem dL_law_330 : decode cL_law 330 = .ok (.iaload, 1) := by decide +kernel
theorem dL_law_331 : decode cL_law 331 = .ok (.aload_n 0, 1) := by decide +kernel
theorem dL_law_332 : decode cL_law 332 = .ok (.iload_n 3, 1) := by decide +kernel
theorem dL_law_333 : decode cL_law 333 = .ok (.iconst 3, 1) := by decide +kernel
theorem dL_law_334 : decode cL_law 334 = .ok (.iadd, 1) := by decide +kernel
theorem dL_law_335 : decode cL_law 335 = .ok (.iaload, 1) := by decide +kernel
theorem dL_law_336 : decode cL_law 336 = .ok (.aload_n 0, 1) := by decide +kernel
theorem dL_law_337 : decode cL_law 337 = .ok (.iload_n 3, 1) := by decide +kernel
theorem dL_law_338 : decode cL_law 338 = .ok (.iconst 4, 1) := by decide +kernel
theorem dL_law_339 : decode cL_law 339 = .ok (.iadd, 1) := by decide +kernel
theorem dL_law_340 : decode cL_law 340 = .ok (.iaload, 1) := by decide +kernel
theorem dL_law_341 : decode cL_law 341 = .ok (.aload_n 0, 1) := by decide +kernel
theorem dL_law_342 : decode cL_law 342 = .ok (.iload_n 3, 1) := by decide +kernel
theorem dL_law_343 : decode cL_law 343 = .ok (.iconst 5, 1) := by decide +kernel
theorem dL_law_344 : decode cL_law 344 = .ok (.iadd, 1) := by decide +kernel
theorem dL_law_345 : decode cL_law 345 = .ok (.iaload, 1) := by decide +kernel
theorem dL_law_346 : decode cL_law 346 = .ok (.invokevirtual 32, 3) := by decide +kernel
theorem dL_law_349 : decode cL_law 349 = .ok (.if_icmp .eq 853, 3) := by decide +kernel
theorem dL_law_352 : decode cL_law 352 = .ok (.iconst 0, 1) := by decide +kernel
theorem dL_law_353 : decode cL_law 353 = .ok (.ireturn, 1) := by decide +kernel
theorem dL_law_354 : decode cL_law 354 = .ok (.aload_n 1, 1) := by decide +kernel
theorem dL_law_355 : decode cL_law 355 = .ok (.aload_n 0, 1) := by decide +kernel
theorem dL_law_356 : decode cL_law 356 = .ok (.iload_n 3, 1) := by decide +kernel
theorem dL_law_357 : decode cL_law 357 = .ok (.iconst 1, 1) := by decide +kernel
theorem dL_law_358 : decode cL_law 358 = .ok (.iadd, 1) := by decide +kernel
theorem dL_law_359 : decode cL_law 359 = .ok (.iaload, 1) := by decide +kernel
theorem dL_law_360 : decode cL_law 360 = .ok (.aload_n 0, 1) := by decide +kernel
theorem dL_law_361 : decode cL_law 361 = .ok (.iload_n 3, 1) := by decide +kernel
theorem dL_law_362 : decode cL_law 362 = .ok (.iconst 2, 1) := by decide +kernel
theorem dL_law_363 : decode cL_law 363 = .ok (.iadd, 1) := by decide +kernel
theorem dL_law_364 : decode cL_law 364 = .ok (.iaload, 1) := by decide +kernel
theorem dL_law_365 : decode cL_law 365 = .ok (.aload_n 0, 1) := by decide +kernel
theorem dL_law_366 : decode cL_law 366 = .ok (.iload_n 3, 1) := by decide +kernel
theorem dL_law_367 : decode cL_law 367 = .ok (.iconst 3, 1) := by decide +kernel
theorem dL_law_368 : decode cL_law 368 = .ok (.iadd, 1) := by decide +kernel
theorem dL_law_369 : decode cL_law 369 = .ok (.iaload, 1) := by decide +kernel
theorem dL_law_370 : decode cL_law 370 = .ok (.aload_n 0, 1) := by decide +kernel
theorem dL_law_371 : decode cL_law 371 = .ok (.iload_n 3, 1) := by decide +kernel
theorem dL_law_372 : decode cL_law 372 = .ok (.iconst 4, 1) := by decide +kernel
theorem dL_law_373 : decode cL_law 373 = .ok (.iadd, 1) := by decide +kernel
theorem dL_law_374 : decode cL_law 374 = .ok (.iaload, 1) := by decide +kernel
theorem dL_law_375 : decode cL_law 375 = .ok (.aload_n 0, 1) := by decide +kernel
theorem dL_law_376 : decode cL_law 376 = .ok (.iload_n 3, 1) := by decide +kernel
theorem dL_law_377 : decode cL_law 377 = .ok (.iconst 5, 1) := by decide +kernel
theorem dL_law_378 : decode cL_law 378 = .ok (.iadd, 1) := by decide +kernel
theorem dL_law_379 : decode cL_law 379 = .ok (.iaload, 1) := by decide +kernel
theorem dL_law_380 : decode cL_law 380 = .ok (.invokevirtual 33, 3) := by decide +kernel
theorem dL_law_383 : decode cL_law 383 = .ok (.aload_n 2, 1) := by decide +kernel
theorem dL_law_384 : decode cL_law 384 = .ok (.aload_n 0, 1) := by decide +kernel
theorem dL_law_385 : decode cL_law 385 = .ok (.iload_n 3, 1) := by decide +kernel
theorem dL_law_386 : decode cL_law 386 = .ok (.iconst 1, 1) := by decide +kernel
theorem dL_law_387 : decode cL_law 387 = .ok (.iadd, 1) := by decide +kernel
theorem dL_law_388 : decode cL_law 388 = .ok (.iaload, 1) := by decide +kernel
theorem dL_law_389 : decode cL_law 389 = .ok (.aload_n 0, 1) := by decide +kernel
theorem dL_law_390 : decode cL_law 390 = .ok (.iload_n 3, 1) := by decide +kernel
theorem dL_law_391 : decode cL_law 391 = .ok (.iconst 2, 1) := by decide +kernel
theorem dL_law_392 : decode cL_law 392 = .ok (.iadd, 1) := by decide +kernel
theorem dL_law_393 : decode cL_law 393 = .ok (.iaload, 1) := by decide +kernel
theorem dL_law_394 : decode cL_law 394 = .ok (.aload_n 0, 1) := by decide +kernel
theorem dL_law_395 : decode cL_law 395 = .ok (.iload_n 3, 1) := by decide +kernel
theorem dL_law_396 : decode cL_law 396 = .ok (.iconst 3, 1) := by decide +kernel
theorem dL_law_397 : decode cL_law 397 = .ok (.iadd, 1) := by decide +kernel
theorem dL_law_398 : decode cL_law 398 = .ok (.iaload, 1) := by decide +kernel
theorem dL_law_399 : decode cL_law 399 = .ok (.aload_n 0, 1) := by decide +kernel
theorem dL_law_400 : decode cL_law 400 = .ok (.iload_n 3, 1) := by decide +kernel
theorem dL_law_401 : decode cL_law 401 = .ok (.iconst 4, 1) := by decide +kernel
theorem dL_law_402 : decode cL_law 402 = .ok (.iadd, 1) := by decide +kernel
theorem dL_law_403 : decode cL_law 403 = .ok (.iaload, 1) := by decide +kernel
theorem dL_law_404 : decode cL_law 404 = .ok (.aload_n 0, 1) := by decide +kernel
theorem dL_law_405 : decode cL_law 405 = .ok (.iload_n 3, 1) := by decide +kernel
theorem dL_law_406 : decode cL_law 406 = .ok (.iconst 5, 1) := by decide +kernel
theorem dL_law_407 : decode cL_law 407 = .ok (.iadd, 1) := by decide +kernel
theorem dL_law_408 : decode cL_law 408 = .ok (.iaload, 1) := by decide +kernel
theorem dL_law_409 : decode cL_law 409 = .ok (.invokevirtual 36, 3) := by decide +kernel
theorem dL_law_412 : decode cL_law 412 = .ok (.if_icmp .eq 790, 3) := by decide +kernel
theorem dL_law_415 : decode cL_law 415 = .ok (.iconst 0, 1) := by decide +kernel
theorem dL_law_416 : decode cL_law 416 = .ok (.ireturn, 1) := by decide +kernel
theorem dL_law_417 : decode cL_law 417 = .ok (.aload_n 1, 1) := by decide +kernel
theorem dL_law_418 : decode cL_law 418 = .ok (.aload_n 0, 1) := by decide +kernel
theorem dL_law_419 : decode cL_law 419 = .ok (.iload_n 3, 1) := by decide +kernel
theorem dL_law_420 : decode cL_law 420 = .ok (.iconst 1, 1) := by decide +kernel
theorem dL_law_421 : decode cL_law 421 = .ok (.iadd, 1) := by decide +kernel
theorem dL_law_422 : decode cL_law 422 = .ok (.iaload, 1) := by decide +kernel
theorem dL_law_423 : decode cL_law 423 = .ok (.aload_n 0, 1) := by decide +kernel
theorem dL_law_424 : decode cL_law 424 = .ok (.iload_n 3, 1) := by decide +kernel
theorem dL_law_425 : decode cL_law 425 = .ok (.iconst 2, 1) := by decide +kernel
theorem dL_law_426 : decode cL_law 426 = .ok (.iadd, 1) := by decide +kernel
theorem dL_law_427 : decode cL_law 427 = .ok (.iaload, 1) := by decide +kernel
theorem dL_law_428 : decode cL_law 428 = .ok (.invokevirtual 37, 3) := by decide +kernel
theorem dL_law_431 : decode cL_law 431 = .ok (.aload_n 2, 1) := by decide +kernel
theorem dL_law_432 : decode cL_law 432 = .ok (.aload_n 0, 1) := by decide +kernel
theorem dL_law_433 : decode cL_law 433 = .ok (.iload_n 3, 1) := by decide +kernel
theorem dL_law_434 : decode cL_law 434 = .ok (.iconst 1, 1) := by decide +kernel
theorem dL_law_435 : decode cL_law 435 = .ok (.iadd, 1) := by decide +kernel
theorem dL_law_436 : decode cL_law 436 = .ok (.iaload, 1) := by decide +kernel
theorem dL_law_437 : decode cL_law 437 = .ok (.aload_n 0, 1) := by decide +kernel
theorem dL_law_438 : decode cL_law 438 = .ok (.iload_n 3, 1) := by decide +kernel
theorem dL_law_439 : decode cL_law 439 = .ok (.iconst 2, 1) := by decide +kernel
theorem dL_law_440 : decode cL_law 440 = .ok (.iadd, 1) := by decide +kernel
theorem dL_law_441 : decode cL_law 441 = .ok (.iaload, 1) := by decide +kernel
theorem dL_law_442 : decode cL_law 442 = .ok (.invokevirtual 41, 3) := by decide +kernel
theorem dL_law_445 : decode cL_law 445 = .ok (.lcmp, 1) := by decide +kernel
theorem dL_law_446 : decode cL_law 446 = .ok (.ifCond .eq 756, 3) := by decide +kernel
theorem dL_law_449 : decode cL_law 449 = .ok (.iconst 0, 1) := by decide +kernel
theorem dL_law_450 : decode cL_law 450 = .ok (.ireturn, 1) := by decide +kernel
theorem dL_law_451 : decode cL_law 451 = .ok (.aload_n 1, 1) := by decide +kernel
theorem dL_law_452 : decode cL_law 452 = .ok (.aload_n 0, 1) := by decide +kernel
theorem dL_law_453 : decode cL_law 453 = .ok (.iload_n 3, 1) := by decide +kernel
theorem dL_law_454 : decode cL_law 454 = .ok (.iconst 1, 1) := by decide +kernel
theorem dL_law_455 : decode cL_law 455 = .ok (.iadd, 1) := by decide +kernel
theorem dL_law_456 : decode cL_law 456 = .ok (.iaload, 1) := by decide +kernel
theorem dL_law_457 : decode cL_law 457 = .ok (.invokevirtual 42, 3) := by decide +kernel
theorem dL_law_460 : decode cL_law 460 = .ok (.aload_n 2, 1) := by decide +kernel
theorem dL_law_461 : decode cL_law 461 = .ok (.aload_n 0, 1) := by decide +kernel
theorem dL_law_462 : decode cL_law 462 = .ok (.iload_n 3, 1) := by decide +kernel
theorem dL_law_463 : decode cL_law 463 = .ok (.iconst 1, 1) := by decide +kernel
theorem dL_law_464 : decode cL_law 464 = .ok (.iadd, 1) := by decide +kernel
theorem dL_law_465 : decode cL_law 465 = .ok (.iaload, 1) := by decide +kernel
theorem dL_law_466 : decode cL_law 466 = .ok (.invokevirtual 45, 3) := by decide +kernel
theorem dL_law_469 : decode cL_law 469 = .ok (.if_icmp .eq 733, 3) := by decide +kernel
theorem dL_law_472 : decode cL_law 472 = .ok (.iconst 0, 1) := by decide +kernel
theorem dL_law_473 : decode cL_law 473 = .ok (.ireturn, 1) := by decide +kernel
theorem dL_law_474 : decode cL_law 474 = .ok (.aload_n 1, 1) := by decide +kernel
theorem dL_law_475 : decode cL_law 475 = .ok (.aload_n 0, 1) := by decide +kernel
theorem dL_law_476 : decode cL_law 476 = .ok (.iload_n 3, 1) := by decide +kernel
theorem dL_law_477 : decode cL_law 477 = .ok (.iconst 1, 1) := by decide +kernel
theorem dL_law_478 : decode cL_law 478 = .ok (.iadd, 1) := by decide +kernel
theorem dL_law_479 : decode cL_law 479 = .ok (.iaload, 1) := by decide +kernel
theorem dL_law_480 : decode cL_law 480 = .ok (.aload_n 0, 1) := by decide +kernel
theorem dL_law_481 : decode cL_law 481 = .ok (.iload_n 3, 1) := by decide +kernel
theorem dL_law_482 : decode cL_law 482 = .ok (.iconst 2, 1) := by decide +kernel
theorem dL_law_483 : decode cL_law 483 = .ok (.iadd, 1) := by decide +kernel
theorem dL_law_484 : decode cL_law 484 = .ok (.iaload, 1) := by decide +kernel
theorem dL_law_485 : decode cL_law 485 = .ok (.invokevirtual 46, 3) := by decide +kernel
theorem dL_law_488 : decode cL_law 488 = .ok (.aload_n 2, 1) := by decide +kernel
theorem dL_law_489 : decode cL_law 489 = .ok (.aload_n 0, 1) := by decide +kernel
theorem dL_law_490 : decode cL_law 490 = .ok (.iload_n 3, 1) := by decide +kernel
theorem dL_law_491 : decode cL_law 491 = .ok (.iconst 1, 1) := by decide +kernel
theorem dL_law_492 : decode cL_law 492 = .ok (.iadd, 1) := by decide +kernel
theorem dL_law_493 : decode cL_law 493 = .ok (.iaload, 1) := by decide +kernel
theorem dL_law_494 : decode cL_law 494 = .ok (.aload_n 0, 1) := by decide +kernel
theorem dL_law_495 : decode cL_law 495 = .ok (.iload_n 3, 1) := by decide +kernel
theorem dL_law_496 : decode cL_law 496 = .ok (.iconst 2, 1) := by decide +kernel
theorem dL_law_497 : decode cL_law 497 = .ok (.iadd, 1) := by decide +kernel
theorem dL_law_498 : decode cL_law 498 = .ok (.iaload, 1) := by decide +kernel
theorem dL_law_499 : decode cL_law 499 = .ok (.invokevirtual 50, 3) := by decide +kernel
theorem dL_law_502 : decode cL_law 502 = .ok (.if_icmp .eq 700, 3) := by decide +kernel
theorem dL_law_505 : decode cL_law 505 = .ok (.iconst 0, 1) := by decide +kernel
theorem dL_law_506 : decode cL_law 506 = .ok (.ireturn, 1) := by decide +kernel
theorem dL_law_507 : decode cL_law 507 = .ok (.aload_n 1, 1) := by decide +kernel
theorem dL_law_508 : decode cL_law 508 = .ok (.aload_n 0, 1) := by decide +kernel
theorem dL_law_509 : decode cL_law 509 = .ok (.iload_n 3, 1) := by decide +kernel
theorem dL_law_510 : decode cL_law 510 = .ok (.iconst 1, 1) := by decide +kernel
theorem dL_law_511 : decode cL_law 511 = .ok (.iadd, 1) := by decide +kernel
theorem dL_law_512 : decode cL_law 512 = .ok (.iaload, 1) := by decide +kernel
theorem dL_law_513 : decode cL_law 513 = .ok (.aload_n 0, 1) := by decide +kernel
theorem dL_law_514 : decode cL_law 514 = .ok (.iload_n 3, 1) := by decide +kernel
theorem dL_law_515 : decode cL_law 515 = .ok (.iconst 2, 1) := by decide +kernel
theorem dL_law_516 : decode cL_law 516 = .ok (.iadd, 1) := by decide +kernel
theorem dL_law_517 : decode cL_law 517 = .ok (.iaload, 1) := by decide +kernel
theorem dL_law_518 : decode cL_law 518 = .ok (.invokevirtual 51, 3) := by decide +kernel
theorem dL_law_521 : decode cL_law 521 = .ok (.aload_n 2, 1) := by decide +kernel
theorem dL_law_522 : decode cL_law 522 = .ok (.aload_n 0, 1) := by decide +kernel
theorem dL_law_523 : decode cL_law 523 = .ok (.iload_n 3, 1) := by decide +kernel
theorem dL_law_524 : decode cL_law 524 = .ok (.iconst 1, 1) := by decide +kernel
theorem dL_law_525 : decode cL_law 525 = .ok (.iadd, 1) := by decide +kernel
theorem dL_law_526 : decode cL_law 526 = .ok (.iaload, 1) := by decide +kernel
theorem dL_law_527 : decode cL_law 527 = .ok (.aload_n 0, 1) := by decide +kernel
theorem dL_law_528 : decode cL_law 528 = .ok (.iload_n 3, 1) := by decide +kernel
theorem dL_law_529 : decode cL_law 529 = .ok (.iconst 2, 1) := by decide +kernel
theorem dL_law_530 : decode cL_law 530 = .ok (.iadd, 1) := by decide +kernel
theorem dL_law_531 : decode cL_law 531 = .ok (.iaload, 1) := by decide +kernel
theorem dL_law_532 : decode cL_law 532 = .ok (.invokevirtual 54, 3) := by decide +kernel
theorem dL_law_535 : decode cL_law 535 = .ok (.if_icmp .eq 667, 3) := by decide +kernel
theorem dL_law_538 : decode cL_law 538 = .ok (.iconst 0, 1) := by decide +kernel
theorem dL_law_539 : decode cL_law 539 = .ok (.ireturn, 1) := by decide +kernel
theorem dL_law_540 : decode cL_law 540 = .ok (.aload_n 1, 1) := by decide +kernel
theorem dL_law_541 : decode cL_law 541 = .ok (.invokevirtual 55, 3) := by decide +kernel
theorem dL_law_544 : decode cL_law 544 = .ok (.aload_n 2, 1) := by decide +kernel
theorem dL_law_545 : decode cL_law 545 = .ok (.invokevirtual 59, 3) := by decide +kernel
theorem dL_law_548 : decode cL_law 548 = .ok (.if_icmp .eq 654, 3) := by decide +kernel
theorem dL_law_551 : decode cL_law 551 = .ok (.iconst 0, 1) := by decide +kernel
theorem dL_law_552 : decode cL_law 552 = .ok (.ireturn, 1) := by decide +kernel
theorem dL_law_553 : decode cL_law 553 = .ok (.aload_n 1, 1) := by decide +kernel
theorem dL_law_554 : decode cL_law 554 = .ok (.aload_n 0, 1) := by decide +kernel
theorem dL_law_555 : decode cL_law 555 = .ok (.iload_n 3, 1) := by decide +kernel
theorem dL_law_556 : decode cL_law 556 = .ok (.iconst 1, 1) := by decide +kernel
theorem dL_law_557 : decode cL_law 557 = .ok (.iadd, 1) := by decide +kernel
theorem dL_law_558 : decode cL_law 558 = .ok (.iaload, 1) := by decide +kernel
theorem dL_law_559 : decode cL_law 559 = .ok (.aload_n 0, 1) := by decide +kernel
theorem dL_law_560 : decode cL_law 560 = .ok (.iload_n 3, 1) := by decide +kernel
theorem dL_law_561 : decode cL_law 561 = .ok (.iconst 2, 1) := by decide +kernel
theorem dL_law_562 : decode cL_law 562 = .ok (.iadd, 1) := by decide +kernel
theorem dL_law_563 : decode cL_law 563 = .ok (.iaload, 1) := by decide +kernel
theorem dL_law_564 : decode cL_law 564 = .ok (.invokevirtual 60, 3) := by decide +kernel
theorem dL_law_567 : decode cL_law 567 = .ok (.aload_n 2, 1) := by decide +kernel
theorem dL_law_568 : decode cL_law 568 = .ok (.aload_n 0, 1) := by decide +kernel
theorem dL_law_569 : decode cL_law 569 = .ok (.iload_n 3, 1) := by decide +kernel
theorem dL_law_570 : decode cL_law 570 = .ok (.iconst 1, 1) := by decide +kernel
theorem dL_law_571 : decode cL_law 571 = .ok (.iadd, 1) := by decide +kernel
theorem dL_law_572 : decode cL_law 572 = .ok (.iaload, 1) := by decide +kernel
theorem dL_law_573 : decode cL_law 573 = .ok (.aload_n 0, 1) := by decide +kernel
theorem dL_law_574 : decode cL_law 574 = .ok (.iload_n 3, 1) := by decide +kernel
theorem dL_law_575 : decode cL_law 575 = .ok (.iconst 2, 1) := by decide +kernel
theorem dL_law_576 : decode cL_law 576 = .ok (.iadd, 1) := by decide +kernel
theorem dL_law_577 : decode cL_law 577 = .ok (.iaload, 1) := by decide +kernel
theorem dL_law_578 : decode cL_law 578 = .ok (.invokevirtual 63, 3) := by decide +kernel
theorem dL_law_581 : decode cL_law 581 = .ok (.if_icmp .eq 621, 3) := by decide +kernel
theorem dL_law_584 : decode cL_law 584 = .ok (.iconst 0, 1) := by decide +kernel
theorem dL_law_585 : decode cL_law 585 = .ok (.ireturn, 1) := by decide +kernel
theorem dL_law_586 : decode cL_law 586 = .ok (.aload_n 1, 1) := by decide +kernel
theorem dL_law_587 : decode cL_law 587 = .ok (.aload_n 0, 1) := by decide +kernel
theorem dL_law_588 : decode cL_law 588 = .ok (.iload_n 3, 1) := by decide +kernel
theorem dL_law_589 : decode cL_law 589 = .ok (.iconst 1, 1) := by decide +kernel
theorem dL_law_590 : decode cL_law 590 = .ok (.iadd, 1) := by decide +kernel
theorem dL_law_591 : decode cL_law 591 = .ok (.iaload, 1) := by decide +kernel
theorem dL_law_592 : decode cL_law 592 = .ok (.aload_n 0, 1) := by decide +kernel
theorem dL_law_593 : decode cL_law 593 = .ok (.iload_n 3, 1) := by decide +kernel
theorem dL_law_594 : decode cL_law 594 = .ok (.iconst 2, 1) := by decide +kernel
theorem dL_law_595 : decode cL_law 595 = .ok (.iadd, 1) := by decide +kernel
theorem dL_law_596 : decode cL_law 596 = .ok (.iaload, 1) := by decide +kernel
theorem dL_law_597 : decode cL_law 597 = .ok (.aload_n 0, 1) := by decide +kernel
theorem dL_law_598 : decode cL_law 598 = .ok (.iload_n 3, 1) := by decide +kernel
theorem dL_law_599 : decode cL_law 599 = .ok (.iconst 3, 1) := by decide +kernel
theorem dL_law_600 : decode cL_law 600 = .ok (.iadd, 1) := by decide +kernel
theorem dL_law_601 : decode cL_law 601 = .ok (.iaload, 1) := by decide +kernel
theorem dL_law_602 : decode cL_law 602 = .ok (.invokevirtual 64, 3) := by decide +kernel
theorem dL_law_605 : decode cL_law 605 = .ok (.aload_n 2, 1) := by decide +kernel
theorem dL_law_606 : decode cL_law 606 = .ok (.aload_n 0, 1) := by decide +kernel
theorem dL_law_607 : decode cL_law 607 = .ok (.iload_n 3, 1) := by decide +kernel
theorem dL_law_608 : decode cL_law 608 = .ok (.iconst 1, 1) := by decide +kernel
theorem dL_law_609 : decode cL_law 609 = .ok (.iadd, 1) := by decide +kernel
theorem dL_law_610 : decode cL_law 610 = .ok (.iaload, 1) := by decide +kernel
theorem dL_law_611 : decode cL_law 611 = .ok (.aload_n 0, 1) := by decide +kernel
theorem dL_law_612 : decode cL_law 612 = .ok (.iload_n 3, 1) := by decide +kernel
theorem dL_law_613 : decode cL_law 613 = .ok (.iconst 2, 1) := by decide +kernel
theorem dL_law_614 : decode cL_law 614 = .ok (.iadd, 1) := by decide +kernel
theorem dL_law_615 : decode cL_law 615 = .ok (.iaload, 1) := by decide +kernel
theorem dL_law_616 : decode cL_law 616 = .ok (.aload_n 0, 1) := by decide +kernel
theorem dL_law_617 : decode cL_law 617 = .ok (.iload_n 3, 1) := by decide +kernel
theorem dL_law_618 : decode cL_law 618 = .ok (.iconst 3, 1) := by decide +kernel
theorem dL_law_619 : decode cL_law 619 = .ok (.iadd, 1) := by decide +kernel
theorem dL_law_620 : decode cL_law 620 = .ok (.iaload, 1) := by decide +kernel
theorem dL_law_621 : decode cL_law 621 = .ok (.invokevirtual 67, 3) := by decide +kernel
theorem dL_law_624 : decode cL_law 624 = .ok (.if_icmp .eq 578, 3) := by decide +kernel
theorem dL_law_627 : decode cL_law 627 = .ok (.iconst 0, 1) := by decide +kernel
theorem dL_law_628 : decode cL_law 628 = .ok (.ireturn, 1) := by decide +kernel
theorem dL_law_629 : decode cL_law 629 = .ok (.aload_n 1, 1) := by decide +kernel
theorem dL_law_630 : decode cL_law 630 = .ok (.aload_n 0, 1) := by decide +kernel
theorem dL_law_631 : decode cL_law 631 = .ok (.iload_n 3, 1) := by decide +kernel
theorem dL_law_632 : decode cL_law 632 = .ok (.iconst 1, 1) := by decide +kernel
theorem dL_law_633 : decode cL_law 633 = .ok (.iadd, 1) := by decide +kernel
theorem dL_law_634 : decode cL_law 634 = .ok (.iaload, 1) := by decide +kernel
theorem dL_law_635 : decode cL_law 635 = .ok (.aload_n 0, 1) := by decide +kernel
theorem dL_law_636 : decode cL_law 636 = .ok (.iload_n 3, 1) := by decide +kernel
theorem dL_law_637 : decode cL_law 637 = .ok (.iconst 2, 1) := by decide +kernel
theorem dL_law_638 : decode cL_law 638 = .ok (.iadd, 1) := by decide +kernel
theorem dL_law_639 : decode cL_law 639 = .ok (.iaload, 1) := by decide +kernel
theorem dL_law_640 : decode cL_law 640 = .ok (.aload_n 0, 1) := by decide +kernel
theorem dL_law_641 : decode cL_law 641 = .ok (.iload_n 3, 1) := by decide +kernel
theorem dL_law_642 : decode cL_law 642 = .ok (.iconst 3, 1) := by decide +kernel
theorem dL_law_643 : decode cL_law 643 = .ok (.iadd, 1) := by decide +kernel
theorem dL_law_644 : decode cL_law 644 = .ok (.iaload, 1) := by decide +kernel
theorem dL_law_645 : decode cL_law 645 = .ok (.invokevirtual 68, 3) := by decide +kernel
theorem dL_law_648 : decode cL_law 648 = .ok (.aload_n 2, 1) := by decide +kernel
theorem dL_law_649 : decode cL_law 649 = .ok (.aload_n 0, 1) := by decide +kernel
theorem dL_law_650 : decode cL_law 650 = .ok (.iload_n 3, 1) := by decide +kernel
theorem dL_law_651 : decode cL_law 651 = .ok (.iconst 1, 1) := by decide +kernel
theorem dL_law_652 : decode cL_law 652 = .ok (.iadd, 1) := by decide +kernel
theorem dL_law_653 : decode cL_law 653 = .ok (.iaload, 1) := by decide +kernel
theorem dL_law_654 : decode cL_law 654 = .ok (.aload_n 0, 1) := by decide +kernel
theorem dL_law_655 : decode cL_law 655 = .ok (.iload_n 3, 1) := by decide +kernel
theorem dL_law_656 : decode cL_law 656 = .ok (.iconst 2, 1) := by decide +kernel
theorem dL_law_657 : decode cL_law 657 = .ok (.iadd, 1) := by decide +kernel
theorem dL_law_658 : decode cL_law 658 = .ok (.iaload, 1) := by decide +kernel
theorem dL_law_659 : decode cL_law 659 = .ok (.aload_n 0, 1) := by decide +kernel
theorem dL_law_660 : decode cL_law 660 = .ok (.iload_n 3, 1) := by decide +kernel
theorem dL_law_661 : decode cL_law 661 = .ok (.iconst 3, 1) := by decide +kernel
theorem dL_law_662 : decode cL_law 662 = .ok (.iadd, 1) := by decide +kernel
theorem dL_law_663 : decode cL_law 663 = .ok (.iaload, 1) := by decide +kernel
theorem dL_law_664 : decode cL_law 664 = .ok (.invokevirtual 72, 3) := by decide +kernel
theorem dL_law_667 : decode cL_law 667 = .ok (.lcmp, 1) := by decide +kernel
theorem dL_law_668 : decode cL_law 668 = .ok (.ifCond .eq 534, 3) := by decide +kernel
theorem dL_law_671 : decode cL_law 671 = .ok (.iconst 0, 1) := by decide +kernel
theorem dL_law_672 : decode cL_law 672 = .ok (.ireturn, 1) := by decide +kernel
theorem dL_law_673 : decode cL_law 673 = .ok (.aload_n 1, 1) := by decide +kernel
theorem dL_law_674 : decode cL_law 674 = .ok (.aload_n 0, 1) := by decide +kernel
theorem dL_law_675 : decode cL_law 675 = .ok (.iload_n 3, 1) := by decide +kernel
theorem dL_law_676 : decode cL_law 676 = .ok (.iconst 1, 1) := by decide +kernel
theorem dL_law_677 : decode cL_law 677 = .ok (.iadd, 1) := by decide +kernel
theorem dL_law_678 : decode cL_law 678 = .ok (.iaload, 1) := by decide +kernel
theorem dL_law_679 : decode cL_law 679 = .ok (.invokevirtual 73, 3) := by decide +kernel
theorem dL_law_682 : decode cL_law 682 = .ok (.aload_n 2, 1) := by decide +kernel
theorem dL_law_683 : decode cL_law 683 = .ok (.aload_n 0, 1) := by decide +kernel
theorem dL_law_684 : decode cL_law 684 = .ok (.iload_n 3, 1) := by decide +kernel
theorem dL_law_685 : decode cL_law 685 = .ok (.iconst 1, 1) := by decide +kernel
theorem dL_law_686 : decode cL_law 686 = .ok (.iadd, 1) := by decide +kernel
theorem dL_law_687 : decode cL_law 687 = .ok (.iaload, 1) := by decide +kernel
theorem dL_law_688 : decode cL_law 688 = .ok (.invokevirtual 77, 3) := by decide +kernel
theorem dL_law_691 : decode cL_law 691 = .ok (.lcmp, 1) := by decide +kernel
theorem dL_law_692 : decode cL_law 692 = .ok (.ifCond .eq 510, 3) := by decide +kernel
theorem dL_law_695 : decode cL_law 695 = .ok (.iconst 0, 1) := by decide +kernel
theorem dL_law_696 : decode cL_law 696 = .ok (.ireturn, 1) := by decide +kernel
theorem dL_law_697 : decode cL_law 697 = .ok (.aload_n 1, 1) := by decide +kernel
theorem dL_law_698 : decode cL_law 698 = .ok (.aload_n 0, 1) := by decide +kernel
theorem dL_law_699 : decode cL_law 699 = .ok (.iload_n 3, 1) := by decide +kernel
theorem dL_law_700 : decode cL_law 700 = .ok (.iconst 1, 1) := by decide +kernel
theorem dL_law_701 : decode cL_law 701 = .ok (.iadd, 1) := by decide +kernel
theorem dL_law_702 : decode cL_law 702 = .ok (.iaload, 1) := by decide +kernel
theorem dL_law_703 : decode cL_law 703 = .ok (.aload_n 0, 1) := by decide +kernel
theorem dL_law_704 : decode cL_law 704 = .ok (.iload_n 3, 1) := by decide +kernel
theorem dL_law_705 : decode cL_law 705 = .ok (.iconst 2, 1) := by decide +kernel
theorem dL_law_706 : decode cL_law 706 = .ok (.iadd, 1) := by decide +kernel
theorem dL_law_707 : decode cL_law 707 = .ok (.iaload, 1) := by decide +kernel
theorem dL_law_708 : decode cL_law 708 = .ok (.invokevirtual 78, 3) := by decide +kernel
theorem dL_law_711 : decode cL_law 711 = .ok (.aload_n 2, 1) := by decide +kernel
theorem dL_law_712 : decode cL_law 712 = .ok (.aload_n 0, 1) := by decide +kernel
theorem dL_law_713 : decode cL_law 713 = .ok (.iload_n 3, 1) := by decide +kernel
theorem dL_law_714 : decode cL_law 714 = .ok (.iconst 1, 1) := by decide +kernel
theorem dL_law_715 : decode cL_law 715 = .ok (.iadd, 1) := by decide +kernel
theorem dL_law_716 : decode cL_law 716 = .ok (.iaload, 1) := by decide +kernel
theorem dL_law_717 : decode cL_law 717 = .ok (.aload_n 0, 1) := by decide +kernel
theorem dL_law_718 : decode cL_law 718 = .ok (.iload_n 3, 1) := by decide +kernel
theorem dL_law_719 : decode cL_law 719 = .ok (.iconst 2, 1) := by decide +kernel
theorem dL_law_720 : decode cL_law 720 = .ok (.iadd, 1) := by decide +kernel
theorem dL_law_721 : decode cL_law 721 = .ok (.iaload, 1) := by decide +kernel
theorem dL_law_722 : decode cL_law 722 = .ok (.invokevirtual 81, 3) := by decide +kernel
theorem dL_law_725 : decode cL_law 725 = .ok (.if_icmp .eq 477, 3) := by decide +kernel
theorem dL_law_728 : decode cL_law 728 = .ok (.iconst 0, 1) := by decide +kernel
theorem dL_law_729 : decode cL_law 729 = .ok (.ireturn, 1) := by decide +kernel
theorem dL_law_730 : decode cL_law 730 = .ok (.aload_n 1, 1) := by decide +kernel
theorem dL_law_731 : decode cL_law 731 = .ok (.aload_n 0, 1) := by decide +kernel
theorem dL_law_732 : decode cL_law 732 = .ok (.iload_n 3, 1) := by decide +kernel
theorem dL_law_733 : decode cL_law 733 = .ok (.iconst 1, 1) := by decide +kernel
theorem dL_law_734 : decode cL_law 734 = .ok (.iadd, 1) := by decide +kernel
theorem dL_law_735 : decode cL_law 735 = .ok (.iaload, 1) := by decide +kernel
theorem dL_law_736 : decode cL_law 736 = .ok (.aload_n 0, 1) := by decide +kernel
theorem dL_law_737 : decode cL_law 737 = .ok (.iload_n 3, 1) := by decide +kernel
theorem dL_law_738 : decode cL_law 738 = .ok (.iconst 2, 1) := by decide +kernel
theorem dL_law_739 : decode cL_law 739 = .ok (.iadd, 1) := by decide +kernel
theorem dL_law_740 : decode cL_law 740 = .ok (.iaload, 1) := by decide +kernel
theorem dL_law_741 : decode cL_law 741 = .ok (.invokevirtual 82, 3) := by decide +kernel
theorem dL_law_744 : decode cL_law 744 = .ok (.aload_n 2, 1) := by decide +kernel
theorem dL_law_745 : decode cL_law 745 = .ok (.aload_n 0, 1) := by decide +kernel
theorem dL_law_746 : decode cL_law 746 = .ok (.iload_n 3, 1) := by decide +kernel
theorem dL_law_747 : decode cL_law 747 = .ok (.iconst 1, 1) := by decide +kernel
theorem dL_law_748 : decode cL_law 748 = .ok (.iadd, 1) := by decide +kernel
theorem dL_law_749 : decode cL_law 749 = .ok (.iaload, 1) := by decide +kernel
theorem dL_law_750 : decode cL_law 750 = .ok (.aload_n 0, 1) := by decide +kernel
theorem dL_law_751 : decode cL_law 751 = .ok (.iload_n 3, 1) := by decide +kernel
theorem dL_law_752 : decode cL_law 752 = .ok (.iconst 2, 1) := by decide +kernel
theorem dL_law_753 : decode cL_law 753 = .ok (.iadd, 1) := by decide +kernel
theorem dL_law_754 : decode cL_law 754 = .ok (.iaload, 1) := by decide +kernel
theorem dL_law_755 : decode cL_law 755 = .ok (.invokevirtual 85, 3) := by decide +kernel
theorem dL_law_758 : decode cL_law 758 = .ok (.lcmp, 1) := by decide +kernel
theorem dL_law_759 : decode cL_law 759 = .ok (.ifCond .eq 443, 3) := by decide +kernel
theorem dL_law_762 : decode cL_law 762 = .ok (.iconst 0, 1) := by decide +kernel
theorem dL_law_763 : decode cL_law 763 = .ok (.ireturn, 1) := by decide +kernel
theorem dL_law_764 : decode cL_law 764 = .ok (.aload_n 1, 1) := by decide +kernel
theorem dL_law_765 : decode cL_law 765 = .ok (.aload_n 0, 1) := by decide +kernel
theorem dL_law_766 : decode cL_law 766 = .ok (.iload_n 3, 1) := by decide +kernel
theorem dL_law_767 : decode cL_law 767 = .ok (.iconst 1, 1) := by decide +kernel
theorem dL_law_768 : decode cL_law 768 = .ok (.iadd, 1) := by decide +kernel
theorem dL_law_769 : decode cL_law 769 = .ok (.iaload, 1) := by decide +kernel
theorem dL_law_770 : decode cL_law 770 = .ok (.invokevirtual 86, 3) := by decide +kernel
theorem dL_law_773 : decode cL_law 773 = .ok (.aload_n 2, 1) := by decide +kernel
theorem dL_law_774 : decode cL_law 774 = .ok (.aload_n 0, 1) := by decide +kernel
theorem dL_law_775 : decode cL_law 775 = .ok (.iload_n 3, 1) := by decide +kernel
theorem dL_law_776 : decode cL_law 776 = .ok (.iconst 1, 1) := by decide +kernel
theorem dL_law_777 : decode cL_law 777 = .ok (.iadd, 1) := by decide +kernel
theorem dL_law_778 : decode cL_law 778 = .ok (.iaload, 1) := by decide +kernel
theorem dL_law_779 : decode cL_law 779 = .ok (.invokevirtual 89, 3) := by decide +kernel
theorem dL_law_782 : decode cL_law 782 = .ok (.lcmp, 1) := by decide +kernel
theorem dL_law_783 : decode cL_law 783 = .ok (.ifCond .eq 419, 3) := by decide +kernel
theorem dL_law_786 : decode cL_law 786 = .ok (.iconst 0, 1) := by decide +kernel
theorem dL_law_787 : decode cL_law 787 = .ok (.ireturn, 1) := by decide +kernel
theorem dL_law_788 : decode cL_law 788 = .ok (.aload_n 1, 1) := by decide +kernel
theorem dL_law_789 : decode cL_law 789 = .ok (.invokevirtual 90, 3) := by decide +kernel
theorem dL_law_792 : decode cL_law 792 = .ok (.aload_n 2, 1) := by decide +kernel
theorem dL_law_793 : decode cL_law 793 = .ok (.invokevirtual 93, 3) := by decide +kernel
theorem dL_law_796 : decode cL_law 796 = .ok (.if_icmp .eq 406, 3) := by decide +kernel
theorem dL_law_799 : decode cL_law 799 = .ok (.iconst 0, 1) := by decide +kernel
theorem dL_law_800 : decode cL_law 800 = .ok (.ireturn, 1) := by decide +kernel
theorem dL_law_801 : decode cL_law 801 = .ok (.aload_n 1, 1) := by decide +kernel
theorem dL_law_802 : decode cL_law 802 = .ok (.aload_n 0, 1) := by decide +kernel
theorem dL_law_803 : decode cL_law 803 = .ok (.iload_n 3, 1) := by decide +kernel
theorem dL_law_804 : decode cL_law 804 = .ok (.iconst 1, 1) := by decide +kernel
theorem dL_law_805 : decode cL_law 805 = .ok (.iadd, 1) := by decide +kernel
theorem dL_law_806 : decode cL_law 806 = .ok (.iaload, 1) := by decide +kernel
theorem dL_law_807 : decode cL_law 807 = .ok (.invokevirtual 94, 3) := by decide +kernel
theorem dL_law_810 : decode cL_law 810 = .ok (.aload_n 2, 1) := by decide +kernel
theorem dL_law_811 : decode cL_law 811 = .ok (.aload_n 0, 1) := by decide +kernel
theorem dL_law_812 : decode cL_law 812 = .ok (.iload_n 3, 1) := by decide +kernel
theorem dL_law_813 : decode cL_law 813 = .ok (.iconst 1, 1) := by decide +kernel
theorem dL_law_814 : decode cL_law 814 = .ok (.iadd, 1) := by decide +kernel
theorem dL_law_815 : decode cL_law 815 = .ok (.iaload, 1) := by decide +kernel
theorem dL_law_816 : decode cL_law 816 = .ok (.invokevirtual 97, 3) := by decide +kernel
theorem dL_law_819 : decode cL_law 819 = .ok (.if_icmp .eq 383, 3) := by decide +kernel
theorem dL_law_822 : decode cL_law 822 = .ok (.iconst 0, 1) := by decide +kernel
theorem dL_law_823 : decode cL_law 823 = .ok (.ireturn, 1) := by decide +kernel
theorem dL_law_824 : decode cL_law 824 = .ok (.aload_n 1, 1) := by decide +kernel
theorem dL_law_825 : decode cL_law 825 = .ok (.aload_n 0, 1) := by decide +kernel
theorem dL_law_826 : decode cL_law 826 = .ok (.iload_n 3, 1) := by decide +kernel
theorem dL_law_827 : decode cL_law 827 = .ok (.iconst 1, 1) := by decide +kernel
theorem dL_law_828 : decode cL_law 828 = .ok (.iadd, 1) := by decide +kernel
theorem dL_law_829 : decode cL_law 829 = .ok (.iaload, 1) := by decide +kernel
theorem dL_law_830 : decode cL_law 830 = .ok (.aload_n 0, 1) := by decide +kernel
theorem dL_law_831 : decode cL_law 831 = .ok (.iload_n 3, 1) := by decide +kernel
theorem dL_law_832 : decode cL_law 832 = .ok (.iconst 2, 1) := by decide +kernel
theorem dL_law_833 : decode cL_law 833 = .ok (.iadd, 1) := by decide +kernel
theorem dL_law_834 : decode cL_law 834 = .ok (.iaload, 1) := by decide +kernel
theorem dL_law_835 : decode cL_law 835 = .ok (.invokevirtual 98, 3) := by decide +kernel
theorem dL_law_838 : decode cL_law 838 = .ok (.aload_n 2, 1) := by decide +kernel
theorem dL_law_839 : decode cL_law 839 = .ok (.aload_n 0, 1) := by decide +kernel
theorem dL_law_840 : decode cL_law 840 = .ok (.iload_n 3, 1) := by decide +kernel
theorem dL_law_841 : decode cL_law 841 = .ok (.iconst 1, 1) := by decide +kernel
theorem dL_law_842 : decode cL_law 842 = .ok (.iadd, 1) := by decide +kernel
theorem dL_law_843 : decode cL_law 843 = .ok (.iaload, 1) := by decide +kernel
theorem dL_law_844 : decode cL_law 844 = .ok (.aload_n 0, 1) := by decide +kernel
theorem dL_law_845 : decode cL_law 845 = .ok (.iload_n 3, 1) := by decide +kernel
theorem dL_law_846 : decode cL_law 846 = .ok (.iconst 2, 1) := by decide +kernel
theorem dL_law_847 : decode cL_law 847 = .ok (.iadd, 1) := by decide +kernel
theorem dL_law_848 : decode cL_law 848 = .ok (.iaload, 1) := by decide +kernel
theorem dL_law_849 : decode cL_law 849 = .ok (.invokevirtual 101, 3) := by decide +kernel
theorem dL_law_852 : decode cL_law 852 = .ok (.lcmp, 1) := by decide +kernel
theorem dL_law_853 : decode cL_law 853 = .ok (.ifCond .eq 349, 3) := by decide +kernel
theorem dL_law_856 : decode cL_law 856 = .ok (.iconst 0, 1) := by decide +kernel
theorem dL_law_857 : decode cL_law 857 = .ok (.ireturn, 1) := by decide +kernel
theorem dL_law_858 : decode cL_law 858 = .ok (.aload_n 1, 1) := by decide +kernel
theorem dL_law_859 : decode cL_law 859 = .ok (.aload_n 0, 1) := by decide +kernel
theorem dL_law_860 : decode cL_law 860 = .ok (.iload_n 3, 1) := by decide +kernel
theorem dL_law_861 : decode cL_law 861 = .ok (.iconst 1, 1) := by decide +kernel
theorem dL_law_862 : decode cL_law 862 = .ok (.iadd, 1) := by decide +kernel
theorem dL_law_863 : decode cL_law 863 = .ok (.iaload, 1) := by decide +kernel
theorem dL_law_864 : decode cL_law 864 = .ok (.aload_n 0, 1) := by decide +kernel
theorem dL_law_865 : decode cL_law 865 = .ok (.iload_n 3, 1) := by decide +kernel
theorem dL_law_866 : decode cL_law 866 = .ok (.iconst 2, 1) := by decide +kernel
theorem dL_law_867 : decode cL_law 867 = .ok (.iadd, 1) := by decide +kernel
theorem dL_law_868 : decode cL_law 868 = .ok (.iaload, 1) := by decide +kernel
theorem dL_law_869 : decode cL_law 869 = .ok (.aload_n 0, 1) := by decide +kernel
theorem dL_law_870 : decode cL_law 870 = .ok (.iload_n 3, 1) := by decide +kernel
theorem dL_law_871 : decode cL_law 871 = .ok (.iconst 3, 1) := by decide +kernel
theorem dL_law_872 : decode cL_law 872 = .ok (.iadd, 1) := by decide +kernel
theorem dL_law_873 : decode cL_law 873 = .ok (.iaload, 1) := by decide +kernel
theorem dL_law_874 : decode cL_law 874 = .ok (.invokevirtual 102, 3) := by decide +kernel
theorem dL_law_877 : decode cL_law 877 = .ok (.aload_n 2, 1) := by decide +kernel
theorem dL_law_878 : decode cL_law 878 = .ok (.aload_n 0, 1) := by decide +kernel
theorem dL_law_879 : decode cL_law 879 = .ok (.iload_n 3, 1) := by decide +kernel
theorem dL_law_880 : decode cL_law 880 = .ok (.iconst 1, 1) := by decide +kernel
theorem dL_law_881 : decode cL_law 881 = .ok (.iadd, 1) := by decide +kernel
theorem dL_law_882 : decode cL_law 882 = .ok (.iaload, 1) := by decide +kernel
theorem dL_law_883 : decode cL_law 883 = .ok (.aload_n 0, 1) := by decide +kernel
theorem dL_law_884 : decode cL_law 884 = .ok (.iload_n 3, 1) := by decide +kernel
theorem dL_law_885 : decode cL_law 885 = .ok (.iconst 2, 1) := by decide +kernel
theorem dL_law_886 : decode cL_law 886 = .ok (.iadd, 1) := by decide +kernel
theorem dL_law_887 : decode cL_law 887 = .ok (.iaload, 1) := by decide +kernel
theorem dL_law_888 : decode cL_law 888 = .ok (.aload_n 0, 1) := by decide +kernel
theorem dL_law_889 : decode cL_law 889 = .ok (.iload_n 3, 1) := by decide +kernel
theorem dL_law_890 : decode cL_law 890 = .ok (.iconst 3, 1) := by decide +kernel
theorem dL_law_891 : decode cL_law 891 = .ok (.iadd, 1) := by decide +kernel
theorem dL_law_892 : decode cL_law 892 = .ok (.iaload, 1) := by decide +kernel
theorem dL_law_893 : decode cL_law 893 = .ok (.invokevirtual 105, 3) := by decide +kernel
theorem dL_law_896 : decode cL_law 896 = .ok (.if_icmp .eq 306, 3) := by decide +kernel
theorem dL_law_899 : decode cL_law 899 = .ok (.iconst 0, 1) := by decide +kernel
theorem dL_law_900 : decode cL_law 900 = .ok (.ireturn, 1) := by decide +kernel
theorem dL_law_901 : decode cL_law 901 = .ok (.aload_n 1, 1) := by decide +kernel
theorem dL_law_902 : decode cL_law 902 = .ok (.aload_n 0, 1) := by decide +kernel
theorem dL_law_903 : decode cL_law 903 = .ok (.iload_n 3, 1) := by decide +kernel
theorem dL_law_904 : decode cL_law 904 = .ok (.iconst 1, 1) := by decide +kernel
theorem dL_law_905 : decode cL_law 905 = .ok (.iadd, 1) := by decide +kernel
theorem dL_law_906 : decode cL_law 906 = .ok (.iaload, 1) := by decide +kernel
theorem dL_law_907 : decode cL_law 907 = .ok (.invokevirtual 106, 3) := by decide +kernel
theorem dL_law_910 : decode cL_law 910 = .ok (.aload_n 2, 1) := by decide +kernel
theorem dL_law_911 : decode cL_law 911 = .ok (.aload_n 0, 1) := by decide +kernel
theorem dL_law_912 : decode cL_law 912 = .ok (.iload_n 3, 1) := by decide +kernel
theorem dL_law_913 : decode cL_law 913 = .ok (.iconst 1, 1) := by decide +kernel
theorem dL_law_914 : decode cL_law 914 = .ok (.iadd, 1) := by decide +kernel
theorem dL_law_915 : decode cL_law 915 = .ok (.iaload, 1) := by decide +kernel
theorem dL_law_916 : decode cL_law 916 = .ok (.invokevirtual 109, 3) := by decide +kernel
theorem dL_law_919 : decode cL_law 919 = .ok (.if_icmp .eq 283, 3) := by decide +kernel
theorem dL_law_922 : decode cL_law 922 = .ok (.iconst 0, 1) := by decide +kernel
theorem dL_law_923 : decode cL_law 923 = .ok (.ireturn, 1) := by decide +kernel
theorem dL_law_924 : decode cL_law 924 = .ok (.aload_n 1, 1) := by decide +kernel
theorem dL_law_925 : decode cL_law 925 = .ok (.aload_n 0, 1) := by decide +kernel
theorem dL_law_926 : decode cL_law 926 = .ok (.iload_n 3, 1) := by decide +kernel
theorem dL_law_927 : decode cL_law 927 = .ok (.iconst 1, 1) := by decide +kernel
theorem dL_law_928 : decode cL_law 928 = .ok (.iadd, 1) := by decide +kernel
theorem dL_law_929 : decode cL_law 929 = .ok (.iaload, 1) := by decide +kernel
theorem dL_law_930 : decode cL_law 930 = .ok (.aload_n 0, 1) := by decide +kernel
theorem dL_law_931 : decode cL_law 931 = .ok (.iload_n 3, 1) := by decide +kernel
theorem dL_law_932 : decode cL_law 932 = .ok (.iconst 2, 1) := by decide +kernel
theorem dL_law_933 : decode cL_law 933 = .ok (.iadd, 1) := by decide +kernel
theorem dL_law_934 : decode cL_law 934 = .ok (.iaload, 1) := by decide +kernel
theorem dL_law_935 : decode cL_law 935 = .ok (.aload_n 0, 1) := by decide +kernel
theorem dL_law_936 : decode cL_law 936 = .ok (.iload_n 3, 1) := by decide +kernel
theorem dL_law_937 : decode cL_law 937 = .ok (.iconst 3, 1) := by decide +kernel
theorem dL_law_938 : decode cL_law 938 = .ok (.iadd, 1) := by decide +kernel
theorem dL_law_939 : decode cL_law 939 = .ok (.iaload, 1) := by decide +kernel
theorem dL_law_940 : decode cL_law 940 = .ok (.invokevirtual 110, 3) := by decide +kernel
theorem dL_law_943 : decode cL_law 943 = .ok (.aload_n 2, 1) := by decide +kernel
theorem dL_law_944 : decode cL_law 944 = .ok (.aload_n 0, 1) := by decide +kernel
theorem dL_law_945 : decode cL_law 945 = .ok (.iload_n 3, 1) := by decide +kernel
theorem dL_law_946 : decode cL_law 946 = .ok (.iconst 1, 1) := by decide +kernel
theorem dL_law_947 : decode cL_law 947 = .ok (.iadd, 1) := by decide +kernel
theorem dL_law_948 : decode cL_law 948 = .ok (.iaload, 1) := by decide +kernel
theorem dL_law_949 : decode cL_law 949 = .ok (.aload_n 0, 1) := by decide +kernel
theorem dL_law_950 : decode cL_law 950 = .ok (.iload_n 3, 1) := by decide +kernel
theorem dL_law_951 : decode cL_law 951 = .ok (.iconst 2, 1) := by decide +kernel
theorem dL_law_952 : decode cL_law 952 = .ok (.iadd, 1) := by decide +kernel
theorem dL_law_953 : decode cL_law 953 = .ok (.iaload, 1) := by decide +kernel
theorem dL_law_954 : decode cL_law 954 = .ok (.aload_n 0, 1) := by decide +kernel
theorem dL_law_955 : decode cL_law 955 = .ok (.iload_n 3, 1) := by decide +kernel
theorem dL_law_956 : decode cL_law 956 = .ok (.iconst 3, 1) := by decide +kernel
theorem dL_law_957 : decode cL_law 957 = .ok (.iadd, 1) := by decide +kernel
theorem dL_law_958 : decode cL_law 958 = .ok (.iaload, 1) := by decide +kernel
theorem dL_law_959 : decode cL_law 959 = .ok (.invokevirtual 113, 3) := by decide +kernel
theorem dL_law_962 : decode cL_law 962 = .ok (.if_icmp .eq 240, 3) := by decide +kernel
theorem dL_law_965 : decode cL_law 965 = .ok (.iconst 0, 1) := by decide +kernel
theorem dL_law_966 : decode cL_law 966 = .ok (.ireturn, 1) := by decide +kernel
theorem dL_law_967 : decode cL_law 967 = .ok (.aload_n 1, 1) := by decide +kernel
theorem dL_law_968 : decode cL_law 968 = .ok (.aload_n 0, 1) := by decide +kernel
theorem dL_law_969 : decode cL_law 969 = .ok (.iload_n 3, 1) := by decide +kernel
theorem dL_law_970 : decode cL_law 970 = .ok (.iconst 1, 1) := by decide +kernel
theorem dL_law_971 : decode cL_law 971 = .ok (.iadd, 1) := by decide +kernel
theorem dL_law_972 : decode cL_law 972 = .ok (.iaload, 1) := by decide +kernel
theorem dL_law_973 : decode cL_law 973 = .ok (.aload_n 0, 1) := by decide +kernel
theorem dL_law_974 : decode cL_law 974 = .ok (.iload_n 3, 1) := by decide +kernel
theorem dL_law_975 : decode cL_law 975 = .ok (.iconst 2, 1) := by decide +kernel
theorem dL_law_976 : decode cL_law 976 = .ok (.iadd, 1) := by decide +kernel
theorem dL_law_977 : decode cL_law 977 = .ok (.iaload, 1) := by decide +kernel
theorem dL_law_978 : decode cL_law 978 = .ok (.aload_n 0, 1) := by decide +kernel
theorem dL_law_979 : decode cL_law 979 = .ok (.iload_n 3, 1) := by decide +kernel
theorem dL_law_980 : decode cL_law 980 = .ok (.iconst 3, 1) := by decide +kernel
theorem dL_law_981 : decode cL_law 981 = .ok (.iadd, 1) := by decide +kernel
theorem dL_law_982 : decode cL_law 982 = .ok (.iaload, 1) := by decide +kernel
theorem dL_law_983 : decode cL_law 983 = .ok (.invokevirtual 114, 3) := by decide +kernel
theorem dL_law_986 : decode cL_law 986 = .ok (.aload_n 2, 1) := by decide +kernel
theorem dL_law_987 : decode cL_law 987 = .ok (.aload_n 0, 1) := by decide +kernel
theorem dL_law_988 : decode cL_law 988 = .ok (.iload_n 3, 1) := by decide +kernel
theorem dL_law_989 : decode cL_law 989 = .ok (.iconst 1, 1) := by decide +kernel
theorem dL_law_990 : decode cL_law 990 = .ok (.iadd, 1) := by decide +kernel
theorem dL_law_991 : decode cL_law 991 = .ok (.iaload, 1) := by decide +kernel
theorem dL_law_992 : decode cL_law 992 = .ok (.aload_n 0, 1) := by decide +kernel
theorem dL_law_993 : decode cL_law 993 = .ok (.iload_n 3, 1) := by decide +kernel
theorem dL_law_994 : decode cL_law 994 = .ok (.iconst 2, 1) := by decide +kernel
theorem dL_law_995 : decode cL_law 995 = .ok (.iadd, 1) := by decide +kernel
theorem dL_law_996 : decode cL_law 996 = .ok (.iaload, 1) := by decide +kernel
theorem dL_law_997 : decode cL_law 997 = .ok (.aload_n 0, 1) := by decide +kernel
theorem dL_law_998 : decode cL_law 998 = .ok (.iload_n 3, 1) := by decide +kernel
theorem dL_law_999 : decode cL_law 999 = .ok (.iconst 3, 1) := by decide +kernel
theorem dL_law_1000 : decode cL_law 1000 = .ok (.iadd, 1) := by decide +kernel
theorem dL_law_1001 : decode cL_law 1001 = .ok (.iaload, 1) := by decide +kernel
theorem dL_law_1002 : decode cL_law 1002 = .ok (.invokevirtual 117, 3) := by decide +kernel
theorem dL_law_1005 : decode cL_law 1005 = .ok (.lcmp, 1) := by decide +kernel
theorem dL_law_1006 : decode cL_law 1006 = .ok (.ifCond .eq 196, 3) := by decide +kernel
theorem dL_law_1009 : decode cL_law 1009 = .ok (.iconst 0, 1) := by decide +kernel
theorem dL_law_1010 : decode cL_law 1010 = .ok (.ireturn, 1) := by decide +kernel
theorem dL_law_1011 : decode cL_law 1011 = .ok (.aload_n 1, 1) := by decide +kernel
theorem dL_law_1012 : decode cL_law 1012 = .ok (.aload_n 0, 1) := by decide +kernel
theorem dL_law_1013 : decode cL_law 1013 = .ok (.iload_n 3, 1) := by decide +kernel
theorem dL_law_1014 : decode cL_law 1014 = .ok (.iconst 1, 1) := by decide +kernel
theorem dL_law_1015 : decode cL_law 1015 = .ok (.iadd, 1) := by decide +kernel
theorem dL_law_1016 : decode cL_law 1016 = .ok (.iaload, 1) := by decide +kernel
theorem dL_law_1017 : decode cL_law 1017 = .ok (.aload_n 0, 1) := by decide +kernel
theorem dL_law_1018 : decode cL_law 1018 = .ok (.iload_n 3, 1) := by decide +kernel
theorem dL_law_1019 : decode cL_law 1019 = .ok (.iconst 2, 1) := by decide +kernel
theorem dL_law_1020 : decode cL_law 1020 = .ok (.iadd, 1) := by decide +kernel
theorem dL_law_1021 : decode cL_law 1021 = .ok (.iaload, 1) := by decide +kernel
theorem dL_law_1022 : decode cL_law 1022 = .ok (.aload_n 0, 1) := by decide +kernel
theorem dL_law_1023 : decode cL_law 1023 = .ok (.iload_n 3, 1) := by decide +kernel
theorem dL_law_1024 : decode cL_law 1024 = .ok (.iconst 3, 1) := by decide +kernel
theorem dL_law_1025 : decode cL_law 1025 = .ok (.iadd, 1) := by decide +kernel
theorem dL_law_1026 : decode cL_law 1026 = .ok (.iaload, 1) := by decide +kernel
theorem dL_law_1027 : decode cL_law 1027 = .ok (.aload_n 0, 1) := by decide +kernel
theorem dL_law_1028 : decode cL_law 1028 = .ok (.iload_n 3, 1) := by decide +kernel
theorem dL_law_1029 : decode cL_law 1029 = .ok (.iconst 4, 1) := by decide +kernel
theorem dL_law_1030 : decode cL_law 1030 = .ok (.iadd, 1) := by decide +kernel
theorem dL_law_1031 : decode cL_law 1031 = .ok (.iaload, 1) := by decide +kernel
theorem dL_law_1032 : decode cL_law 1032 = .ok (.aload_n 0, 1) := by decide +kernel
theorem dL_law_1033 : decode cL_law 1033 = .ok (.iload_n 3, 1) := by decide +kernel
theorem dL_law_1034 : decode cL_law 1034 = .ok (.iconst 5, 1) := by decide +kernel
theorem dL_law_1035 : decode cL_law 1035 = .ok (.iadd, 1) := by decide +kernel
theorem dL_law_1036 : decode cL_law 1036 = .ok (.iaload, 1) := by decide +kernel
theorem dL_law_1037 : decode cL_law 1037 = .ok (.invokevirtual 118, 3) := by decide +kernel
theorem dL_law_1040 : decode cL_law 1040 = .ok (.aload_n 2, 1) := by decide +kernel
theorem dL_law_1041 : decode cL_law 1041 = .ok (.aload_n 0, 1) := by decide +kernel
theorem dL_law_1042 : decode cL_law 1042 = .ok (.iload_n 3, 1) := by decide +kernel
theorem dL_law_1043 : decode cL_law 1043 = .ok (.iconst 1, 1) := by decide +kernel
theorem dL_law_1044 : decode cL_law 1044 = .ok (.iadd, 1) := by decide +kernel
theorem dL_law_1045 : decode cL_law 1045 = .ok (.iaload, 1) := by decide +kernel
theorem dL_law_1046 : decode cL_law 1046 = .ok (.aload_n 0, 1) := by decide +kernel
theorem dL_law_1047 : decode cL_law 1047 = .ok (.iload_n 3, 1) := by decide +kernel
theorem dL_law_1048 : decode cL_law 1048 = .ok (.iconst 2, 1) := by decide +kernel
theorem dL_law_1049 : decode cL_law 1049 = .ok (.iadd, 1) := by decide +kernel
theorem dL_law_1050 : decode cL_law 1050 = .ok (.iaload, 1) := by decide +kernel
theorem dL_law_1051 : decode cL_law 1051 = .ok (.aload_n 0, 1) := by decide +kernel
theorem dL_law_1052 : decode cL_law 1052 = .ok (.iload_n 3, 1) := by decide +kernel
theorem dL_law_1053 : decode cL_law 1053 = .ok (.iconst 3, 1) := by decide +kernel
theorem dL_law_1054 : decode cL_law 1054 = .ok (.iadd, 1) := by decide +kernel
theorem dL_law_1055 : decode cL_law 1055 = .ok (.iaload, 1) := by decide +kernel
theorem dL_law_1056 : decode cL_law 1056 = .ok (.aload_n 0, 1) := by decide +kernel
theorem dL_law_1057 : decode cL_law 1057 = .ok (.iload_n 3, 1) := by decide +kernel
theorem dL_law_1058 : decode cL_law 1058 = .ok (.iconst 4, 1) := by decide +kernel
theorem dL_law_1059 : decode cL_law 1059 = .ok (.iadd, 1) := by decide +kernel
theorem dL_law_1060 : decode cL_law 1060 = .ok (.iaload, 1) := by decide +kernel
theorem dL_law_1061 : decode cL_law 1061 = .ok (.aload_n 0, 1) := by decide +kernel
theorem dL_law_1062 : decode cL_law 1062 = .ok (.iload_n 3, 1) := by decide +kernel
theorem dL_law_1063 : decode cL_law 1063 = .ok (.iconst 5, 1) := by decide +kernel
theorem dL_law_1064 : decode cL_law 1064 = .ok (.iadd, 1) := by decide +kernel
theorem dL_law_1065 : decode cL_law 1065 = .ok (.iaload, 1) := by decide +kernel
theorem dL_law_1066 : decode cL_law 1066 = .ok (.invokevirtual 121, 3) := by decide +kernel
theorem dL_law_1069 : decode cL_law 1069 = .ok (.if_icmp .eq 133, 3) := by decide +kernel
theorem dL_law_1072 : decode cL_law 1072 = .ok (.iconst 0, 1) := by decide +kernel
theorem dL_law_1073 : decode cL_law 1073 = .ok (.ireturn, 1) := by decide +kernel
theorem dL_law_1074 : decode cL_law 1074 = .ok (.aload_n 1, 1) := by decide +kernel
theorem dL_law_1075 : decode cL_law 1075 = .ok (.aload_n 0, 1) := by decide +kernel
theorem dL_law_1076 : decode cL_law 1076 = .ok (.iload_n 3, 1) := by decide +kernel
theorem dL_law_1077 : decode cL_law 1077 = .ok (.iconst 1, 1) := by decide +kernel
theorem dL_law_1078 : decode cL_law 1078 = .ok (.iadd, 1) := by decide +kernel
theorem dL_law_1079 : decode cL_law 1079 = .ok (.iaload, 1) := by decide +kernel
theorem dL_law_1080 : decode cL_law 1080 = .ok (.invokevirtual 122, 3) := by decide +kernel
theorem dL_law_1083 : decode cL_law 1083 = .ok (.aload_n 2, 1) := by decide +kernel
theorem dL_law_1084 : decode cL_law 1084 = .ok (.aload_n 0, 1) := by decide +kernel
theorem dL_law_1085 : decode cL_law 1085 = .ok (.iload_n 3, 1) := by decide +kernel
theorem dL_law_1086 : decode cL_law 1086 = .ok (.iconst 1, 1) := by decide +kernel
theorem dL_law_1087 : decode cL_law 1087 = .ok (.iadd, 1) := by decide +kernel
theorem dL_law_1088 : decode cL_law 1088 = .ok (.iaload, 1) := by decide +kernel
theorem dL_law_1089 : decode cL_law 1089 = .ok (.invokevirtual 125, 3) := by decide +kernel
theorem dL_law_1092 : decode cL_law 1092 = .ok (.if_icmp .eq 110, 3) := by decide +kernel
theorem dL_law_1095 : decode cL_law 1095 = .ok (.iconst 0, 1) := by decide +kernel
theorem dL_law_1096 : decode cL_law 1096 = .ok (.ireturn, 1) := by decide +kernel
theorem dL_law_1097 : decode cL_law 1097 = .ok (.aload_n 1, 1) := by decide +kernel
theorem dL_law_1098 : decode cL_law 1098 = .ok (.aload_n 0, 1) := by decide +kernel
theorem dL_law_1099 : decode cL_law 1099 = .ok (.iload_n 3, 1) := by decide +kernel
theorem dL_law_1100 : decode cL_law 1100 = .ok (.iconst 1, 1) := by decide +kernel
theorem dL_law_1101 : decode cL_law 1101 = .ok (.iadd, 1) := by decide +kernel
theorem dL_law_1102 : decode cL_law 1102 = .ok (.iaload, 1) := by decide +kernel
theorem dL_law_1103 : decode cL_law 1103 = .ok (.invokevirtual 126, 3) := by decide +kernel
theorem dL_law_1106 : decode cL_law 1106 = .ok (.aload_n 2, 1) := by decide +kernel
theorem dL_law_1107 : decode cL_law 1107 = .ok (.aload_n 0, 1) := by decide +kernel
theorem dL_law_1108 : decode cL_law 1108 = .ok (.iload_n 3, 1) := by decide +kernel
theorem dL_law_1109 : decode cL_law 1109 = .ok (.iconst 1, 1) := by decide +kernel
theorem dL_law_1110 : decode cL_law 1110 = .ok (.iadd, 1) := by decide +kernel
theorem dL_law_1111 : decode cL_law 1111 = .ok (.iaload, 1) := by decide +kernel
theorem dL_law_1112 : decode cL_law 1112 = .ok (.invokevirtual 129, 3) := by decide +kernel
theorem dL_law_1115 : decode cL_law 1115 = .ok (.if_icmp .eq 87, 3) := by decide +kernel
theorem dL_law_1118 : decode cL_law 1118 = .ok (.iconst 0, 1) := by decide +kernel
theorem dL_law_1119 : decode cL_law 1119 = .ok (.ireturn, 1) := by decide +kernel
theorem dL_law_1120 : decode cL_law 1120 = .ok (.aload_n 1, 1) := by decide +kernel
theorem dL_law_1121 : decode cL_law 1121 = .ok (.aload_n 0, 1) := by decide +kernel
theorem dL_law_1122 : decode cL_law 1122 = .ok (.iload_n 3, 1) := by decide +kernel
theorem dL_law_1123 : decode cL_law 1123 = .ok (.iconst 1, 1) := by decide +kernel
theorem dL_law_1124 : decode cL_law 1124 = .ok (.iadd, 1) := by decide +kernel
theorem dL_law_1125 : decode cL_law 1125 = .ok (.iaload, 1) := by decide +kernel
theorem dL_law_1126 : decode cL_law 1126 = .ok (.aload_n 0, 1) := by decide +kernel
theorem dL_law_1127 : decode cL_law 1127 = .ok (.iload_n 3, 1) := by decide +kernel
theorem dL_law_1128 : decode cL_law 1128 = .ok (.iconst 2, 1) := by decide +kernel
theorem dL_law_1129 : decode cL_law 1129 = .ok (.iadd, 1) := by decide +kernel
theorem dL_law_1130 : decode cL_law 1130 = .ok (.iaload, 1) := by decide +kernel
theorem dL_law_1131 : decode cL_law 1131 = .ok (.invokevirtual 130, 3) := by decide +kernel
theorem dL_law_1134 : decode cL_law 1134 = .ok (.aload_n 2, 1) := by decide +kernel
theorem dL_law_1135 : decode cL_law 1135 = .ok (.aload_n 0, 1) := by decide +kernel
theorem dL_law_1136 : decode cL_law 1136 = .ok (.iload_n 3, 1) := by decide +kernel
theorem dL_law_1137 : decode cL_law 1137 = .ok (.iconst 1, 1) := by decide +kernel
theorem dL_law_1138 : decode cL_law 1138 = .ok (.iadd, 1) := by decide +kernel
theorem dL_law_1139 : decode cL_law 1139 = .ok (.iaload, 1) := by decide +kernel
theorem dL_law_1140 : decode cL_law 1140 = .ok (.aload_n 0, 1) := by decide +kernel
theorem dL_law_1141 : decode cL_law 1141 = .ok (.iload_n 3, 1) := by decide +kernel
theorem dL_law_1142 : decode cL_law 1142 = .ok (.iconst 2, 1) := by decide +kernel
theorem dL_law_1143 : decode cL_law 1143 = .ok (.iadd, 1) := by decide +kernel
theorem dL_law_1144 : decode cL_law 1144 = .ok (.iaload, 1) := by decide +kernel
theorem dL_law_1145 : decode cL_law 1145 = .ok (.invokevirtual 133, 3) := by decide +kernel
theorem dL_law_1148 : decode cL_law 1148 = .ok (.if_icmp .eq 54, 3) := by decide +kernel
theorem dL_law_1151 : decode cL_law 1151 = .ok (.iconst 0, 1) := by decide +kernel
theorem dL_law_1152 : decode cL_law 1152 = .ok (.ireturn, 1) := by decide +kernel
theorem dL_law_1153 : decode cL_law 1153 = .ok (.aload_n 1, 1) := by decide +kernel
theorem dL_law_1154 : decode cL_law 1154 = .ok (.invokevirtual 134, 3) := by decide +kernel
theorem dL_law_1157 : decode cL_law 1157 = .ok (.aload_n 2, 1) := by decide +kernel
theorem dL_law_1158 : decode cL_law 1158 = .ok (.invokevirtual 137, 3) := by decide +kernel
theorem dL_law_1161 : decode cL_law 1161 = .ok (.if_icmp .eq 41, 3) := by decide +kernel
theorem dL_law_1164 : decode cL_law 1164 = .ok (.iconst 0, 1) := by decide +kernel
theorem dL_law_1165 : decode cL_law 1165 = .ok (.ireturn, 1) := by decide +kernel
theorem dL_law_1166 : decode cL_law 1166 = .ok (.aload_n 1, 1) := by decide +kernel
theorem dL_law_1167 : decode cL_law 1167 = .ok (.invokevirtual 138, 3) := by decide +kernel
theorem dL_law_1170 : decode cL_law 1170 = .ok (.aload_n 2, 1) := by decide +kernel
theorem dL_law_1171 : decode cL_law 1171 = .ok (.invokevirtual 141, 3) := by decide +kernel
theorem dL_law_1174 : decode cL_law 1174 = .ok (.if_icmp .eq 28, 3) := by decide +kernel
theorem dL_law_1177 : decode cL_law 1177 = .ok (.iconst 0, 1) := by decide +kernel
theorem dL_law_1178 : decode cL_law 1178 = .ok (.ireturn, 1) := by decide +kernel
theorem dL_law_1179 : decode cL_law 1179 = .ok (.aload_n 1, 1) := by decide +kernel
theorem dL_law_1180 : decode cL_law 1180 = .ok (.aload_n 0, 1) := by decide +kernel
theorem dL_law_1181 : decode cL_law 1181 = .ok (.iload_n 3, 1) := by decide +kernel
theorem dL_law_1182 : decode cL_law 1182 = .ok (.iconst 1, 1) := by decide +kernel
theorem dL_law_1183 : decode cL_law 1183 = .ok (.iadd, 1) := by decide +kernel
theorem dL_law_1184 : decode cL_law 1184 = .ok (.iaload, 1) := by decide +kernel
theorem dL_law_1185 : decode cL_law 1185 = .ok (.invokevirtual 142, 3) := by decide +kernel
theorem dL_law_1188 : decode cL_law 1188 = .ok (.aload_n 2, 1) := by decide +kernel
theorem dL_law_1189 : decode cL_law 1189 = .ok (.aload_n 0, 1) := by decide +kernel
theorem dL_law_1190 : decode cL_law 1190 = .ok (.iload_n 3, 1) := by decide +kernel
theorem dL_law_1191 : decode cL_law 1191 = .ok (.iconst 1, 1) := by decide +kernel
theorem dL_law_1192 : decode cL_law 1192 = .ok (.iadd, 1) := by decide +kernel
theorem dL_law_1193 : decode cL_law 1193 = .ok (.iaload, 1) := by decide +kernel
theorem dL_law_1194 : decode cL_law 1194 = .ok (.invokevirtual 145, 3) := by decide +kernel
theorem dL_law_1197 : decode cL_law 1197 = .ok (.if_icmp .eq 5, 3) := by decide +kernel
theorem dL_law_1200 : decode cL_law 1200 = .ok (.iconst 0, 1) := by decide +kernel
theorem dL_law_1201 : decode cL_law 1201 = .ok (.ireturn, 1) := by decide +kernel
theorem dL_law_1202 : decode cL_law 1202 = .ok (.iinc 3 6, 3) := by decide +kernel
theorem dL_law_1205 : decode cL_law 1205 = .ok (.goto (-1187), 3) := by decide +kernel
theorem dL_law_1208 : decode cL_law 1208 = .ok (.iconst 1, 1) := by decide +kernel
theorem dL_law_1209 : decode cL_law 1209 = .ok (.ireturn, 1) := by decide +kernel
abbrev vwCl : List vw_C := [(RX0, TX0, 4), (RX1, TX1, 4), (RX2, TX2, 4), (RX3, TX3, 5), (RX4, TX4, 4), (RX5, TX5, 2), (RX6, TX6, 8), (RX7, TX7, 3), (RX8, TX8, 12), (RX9, TX9, 1), (RX10, TX10, 13), (RX11, TX11, 39)]
end
section
/-! our own base: the four links between nest mates, one form of a contract's start, one form of its world behind -/
def nst (U : State) : Prop := va_Nw (.methodLinkNest RX3 34 yX10_isWithin RX10) U ∧ va_Nw (.methodLinkNest RX7 19 yX10_isWithin RX10) U ∧ va_Nw (.methodLinkNest RX10 44 yX7_init RX10) U ∧ va_Nw (.methodLinkNest RX10 51 yX9_init RX10) U
theorem nst_same {u U : State} (h : u.vm = U.vm) (hN : nst u) : nst U := ⟨va_Nw.same rfl h hN.1, va_Nw.same rfl h hN.2.1, va_Nw.same rfl h hN.2.2.1, va_Nw.same rfl h hN.2.2.2⟩
theorem nst_warm {s U : State} (hW : s.WarmedH U.vm) (hN : nst s) : nst U := ⟨va_Nw.warmM hW hN.1, va_Nw.warmM hW hN.2.1, va_Nw.warmM hW hN.2.2.1, va_Nw.warmM hW hN.2.2.2⟩
def pw (D : va_G) (tys : List (ClassId × FieldType)) (ws : va_W) (sz : Nat) (av : List Value) : Array Value → State → Prop := va_Pc av (fun U => U.heap.size = sz ∧ va_P D vwCl ws U.heap ∧ va_K D vwCl tys U ∧ va_D (fun _ => True) ws ∧ nst U)
theorem pw_blind {D : va_G} {tys : List (ClassId × FieldType)} {ws : va_W} {sz : Nat} {av : List Value} : FrameBlind (pw D tys ws sz av) := fun a U g mk q => by
  obtain ⟨q0, q1, qP, qK, qD, qN⟩ := q
  exact ⟨q0, q1, qP, va_K.moved (u := U) (U := U.calling g mk a) (Vm.Alike.refl U.vm) qK, qD, nst_same (u := U) (U := U.calling g mk a) rfl qN⟩
theorem pw_preS {s : State} {H : Heap} {D : va_G} {tys : List (ClassId × FieldType)} {ws : va_W} {A : Nat → Prop} {av : List Value} (hP : va_P D vwCl ws H) (hK : va_K D vwCl tys s) (hD : va_D A ws) (hN : nst s) : PreS s H (pw D tys ws H.size av) av :=
  ⟨pw_blind, fun U hU hW => ⟨rfl, by rw [hU], by rw [hU]; exact hP, va_K.moved hW.alike hK, hD.weaken (fun _ _ _ _ => trivial), nst_warm hW hN⟩⟩
theorem pw_preV {s : State} {H : Heap} {D : va_G} {tys : List (ClassId × FieldType)} {ws : va_W} {A : Nat → Prop} {C : String} {b : Addr} {As : List Value} (hr : ∃ cellB : Cell, H[b]? = some cellB ∧ cellB.vm.isStatics = false ∧ s.vm.findClass C = some cellB.cls) (hP : va_P D vwCl ws H) (hK : va_K D vwCl tys s) (hD : va_D A ws) (hN : nst s) : PreV s H C b (pw D tys ws H.size (.ref b :: As)) As :=
  ⟨pw_blind, hr, fun U hU hW => ⟨rfl, by rw [hU], by rw [hU]; exact hP, va_K.moved hW.alike hK, hD.weaken (fun _ _ _ _ => trivial), nst_warm hW hN⟩⟩
/-- a contract's preamble, once for all -/
theorem pw_met {l : Launch} {y : MethodName} {ws0 ws' : List Cond} {rm : Room} {D : va_G} {tys : List (ClassId × FieldType)} {ws : va_W} {sz : Nat} {av : List Value} {Qc : Array Value → State → Outcome → State → Prop} {mc ms : Nat} {free : Addr → Prop} {cc : ByteArray} {maxL : Nat} {ret : Option FieldType}
    (hy : plainName y.cls = true) (hw : ws0 = Cond.code y cc maxL ret :: ws') (hlen : (lg_sl av).length ≤ maxL)
    (body : ∀ (p : Program) (e : Env) (s : State) (m : MethodId) (below : List Frame) (meth : Method) (c : Code), p.tables.exec = Jvm.exec → c.code = cc → meth.sig.returnType = ret → c.maxLocals = maxL → s.vm.findClass y.cls = some m.cls → meth.locks = false → meth.name = y.name → (∀ w ∈ ws0, w.before av.toArray s = true) → va_P D vwCl ws s.heap → va_K D vwCl tys s → va_D (va_A ws s.heap.size) ws → nst s → s.heap.size = sz → (∀ q : Nat, s.heap.size ≤ q → va_A ws s.heap.size q) → va_S (va_A ws s.heap.size) s.heap s.heap [] → ∀ ls : Array Slot, lv_has ls maxL (lv_args 0 av) →
      W p l e rm s m av.toArray below meth c s.heap [] 0 0 (MQ below Qc av.toArray s mc ms free) (F0 m 0 ls [])) : Met l y ws0 rm (pw D tys ws sz av) Qc mc ms free := by
  refine Met.ofW (cc := cc) (maxL := maxL) (ret := ret) hy hw ?_
  intro p e s m args below meth c s₁ B hml hv
  obtain ⟨rfl, hsz, hP, hK, hD0, hN⟩ := hv
  have hts := atoms_spec (ws := ws0) B.pre
  have hown : s.vm.findClass y.cls = some m.cls := findClass_of_methodNamed B.named
  have hl := lv_entry av (n := maxL) hlen
  rw [lg_entry_eq]
  generalize (lg_sl av ++ List.replicate (maxL - (lg_sl av).length) Slot.unset).toArray = ls at hl ⊢
  exact body p e s m below meth c B.exec B.bytes B.returns hml hown B.notSynchronized (name_of_methodNamed B.named B.method).1 hts hP hK (hD0.self (sz := s.heap.size)) hN hsz (fun q h => Or.inr h) va_S.rf ls hl
/-- the world behind a method -/
def bw (D : va_G) (tys : List (ClassId × FieldType)) (A : Nat → Prop) (ws : va_W) (t : State) : Prop := va_P D vwCl ws t.heap ∧ va_K D vwCl tys t ∧ va_D A ws
end
section
/-! plain facts on numbers and arrays, to paste: each family by itself; over the kit's rows on nI and upd -/
/-! ===== order of ints, in all its forms, and through longs ===== -/
theorem fa_lt (a b : Int32) : a < b ↔ a.toInt < b.toInt := Int32.lt_iff_toInt_lt
theorem fa_le (a b : Int32) : a ≤ b ↔ a.toInt ≤ b.toInt := Int32.le_iff_toInt_le
theorem fa_eq (a b : Int32) : a = b ↔ a.toInt = b.toInt := Int32.toInt_inj.symm
theorem fa_lt64 (a b : Int64) : a < b ↔ a.toInt < b.toInt := Int64.lt_iff_toInt_lt
theorem fa_le64 (a b : Int64) : a ≤ b ↔ a.toInt ≤ b.toInt := Int64.le_iff_toInt_le
theorem fa_eq64 (a b : Int64) : a = b ↔ a.toInt = b.toInt := Int64.toInt_inj.symm
/-- a comparison of two ints taken as longs -/
theorem fa_wide_lt (a b : Int32) : a.toInt64 < b.toInt64 ↔ a < b := by rw [fa_lt64, fa_lt, Int32.toInt_toInt64, Int32.toInt_toInt64]
theorem fa_wide_le (a b : Int32) : a.toInt64 ≤ b.toInt64 ↔ a ≤ b := by rw [fa_le64, fa_le, Int32.toInt_toInt64, Int32.toInt_toInt64]
theorem fa_wide_eq (a b : Int32) : a.toInt64 = b.toInt64 ↔ a = b := by rw [fa_eq64, fa_eq, Int32.toInt_toInt64, Int32.toInt_toInt64]
/-- one strict comparison gives all the others -/
theorem fa_of_lt {a b : Int32} (h : a < b) : a ≤ b ∧ ¬ b ≤ a ∧ ¬ b < a ∧ a ≠ b ∧ b ≠ a := by
  rw [fa_lt] at h
  refine ⟨?_, ?_, ?_, ?_, ?_⟩
  · rw [fa_le]; omega
  · rw [fa_le]; omega
  · rw [fa_lt]; omega
  · intro e; rw [fa_eq] at e; omega
  · intro e; rw [fa_eq] at e; omega
theorem fa_of_nlt {a b : Int32} (h : ¬ a < b) : b ≤ a := by
  rw [fa_lt] at h
  rw [fa_le]
  omega
theorem fa_of_nle {a b : Int32} (h : ¬ a ≤ b) : b < a := by
  rw [fa_le] at h
  rw [fa_lt]
  omega
theorem fa_le_ne {a b : Int32} (h : a ≤ b) (h2 : a ≠ b) : a < b := by
  rw [fa_le] at h
  rw [fa_lt]
  have h3 : a.toInt ≠ b.toInt := fun e => h2 ((fa_eq a b).mpr e)
  omega
theorem fa_three (a b : Int32) : a < b ∨ a = b ∨ b < a := by
  rw [fa_lt, fa_lt, fa_eq]
  omega
theorem fa_trans {a b c : Int32} (h : a < b) (h2 : b ≤ c) : a < c := by
  rw [fa_lt] at *
  rw [fa_le] at h2
  omega
/-! ===== small literals as numbers ===== -/
theorem fa_lit (n : Nat) : (OfNat.ofNat n : Int32) = nI n := rfl
theorem fa_litL (n : Nat) : (OfNat.ofNat n : Int64) = lN n := rfl
/-! ===== bits of a number: 'or', masks, one bit ===== -/
theorem fa_and (a b : Nat) : nI a &&& nI b = nI (a &&& b) := by
  apply Int32.toBitVec_inj.1
  show BitVec.ofNat 32 a &&& BitVec.ofNat 32 b = BitVec.ofNat 32 (a &&& b)
  apply BitVec.eq_of_getLsbD_eq
  intro i hi
  simp [hi]
theorem fa_or (a b : Nat) : nI a ||| nI b = nI (a ||| b) := by
  apply Int32.toBitVec_inj.1
  show BitVec.ofNat 32 a ||| BitVec.ofNat 32 b = BitVec.ofNat 32 (a ||| b)
  apply BitVec.eq_of_getLsbD_eq
  intro i hi
  simp [hi]
/-- a remainder by a power of two, as a mask -/
theorem fa_mask (n k : Nat) : nI n &&& nI (2 ^ k - 1) = nI (n % 2 ^ k) := by rw [fa_and, Nat.and_two_pow_sub_one_eq_mod]
/-- 'or' of a high part and a low one that don't meet is their sum -/
theorem fa_or_sum {a k : Nat} (b : Nat) (h : a < 2 ^ k) : nI (2 ^ k * b) ||| nI a = nI (2 ^ k * b + a) := by rw [fa_or, Nat.two_pow_add_eq_or_of_lt h]
/-- one bit, by 'and' with a power of two -/
theorem fa_bit {n j : Nat} (hj : j < 31) : nI n &&& nI (2 ^ j) = 0 ↔ n.testBit j = false := by
  have h2 : (2 : Nat) ^ j < 2 ^ 31 := Nat.pow_lt_pow_right (by decide) hj
  have hle : n &&& 2 ^ j ≤ 2 ^ j := Nat.and_le_right
  have e : n &&& 2 ^ j = 0 ↔ n.testBit j = false := by
    constructor
    · intro h
      have h1 : (n &&& 2 ^ j).testBit j = false := by rw [h]; simp
      rw [Nat.testBit_and] at h1
      first | simpa using h1 | simpa [Nat.testBit_two_pow_self] using h1 | simpa [Nat.testBit_two_pow] using h1
    · intro h
      apply Nat.eq_of_testBit_eq
      intro i
      rw [Nat.testBit_and]
      by_cases hi : j = i
      · subst hi; simp [h]
      · first | (simp [Nat.testBit_two_pow, hi]; done) | (simp [Nat.testBit_two_pow_of_ne hi]; done)
  rw [fa_and]
  constructor
  · intro h
    apply e.mp
    rcases Nat.eq_zero_or_pos (n &&& 2 ^ j) with z | z
    · exact z
    · exact absurd h (nI_ne0 z (Nat.lt_of_le_of_lt hle h2))
  · intro h
    rw [e.mpr h]; exact nI_0
/-- a remainder by a power of two of a number that isn't negative, as Java divides -/
theorem fa_rem {a k : Nat} (ha : a < 2 ^ 31) (hk : k < 31) : nI a - nI a / nI (2 ^ k) * nI (2 ^ k) = nI (a % 2 ^ k) := pk_rem ha (Nat.two_pow_pos k) (Nat.pow_lt_pow_right (by decide) hk)
/-! ===== cuts to a byte, a short ===== -/
theorem fa_byte_xor (x y : Int32) : (x ^^^ y).toInt8 = x.toInt8 ^^^ y.toInt8 := by
  apply Int8.toBitVec_inj.1
  apply BitVec.eq_of_getLsbD_eq
  intro i hi
  first | (simp [hi]; done) | (simp [hi, BitVec.getLsbD_setWidth, BitVec.getLsbD_signExtend]; done)
theorem fa_short_xor (x y : Int32) : (x ^^^ y).toInt16 = x.toInt16 ^^^ y.toInt16 := by
  apply Int16.toBitVec_inj.1
  apply BitVec.eq_of_getLsbD_eq
  intro i hi
  first | (simp [hi]; done) | (simp [hi, BitVec.getLsbD_setWidth, BitVec.getLsbD_signExtend]; done)
/-- the cut to a byte sees the low byte alone -/
theorem fa_byte_low (x : Int32) : (x &&& 255).toInt8 = x.toInt8 := by
  apply Int8.toBitVec_inj.1
  apply BitVec.eq_of_getLsbD_eq
  intro i hi
  have h2 : (255 : Int32).toBitVec.getLsbD i = true := by
    have : ∀ j : Fin 8, (255 : Int32).toBitVec.getLsbD j.val = true := by decide +kernel
    exact this ⟨i, hi⟩
  have h4 : (x &&& 255).toBitVec.getLsbD i = x.toBitVec.getLsbD i := by
    show (x.toBitVec &&& (255 : Int32).toBitVec).getLsbD i = _
    rw [BitVec.getLsbD_and, h2, Bool.and_true]
  have h3 : i < 32 := by omega
  first
    | (show (((x &&& 255).toBitVec).signExtend 8).getLsbD i = (x.toBitVec.signExtend 8).getLsbD i; rw [BitVec.getLsbD_signExtend, BitVec.getLsbD_signExtend, if_pos h3, if_pos h3, h4])
    | (show (((x &&& 255).toBitVec).setWidth 8).getLsbD i = (x.toBitVec.setWidth 8).getLsbD i; rw [BitVec.getLsbD_setWidth, BitVec.getLsbD_setWidth, h4])
    | (simp [hi, h3, h4]; done)
theorem fa_short_low (x : Int32) : (x &&& 65535).toInt16 = x.toInt16 := by
  apply Int16.toBitVec_inj.1
  apply BitVec.eq_of_getLsbD_eq
  intro i hi
  have h2 : (65535 : Int32).toBitVec.getLsbD i = true := by
    have : ∀ j : Fin 16, (65535 : Int32).toBitVec.getLsbD j.val = true := by decide +kernel
    exact this ⟨i, hi⟩
  have h4 : (x &&& 65535).toBitVec.getLsbD i = x.toBitVec.getLsbD i := by
    show (x.toBitVec &&& (65535 : Int32).toBitVec).getLsbD i = _
    rw [BitVec.getLsbD_and, h2, Bool.and_true]
  have h3 : i < 32 := by omega
  first
    | (show (((x &&& 65535).toBitVec).signExtend 16).getLsbD i = (x.toBitVec.signExtend 16).getLsbD i; rw [BitVec.getLsbD_signExtend, BitVec.getLsbD_signExtend, if_pos h3, if_pos h3, h4])
    | (show (((x &&& 65535).toBitVec).setWidth 16).getLsbD i = (x.toBitVec.setWidth 16).getLsbD i; rw [BitVec.getLsbD_setWidth, BitVec.getLsbD_setWidth, h4])
    | (simp [hi, h3, h4]; done)
/-- a small number is its own byte, its own short -/
theorem fa_byte_small {n : Nat} (h : n < 128) : (nI n).toInt8.toInt32 = nI n := by
  have : ∀ j : Fin 128, (nI j.val).toInt8.toInt32 = nI j.val := by decide +kernel
  exact this ⟨n, h⟩
/-! ===== absolute difference ===== -/
theorem fa_absdiff {a b : Nat} (ha : a < 2 ^ 31) (hb : b < 2 ^ 31) : (if nI a < nI b then nI b - nI a else nI a - nI b) = nI (if a < b then b - a else a - b) := by
  by_cases h : a < b
  · rw [if_pos (nI_lt h hb), if_pos h]
    exact pk_sub (Nat.le_of_lt h)
  · rw [if_neg (nI_nlt (Nat.le_of_not_lt h) ha), if_neg h]
    exact pk_sub (Nat.le_of_not_lt h)
/-! ===== an array behind i stores, a conditional store, a row copied ===== -/
/-- f where k < i, what stood there else -/
def fa_fill {α : Type} (f g : Nat → α) (i : Nat) : Nat → α := fun k => if k < i then f k else g k
theorem fa_fill_0 {α : Type} (f g : Nat → α) : fa_fill f g 0 = g := funext fun k => if_neg (Nat.not_lt_zero k)
theorem fa_fill_in {α : Type} {f g : Nat → α} {i k : Nat} (h : k < i) : fa_fill f g i k = f k := if_pos h
theorem fa_fill_out {α : Type} {f g : Nat → α} {i k : Nat} (h : i ≤ k) : fa_fill f g i k = g k := if_neg (Nat.not_lt.mpr h)
theorem fa_fill_succ (f g : Nat → Int32) (i : Nat) : upd (fa_fill f g i) i (f i) = fa_fill f g (i + 1) := by
  funext k
  by_cases e : k = i
  · subst e
    rw [pk_us]
    exact (if_pos (Nat.lt_succ_self k)).symm
  · rw [pk_un e]
    by_cases h : k < i
    · rw [fa_fill_in h, fa_fill_in (Nat.lt_succ_of_lt h)]
    · rw [fa_fill_out (Nat.le_of_not_lt h), fa_fill_out (by omega)]
/-- a store that changes nothing -/
theorem fa_upd_same {f : Nat → Int32} {i : Nat} {x : Int32} (h : f i = x) : upd f i x = f := by
  funext k
  by_cases e : k = i
  · subst e
    rw [pk_us, h]
  · rw [pk_un e]
/-- a store under a condition, told as one -/
theorem fa_upd_if (c : Prop) [Decidable c] (f : Nat → Int32) (i : Nat) (x : Int32) : (if c then upd f i x else f) = upd f i (if c then x else f i) := by
  by_cases h : c
  · rw [if_pos h, if_pos h]
  · rw [if_neg h, if_neg h, fa_upd_same rfl]
/-- two stores at one place, at two -/
theorem fa_upd_twice (f : Nat → Int32) (i : Nat) (x y : Int32) : upd (upd f i x) i y = upd f i y := by
  funext k
  by_cases e : k = i
  · subst e
    rw [pk_us, pk_us]
  · rw [pk_un e, pk_un e, pk_un e]
theorem fa_upd_swap (f : Nat → Int32) {i j : Nat} (h : i ≠ j) (x y : Int32) : upd (upd f i x) j y = upd (upd f j y) i x := by
  funext k
  by_cases e : k = i
  · subst e
    rw [pk_un h, pk_us, pk_us]
  · by_cases e2 : k = j
    · subst e2
      rw [pk_us, pk_un e, pk_us]
    · rw [pk_un e2, pk_un e, pk_un e, pk_un e2]
/-! ===== the first index with a property; a count ===== -/
/-- the first k < n with p k, n if there is none -/
def fa_first (p : Nat → Bool) : Nat → Nat
  | 0 => 0
  | n + 1 => if fa_first p n < n then fa_first p n else if p n then n else n + 1
theorem fa_first_le (p : Nat → Bool) : ∀ n, fa_first p n ≤ n
  | 0 => Nat.le_refl 0
  | n + 1 => by
    have ih := fa_first_le p n
    unfold fa_first
    split
    · omega
    · split
      · omega
      · omega
theorem fa_first_no (p : Nat → Bool) : ∀ n k, k < fa_first p n → p k = false
  | 0, k, h => absurd h (Nat.not_lt_zero k)
  | n + 1, k, h => by
    have ih := fa_first_no p n
    have hl := fa_first_le p n
    unfold fa_first at h
    split at h
    · exact ih k h
    · rename_i h1
      split at h
      · exact ih k (by omega)
      · rename_i h2
        by_cases e : k = n
        · subst e
          exact Bool.eq_false_iff.mpr h2
        · exact ih k (by omega)
theorem fa_first_yes (p : Nat → Bool) : ∀ n, fa_first p n < n → p (fa_first p n) = true
  | 0, h => absurd h (Nat.not_lt_zero _)
  | n + 1, h => by
    have ih := fa_first_yes p n
    have hl := fa_first_le p n
    unfold fa_first at h ⊢
    split at h
    · rename_i h1
      rw [if_pos h1]
      exact ih h1
    · rename_i h1
      rw [if_neg h1]
      split at h
      · rename_i h2
        rw [if_pos h2]
        exact h2
      · omega
/-- how many k < n have p k -/
def fa_cnt (p : Nat → Bool) : Nat → Nat
  | 0 => 0
  | n + 1 => fa_cnt p n + if p n then 1 else 0
theorem fa_cnt_le (p : Nat → Bool) : ∀ n, fa_cnt p n ≤ n
  | 0 => Nat.le_refl 0
  | n + 1 => by
    have ih := fa_cnt_le p n
    unfold fa_cnt
    split
    · omega
    · omega
theorem fa_cnt_yes {p : Nat → Bool} {n : Nat} (h : p n = true) : fa_cnt p (n + 1) = fa_cnt p n + 1 := by rw [fa_cnt, if_pos h]
theorem fa_cnt_no {p : Nat → Bool} {n : Nat} (h : p n = false) : fa_cnt p (n + 1) = fa_cnt p n := by rw [fa_cnt, if_neg (by rw [h]; decide)]; rfl
theorem fa_cnt_cong {p q : Nat → Bool} : ∀ {n : Nat}, (∀ k, k < n → p k = q k) → fa_cnt p n = fa_cnt q n
  | 0, _ => rfl
  | n + 1, h => by rw [fa_cnt, fa_cnt, fa_cnt_cong (fun k hk => h k (Nat.lt_succ_of_lt hk)), h n (Nat.lt_succ_self n)]
/-! ===== an answer carried into a post; a branch on a boolean answer ===== -/
theorem fa_post {α : Type} {P : α → Prop} {x y : α} (h : x = y) (hp : P y) : P x := h ▸ hp
theorem fa_post2 {α β : Type} {P : α → β → Prop} {x y : α} {u v : β} (h : x = y) (h2 : u = v) (hp : P y v) : P x u := h ▸ h2 ▸ hp
theorem fa_bool {r : Int32} {b : Bool} (h : r = if b then 1 else 0) : (r = 0 ↔ b = false) ∧ (¬ r = 0 ↔ b = true) := by
  subst h
  cases b
  · exact ⟨⟨fun _ => rfl, fun _ => rfl⟩, ⟨fun h => absurd rfl h, fun h => absurd h (by decide)⟩⟩
  · exact ⟨⟨fun h => absurd h (by decide), fun h => absurd h (by decide)⟩, ⟨fun _ => rfl, fun _ => by decide⟩⟩
/-- a boolean's narrowing changes nothing -/
theorem fa_bool_and {r : Int32} (h : r = 0 ∨ r = 1) : r &&& 1 = r := by
  rcases h with rfl | rfl
  · decide
  · decide
theorem fa_bool_prop {c : Prop} [Decidable c] {r : Int32} (h : r = if c then 1 else 0) : (r = 0 ↔ ¬ c) ∧ (¬ r = 0 ↔ c) := by
  subst h
  by_cases hc : c
  · rw [if_pos hc]
    exact ⟨⟨fun h => absurd h (by decide), fun h => absurd hc h⟩, ⟨fun _ => hc, fun _ => by decide⟩⟩
  · rw [if_neg hc]
    exact ⟨⟨fun _ => hc, fun _ => rfl⟩, ⟨fun h => absurd rfl h, fun h => absurd h hc⟩⟩
end
section
theorem zz_last : True := trivial
end
