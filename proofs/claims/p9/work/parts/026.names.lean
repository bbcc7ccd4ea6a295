set_option maxRecDepth 20000 in
theorem ggL_law_X11_debt : GoodIn wsL_law wsX11_debt := goodIn_s sL_wsX11_debt (by decide +kernel)
set_option maxRecDepth 20000 in
theorem gL_law_X11_debt : GoodIn wsL_law (wsV RL 89 RX11 yX11_debt wsX11_debt) := goodIn_app (goodIn_r _ [572, 573, 574, 5] (by decide +kernel) (by decide +kernel)) ggL_law_X11_debt
set_option maxRecDepth 20000 in
theorem ggL_law_X10_suspects : GoodIn wsL_law wsX10_suspects := goodIn_s sL_wsX10_suspects (by decide +kernel)
set_option maxRecDepth 20000 in
theorem gL_law_X10_suspects : GoodIn wsL_law (wsV RL 90 RX10 yX10_suspects wsX10_suspects) := goodIn_app (goodIn_r _ [576, 577, 578, 2] (by decide +kernel) (by decide +kernel)) ggL_law_X10_suspects
set_option maxRecDepth 20000 in
theorem ggL_law_X11_suspects : GoodIn wsL_law wsX11_suspects := goodIn_s sL_wsX11_suspects (by decide +kernel)
set_option maxRecDepth 20000 in
theorem gL_law_X11_suspects : GoodIn wsL_law (wsV RL 93 RX11 yX11_suspects wsX11_suspects) := goodIn_app (goodIn_r _ [590, 591, 592, 5] (by decide +kernel) (by decide +kernel)) ggL_law_X11_suspects
set_option maxRecDepth 20000 in
theorem ggL_law_X10_suspect : GoodIn wsL_law wsX10_suspect := goodIn_s sL_wsX10_suspect (by decide +kernel)
set_option maxRecDepth 20000 in
theorem gL_law_X10_suspect : GoodIn wsL_law (wsV RL 94 RX10 yX10_suspect wsX10_suspect) := goodIn_app (goodIn_r _ [598, 599, 600, 2] (by decide +kernel) (by decide +kernel)) ggL_law_X10_suspect
set_option maxRecDepth 20000 in
theorem ggL_law_X11_suspect : GoodIn wsL_law wsX11_suspect := goodIn_s sL_wsX11_suspect (by decide +kernel)
set_option maxRecDepth 20000 in
theorem gL_law_X11_suspect : GoodIn wsL_law (wsV RL 97 RX11 yX11_suspect wsX11_suspect) := goodIn_app (goodIn_r _ [602, 603, 604, 5] (by decide +kernel) (by decide +kernel)) ggL_law_X11_suspect
set_option maxRecDepth 20000 in
theorem ggL_law_X10_skill : GoodIn wsL_law wsX10_skill := goodIn_s sL_wsX10_skill (by decide +kernel)
set_option maxRecDepth 20000 in
theorem gL_law_X10_skill : GoodIn wsL_law (wsV RL 98 RX10 yX10_skill wsX10_skill) := goodIn_app (goodIn_r _ [606, 607, 608, 2] (by decide +kernel) (by decide +kernel)) ggL_law_X10_skill
set_option maxRecDepth 20000 in
theorem ggL_law_X11_skill : GoodIn wsL_law wsX11_skill := goodIn_s sL_wsX11_skill (by decide +kernel)
set_option maxRecDepth 20000 in
theorem gL_law_X11_skill : GoodIn wsL_law (wsV RL 101 RX11 yX11_skill wsX11_skill) := goodIn_app (goodIn_r _ [614, 615, 616, 5] (by decide +kernel) (by decide +kernel)) ggL_law_X11_skill
set_option maxRecDepth 20000 in
theorem ggL_law_X10_sheet : GoodIn wsL_law wsX10_sheet := goodIn_s sL_wsX10_sheet (by decide +kernel)
set_option maxRecDepth 20000 in
theorem gL_law_X10_sheet : GoodIn wsL_law (wsV RL 102 RX10 yX10_sheet wsX10_sheet) := goodIn_app (goodIn_r _ [621, 622, 623, 2] (by decide +kernel) (by decide +kernel)) ggL_law_X10_sheet
set_option maxRecDepth 20000 in
theorem ggL_law_X11_sheet : GoodIn wsL_law wsX11_sheet := goodIn_s sL_wsX11_sheet (by decide +kernel)
set_option maxRecDepth 20000 in
theorem gL_law_X11_sheet : GoodIn wsL_law (wsV RL 105 RX11 yX11_sheet wsX11_sheet) := goodIn_app (goodIn_r _ [630, 631, 632, 5] (by decide +kernel) (by decide +kernel)) ggL_law_X11_sheet
set_option maxRecDepth 20000 in
theorem ggL_law_X10_lose : GoodIn wsL_law wsX10_lose := goodIn_s sL_wsX10_lose (by decide +kernel)
set_option maxRecDepth 20000 in
theorem gL_law_X10_lose : GoodIn wsL_law (wsV RL 106 RX10 yX10_lose wsX10_lose) := goodIn_app (goodIn_r _ [634, 635, 636, 2] (by decide +kernel) (by decide +kernel)) ggL_law_X10_lose
set_option maxRecDepth 20000 in
theorem ggL_law_X11_lose : GoodIn wsL_law wsX11_lose := goodIn_s sL_wsX11_lose (by decide +kernel)
set_option maxRecDepth 20000 in
theorem gL_law_X11_lose : GoodIn wsL_law (wsV RL 109 RX11 yX11_lose wsX11_lose) := goodIn_app (goodIn_r _ [639, 640, 641, 5] (by decide +kernel) (by decide +kernel)) ggL_law_X11_lose
set_option maxRecDepth 20000 in
theorem ggL_law_X10_put : GoodIn wsL_law wsX10_put := goodIn_s sL_wsX10_put (by decide +kernel)
set_option maxRecDepth 20000 in
theorem gL_law_X10_put : GoodIn wsL_law (wsV RL 110 RX10 yX10_put wsX10_put) := goodIn_app (goodIn_r _ [643, 644, 645, 2] (by decide +kernel) (by decide +kernel)) ggL_law_X10_put
set_option maxRecDepth 20000 in
theorem ggL_law_X11_put : GoodIn wsL_law wsX11_put := goodIn_s sL_wsX11_put (by decide +kernel)
set_option maxRecDepth 20000 in
theorem gL_law_X11_put : GoodIn wsL_law (wsV RL 113 RX11 yX11_put wsX11_put) := goodIn_app (goodIn_r _ [651, 652, 653, 5] (by decide +kernel) (by decide +kernel)) ggL_law_X11_put
set_option maxRecDepth 20000 in
theorem ggL_law_X10_cell : GoodIn wsL_law wsX10_cell := goodIn_s sL_wsX10_cell (by decide +kernel)
set_option maxRecDepth 20000 in
theorem gL_law_X10_cell : GoodIn wsL_law (wsV RL 114 RX10 yX10_cell wsX10_cell) := goodIn_app (goodIn_r _ [659, 660, 661, 2] (by decide +kernel) (by decide +kernel)) ggL_law_X10_cell
set_option maxRecDepth 20000 in
theorem ggL_law_X11_cell : GoodIn wsL_law wsX11_cell := goodIn_s sL_wsX11_cell (by decide +kernel)
set_option maxRecDepth 20000 in
theorem gL_law_X11_cell : GoodIn wsL_law (wsV RL 117 RX11 yX11_cell wsX11_cell) := goodIn_app (goodIn_r _ [663, 664, 665, 5] (by decide +kernel) (by decide +kernel)) ggL_law_X11_cell
set_option maxRecDepth 20000 in
theorem ggL_law_X10_copy : GoodIn wsL_law wsX10_copy := goodIn_s sL_wsX10_copy (by decide +kernel)
set_option maxRecDepth 20000 in
theorem gL_law_X10_copy : GoodIn wsL_law (wsV RL 118 RX10 yX10_copy wsX10_copy) := goodIn_app (goodIn_r _ [671, 672, 673, 2] (by decide +kernel) (by decide +kernel)) ggL_law_X10_copy
set_option maxRecDepth 20000 in
theorem ggL_law_X11_copy : GoodIn wsL_law wsX11_copy := goodIn_s sL_wsX11_copy (by decide +kernel)
set_option maxRecDepth 20000 in
theorem gL_law_X11_copy : GoodIn wsL_law (wsV RL 121 RX11 yX11_copy wsX11_copy) := goodIn_app (goodIn_r _ [677, 678, 679, 5] (by decide +kernel) (by decide +kernel)) ggL_law_X11_copy
set_option maxRecDepth 20000 in
theorem ggL_law_X10_tell : GoodIn wsL_law wsX10_tell := goodIn_s sL_wsX10_tell (by decide +kernel)
set_option maxRecDepth 20000 in
theorem gL_law_X10_tell : GoodIn wsL_law (wsV RL 122 RX10 yX10_tell wsX10_tell) := goodIn_app (goodIn_r _ [681, 682, 683, 2] (by decide +kernel) (by decide +kernel)) ggL_law_X10_tell
set_option maxRecDepth 20000 in
theorem ggL_law_X11_tell : GoodIn wsL_law wsX11_tell := goodIn_s sL_wsX11_tell (by decide +kernel)
set_option maxRecDepth 20000 in
theorem gL_law_X11_tell : GoodIn wsL_law (wsV RL 125 RX11 yX11_tell wsX11_tell) := goodIn_app (goodIn_r _ [721, 722, 723, 5] (by decide +kernel) (by decide +kernel)) ggL_law_X11_tell
set_option maxRecDepth 20000 in
theorem ggL_law_X10_greet : GoodIn wsL_law wsX10_greet := goodIn_s sL_wsX10_greet (by decide +kernel)
set_option maxRecDepth 20000 in
theorem gL_law_X10_greet : GoodIn wsL_law (wsV RL 126 RX10 yX10_greet wsX10_greet) := goodIn_app (goodIn_r _ [734, 735, 736, 2] (by decide +kernel) (by decide +kernel)) ggL_law_X10_greet
set_option maxRecDepth 20000 in
theorem ggL_law_X11_greet : GoodIn wsL_law wsX11_greet := goodIn_s sL_wsX11_greet (by decide +kernel)
set_option maxRecDepth 20000 in
theorem gL_law_X11_greet : GoodIn wsL_law (wsV RL 129 RX11 yX11_greet wsX11_greet) := goodIn_app (goodIn_r _ [754, 755, 756, 5] (by decide +kernel) (by decide +kernel)) ggL_law_X11_greet
set_option maxRecDepth 20000 in
theorem ggL_law_X10_as : GoodIn wsL_law wsX10_as := goodIn_s sL_wsX10_as (by decide +kernel)
set_option maxRecDepth 20000 in
theorem gL_law_X10_as : GoodIn wsL_law (wsV RL 130 RX10 yX10_as wsX10_as) := goodIn_app (goodIn_r _ [758, 759, 760, 2] (by decide +kernel) (by decide +kernel)) ggL_law_X10_as
set_option maxRecDepth 20000 in
theorem ggL_law_X11_as : GoodIn wsL_law wsX11_as := goodIn_s sL_wsX11_as (by decide +kernel)
set_option maxRecDepth 20000 in
theorem gL_law_X11_as : GoodIn wsL_law (wsV RL 133 RX11 yX11_as wsX11_as) := goodIn_app (goodIn_r _ [767, 768, 769, 5] (by decide +kernel) (by decide +kernel)) ggL_law_X11_as
set_option maxRecDepth 20000 in
theorem ggL_law_X10_trace : GoodIn wsL_law wsX10_trace := goodIn_s sL_wsX10_trace (by decide +kernel)
set_option maxRecDepth 20000 in
theorem gL_law_X10_trace : GoodIn wsL_law (wsV RL 134 RX10 yX10_trace wsX10_trace) := goodIn_app (goodIn_r _ [771, 772, 773, 2] (by decide +kernel) (by decide +kernel)) ggL_law_X10_trace
set_option maxRecDepth 20000 in
theorem ggL_law_X11_trace : GoodIn wsL_law wsX11_trace := goodIn_s sL_wsX11_trace (by decide +kernel)
set_option maxRecDepth 20000 in
theorem gL_law_X11_trace : GoodIn wsL_law (wsV RL 137 RX11 yX11_trace wsX11_trace) := goodIn_app (goodIn_r _ [776, 777, 778, 5] (by decide +kernel) (by decide +kernel)) ggL_law_X11_trace
set_option maxRecDepth 20000 in
theorem ggL_law_X10_fault : GoodIn wsL_law wsX10_fault := goodIn_s sL_wsX10_fault (by decide +kernel)
set_option maxRecDepth 20000 in
theorem gL_law_X10_fault : GoodIn wsL_law (wsV RL 138 RX10 yX10_fault wsX10_fault) := goodIn_app (goodIn_r _ [780, 781, 782, 2] (by decide +kernel) (by decide +kernel)) ggL_law_X10_fault
set_option maxRecDepth 20000 in
theorem ggL_law_X11_fault : GoodIn wsL_law wsX11_fault := goodIn_s sL_wsX11_fault (by decide +kernel)
set_option maxRecDepth 20000 in
theorem gL_law_X11_fault : GoodIn wsL_law (wsV RL 141 RX11 yX11_fault wsX11_fault) := goodIn_app (goodIn_r _ [784, 785, 786, 5] (by decide +kernel) (by decide +kernel)) ggL_law_X11_fault
set_option maxRecDepth 20000 in
theorem ggL_law_X10_told : GoodIn wsL_law wsX10_told := goodIn_s sL_wsX10_told (by decide +kernel)
set_option maxRecDepth 20000 in
theorem gL_law_X10_told : GoodIn wsL_law (wsV RL 142 RX10 yX10_told wsX10_told) := goodIn_app (goodIn_r _ [788, 789, 790, 2] (by decide +kernel) (by decide +kernel)) ggL_law_X10_told
set_option maxRecDepth 20000 in
theorem ggL_law_X11_told : GoodIn wsL_law wsX11_told := goodIn_s sL_wsX11_told (by decide +kernel)
set_option maxRecDepth 20000 in
theorem gL_law_X11_told : GoodIn wsL_law (wsV RL 145 RX11 yX11_told wsX11_told) := goodIn_app (goodIn_r _ [792, 793, 794, 5] (by decide +kernel) (by decide +kernel)) ggL_law_X11_told
def dOK (c : ByteArray) (q : Nat × Instr × Nat) : Bool := decide (decode c q.1 = .ok (q.2.1, q.2.2))
theorem dl_ok {c : ByteArray} {pc n : Nat} {ins : Instr} (h : dOK c (pc, ins, n) = true) : decode c pc = .ok (ins, n) := by
  unfold dOK at h
  exact of_decide_eq_true h
theorem dl_at {c : ByteArray} {L : List (Nat × Instr × Nat)} (h : L.all (dOK c) = true) (i : Nat) {pc n : Nat} {ins : Instr} (hi : L[i]? = some (pc, ins, n)) : decode c pc = .ok (ins, n) := dl_ok (List.all_eq_true.mp h _ (List.mem_of_getElem? hi))
def lL_0_50 : List (Nat × Instr × Nat) := [(0, .new 7, 3), (3, .dup, 1), (4, .invokespecial 9, 3), (7, .astore_n 1, 1), (8, .new 10, 3), (11, .dup, 1), (12, .invokespecial 12, 3), (15, .astore_n 2, 1), (16, .iconst 0, 1), (17, .istore_n 3, 1), (18, .iload_n 3, 1), (19, .aload_n 0, 1), (20, .arraylength, 1), (21, .bipush 6, 2), (23, .isub, 1), (24, .if_icmp .gt 1177, 3), (27, .aload_n 0, 1), (28, .iload_n 3, 1), (29, .iaload, 1), (30, .bipush 31, 2), (32, .iand, 1), (33, .tableswitch 1162 0 30 #[139, 192, 215, 258, 321, 384, 417, 440, 473, 506, 519, 552, 595, 638, 661, 694, 727, 750, 763, 786, 819, 862, 885, 928, 971, 1034, 1057, 1080, 1113, 1126, 1139], 139), (172, .aload_n 1, 1), (173, .aload_n 0, 1), (174, .iload_n 3, 1), (175, .iconst 1, 1), (176, .iadd, 1), (177, .iaload, 1), (178, .aload_n 0, 1), (179, .iload_n 3, 1), (180, .iconst 2, 1), (181, .iadd, 1), (182, .iaload, 1), (183, .aload_n 0, 1), (184, .iload_n 3, 1), (185, .iconst 3, 1), (186, .iadd, 1), (187, .iaload, 1), (188, .aload_n 0, 1), (189, .iload_n 3, 1), (190, .iconst 4, 1), (191, .iadd, 1), (192, .iaload, 1), (193, .invokevirtual 13, 3), (196, .pop, 1), (197, .aload_n 2, 1), (198, .aload_n 0, 1), (199, .iload_n 3, 1), (200, .iconst 1, 1), (201, .iadd, 1)]
theorem bL_0_50 : lL_0_50.all (dOK cL_law) = true := by decide +kernel
theorem dL_law_0 : decode cL_law 0 = .ok (.new 7, 3) := dl_at bL_0_50 0 rfl
theorem dL_law_3 : decode cL_law 3 = .ok (.dup, 1) := dl_at bL_0_50 1 rfl
theorem dL_law_4 : decode cL_law 4 = .ok (.invokespecial 9, 3) := dl_at bL_0_50 2 rfl
theorem dL_law_7 : decode cL_law 7 = .ok (.astore_n 1, 1) := dl_at bL_0_50 3 rfl
theorem dL_law_8 : decode cL_law 8 = .ok (.new 10, 3) := dl_at bL_0_50 4 rfl
theorem dL_law_11 : decode cL_law 11 = .ok (.dup, 1) := dl_at bL_0_50 5 rfl
theorem dL_law_12 : decode cL_law 12 = .ok (.invokespecial 12, 3) := dl_at bL_0_50 6 rfl
theorem dL_law_15 : decode cL_law 15 = .ok (.astore_n 2, 1) := dl_at bL_0_50 7 rfl
theorem dL_law_16 : decode cL_law 16 = .ok (.iconst 0, 1) := dl_at bL_0_50 8 rfl
theorem dL_law_17 : decode cL_law 17 = .ok (.istore_n 3, 1) := dl_at bL_0_50 9 rfl
theorem dL_law_18 : decode cL_law 18 = .ok (.iload_n 3, 1) := dl_at bL_0_50 10 rfl
theorem dL_law_19 : decode cL_law 19 = .ok (.aload_n 0, 1) := dl_at bL_0_50 11 rfl
theorem dL_law_20 : decode cL_law 20 = .ok (.arraylength, 1) := dl_at bL_0_50 12 rfl
theorem dL_law_21 : decode cL_law 21 = .ok (.bipush 6, 2) := dl_at bL_0_50 13 rfl
theorem dL_law_23 : decode cL_law 23 = .ok (.isub, 1) := dl_at bL_0_50 14 rfl
theorem dL_law_24 : decode cL_law 24 = .ok (.if_icmp .gt 1177, 3) := dl_at bL_0_50 15 rfl
theorem dL_law_27 : decode cL_law 27 = .ok (.aload_n 0, 1) := dl_at bL_0_50 16 rfl
theorem dL_law_28 : decode cL_law 28 = .ok (.iload_n 3, 1) := dl_at bL_0_50 17 rfl
theorem dL_law_29 : decode cL_law 29 = .ok (.iaload, 1) := dl_at bL_0_50 18 rfl
theorem dL_law_30 : decode cL_law 30 = .ok (.bipush 31, 2) := dl_at bL_0_50 19 rfl
theorem dL_law_32 : decode cL_law 32 = .ok (.iand, 1) := dl_at bL_0_50 20 rfl
theorem dL_law_33 : decode cL_law 33 = .ok (.tableswitch 1162 0 30 #[139, 192, 215, 258, 321, 384, 417, 440, 473, 506, 519, 552, 595, 638, 661, 694, 727, 750, 763, 786, 819, 862, 885, 928, 971, 1034, 1057, 1080, 1113, 1126, 1139], 139) := dl_at bL_0_50 21 rfl
theorem dL_law_172 : decode cL_law 172 = .ok (.aload_n 1, 1) := dl_at bL_0_50 22 rfl
theorem dL_law_173 : decode cL_law 173 = .ok (.aload_n 0, 1) := dl_at bL_0_50 23 rfl
theorem dL_law_174 : decode cL_law 174 = .ok (.iload_n 3, 1) := dl_at bL_0_50 24 rfl
theorem dL_law_175 : decode cL_law 175 = .ok (.iconst 1, 1) := dl_at bL_0_50 25 rfl
theorem dL_law_176 : decode cL_law 176 = .ok (.iadd, 1) := dl_at bL_0_50 26 rfl
theorem dL_law_177 : decode cL_law 177 = .ok (.iaload, 1) := dl_at bL_0_50 27 rfl
theorem dL_law_178 : decode cL_law 178 = .ok (.aload_n 0, 1) := dl_at bL_0_50 28 rfl
theorem dL_law_179 : decode cL_law 179 = .ok (.iload_n 3, 1) := dl_at bL_0_50 29 rfl
theorem dL_law_180 : decode cL_law 180 = .ok (.iconst 2, 1) := dl_at bL_0_50 30 rfl
theorem dL_law_181 : decode cL_law 181 = .ok (.iadd, 1) := dl_at bL_0_50 31 rfl
theorem dL_law_182 : decode cL_law 182 = .ok (.iaload, 1) := dl_at bL_0_50 32 rfl
theorem dL_law_183 : decode cL_law 183 = .ok (.aload_n 0, 1) := dl_at bL_0_50 33 rfl
theorem dL_law_184 : decode cL_law 184 = .ok (.iload_n 3, 1) := dl_at bL_0_50 34 rfl
theorem dL_law_185 : decode cL_law 185 = .ok (.iconst 3, 1) := dl_at bL_0_50 35 rfl
theorem dL_law_186 : decode cL_law 186 = .ok (.iadd, 1) := dl_at bL_0_50 36 rfl
theorem dL_law_187 : decode cL_law 187 = .ok (.iaload, 1) := dl_at bL_0_50 37 rfl
theorem dL_law_188 : decode cL_law 188 = .ok (.aload_n 0, 1) := dl_at bL_0_50 38 rfl
theorem dL_law_189 : decode cL_law 189 = .ok (.iload_n 3, 1) := dl_at bL_0_50 39 rfl
theorem dL_law_190 : decode cL_law 190 = .ok (.iconst 4, 1) := dl_at bL_0_50 40 rfl
theorem dL_law_191 : decode cL_law 191 = .ok (.iadd, 1) := dl_at bL_0_50 41 rfl
theorem dL_law_192 : decode cL_law 192 = .ok (.iaload, 1) := dl_at bL_0_50 42 rfl
theorem dL_law_193 : decode cL_law 193 = .ok (.invokevirtual 13, 3) := dl_at bL_0_50 43 rfl
theorem dL_law_196 : decode cL_law 196 = .ok (.pop, 1) := dl_at bL_0_50 44 rfl
theorem dL_law_197 : decode cL_law 197 = .ok (.aload_n 2, 1) := dl_at bL_0_50 45 rfl
theorem dL_law_198 : decode cL_law 198 = .ok (.aload_n 0, 1) := dl_at bL_0_50 46 rfl
theorem dL_law_199 : decode cL_law 199 = .ok (.iload_n 3, 1) := dl_at bL_0_50 47 rfl
theorem dL_law_200 : decode cL_law 200 = .ok (.iconst 1, 1) := dl_at bL_0_50 48 rfl
theorem dL_law_201 : decode cL_law 201 = .ok (.iadd, 1) := dl_at bL_0_50 49 rfl
def lL_202_50 : List (Nat × Instr × Nat) := [(202, .iaload, 1), (203, .aload_n 0, 1), (204, .iload_n 3, 1), (205, .iconst 2, 1), (206, .iadd, 1), (207, .iaload, 1), (208, .aload_n 0, 1), (209, .iload_n 3, 1), (210, .iconst 3, 1), (211, .iadd, 1), (212, .iaload, 1), (213, .aload_n 0, 1), (214, .iload_n 3, 1), (215, .iconst 4, 1), (216, .iadd, 1), (217, .iaload, 1), (218, .invokevirtual 17, 3), (221, .pop, 1), (222, .goto 973, 3), (225, .aload_n 1, 1), (226, .aload_n 0, 1), (227, .iload_n 3, 1), (228, .iconst 1, 1), (229, .iadd, 1), (230, .iaload, 1), (231, .invokevirtual 18, 3), (234, .pop, 1), (235, .aload_n 2, 1), (236, .aload_n 0, 1), (237, .iload_n 3, 1), (238, .iconst 1, 1), (239, .iadd, 1), (240, .iaload, 1), (241, .invokevirtual 22, 3), (244, .pop, 1), (245, .goto 950, 3), (248, .aload_n 1, 1), (249, .aload_n 0, 1), (250, .iload_n 3, 1), (251, .iconst 1, 1), (252, .iadd, 1), (253, .iaload, 1), (254, .aload_n 0, 1), (255, .iload_n 3, 1), (256, .iconst 2, 1), (257, .iadd, 1), (258, .iaload, 1), (259, .aload_n 0, 1), (260, .iload_n 3, 1), (261, .iconst 3, 1)]
theorem bL_202_50 : lL_202_50.all (dOK cL_law) = true := by decide +kernel
theorem dL_law_202 : decode cL_law 202 = .ok (.iaload, 1) := dl_at bL_202_50 0 rfl
theorem dL_law_203 : decode cL_law 203 = .ok (.aload_n 0, 1) := dl_at bL_202_50 1 rfl
theorem dL_law_204 : decode cL_law 204 = .ok (.iload_n 3, 1) := dl_at bL_202_50 2 rfl
theorem dL_law_205 : decode cL_law 205 = .ok (.iconst 2, 1) := dl_at bL_202_50 3 rfl
theorem dL_law_206 : decode cL_law 206 = .ok (.iadd, 1) := dl_at bL_202_50 4 rfl
theorem dL_law_207 : decode cL_law 207 = .ok (.iaload, 1) := dl_at bL_202_50 5 rfl
theorem dL_law_208 : decode cL_law 208 = .ok (.aload_n 0, 1) := dl_at bL_202_50 6 rfl
theorem dL_law_209 : decode cL_law 209 = .ok (.iload_n 3, 1) := dl_at bL_202_50 7 rfl
theorem dL_law_210 : decode cL_law 210 = .ok (.iconst 3, 1) := dl_at bL_202_50 8 rfl
theorem dL_law_211 : decode cL_law 211 = .ok (.iadd, 1) := dl_at bL_202_50 9 rfl
theorem dL_law_212 : decode cL_law 212 = .ok (.iaload, 1) := dl_at bL_202_50 10 rfl
theorem dL_law_213 : decode cL_law 213 = .ok (.aload_n 0, 1) := dl_at bL_202_50 11 rfl
theorem dL_law_214 : decode cL_law 214 = .ok (.iload_n 3, 1) := dl_at bL_202_50 12 rfl
theorem dL_law_215 : decode cL_law 215 = .ok (.iconst 4, 1) := dl_at bL_202_50 13 rfl
theorem dL_law_216 : decode cL_law 216 = .ok (.iadd, 1) := dl_at bL_202_50 14 rfl
theorem dL_law_217 : decode cL_law 217 = .ok (.iaload, 1) := dl_at bL_202_50 15 rfl
theorem dL_law_218 : decode cL_law 218 = .ok (.invokevirtual 17, 3) := dl_at bL_202_50 16 rfl
theorem dL_law_221 : decode cL_law 221 = .ok (.pop, 1) := dl_at bL_202_50 17 rfl
theorem dL_law_222 : decode cL_law 222 = .ok (.goto 973, 3) := dl_at bL_202_50 18 rfl
theorem dL_law_225 : decode cL_law 225 = .ok (.aload_n 1, 1) := dl_at bL_202_50 19 rfl
theorem dL_law_226 : decode cL_law 226 = .ok (.aload_n 0, 1) := dl_at bL_202_50 20 rfl
theorem dL_law_227 : decode cL_law 227 = .ok (.iload_n 3, 1) := dl_at bL_202_50 21 rfl
theorem dL_law_228 : decode cL_law 228 = .ok (.iconst 1, 1) := dl_at bL_202_50 22 rfl
theorem dL_law_229 : decode cL_law 229 = .ok (.iadd, 1) := dl_at bL_202_50 23 rfl
theorem dL_law_230 : decode cL_law 230 = .ok (.iaload, 1) := dl_at bL_202_50 24 rfl
theorem dL_law_231 : decode cL_law 231 = .ok (.invokevirtual 18, 3) := dl_at bL_202_50 25 rfl
theorem dL_law_234 : decode cL_law 234 = .ok (.pop, 1) := dl_at bL_202_50 26 rfl
theorem dL_law_235 : decode cL_law 235 = .ok (.aload_n 2, 1) := dl_at bL_202_50 27 rfl
theorem dL_law_236 : decode cL_law 236 = .ok (.aload_n 0, 1) := dl_at bL_202_50 28 rfl
theorem dL_law_237 : decode cL_law 237 = .ok (.iload_n 3, 1) := dl_at bL_202_50 29 rfl
theorem dL_law_238 : decode cL_law 238 = .ok (.iconst 1, 1) := dl_at bL_202_50 30 rfl
theorem dL_law_239 : decode cL_law 239 = .ok (.iadd, 1) := dl_at bL_202_50 31 rfl
theorem dL_law_240 : decode cL_law 240 = .ok (.iaload, 1) := dl_at bL_202_50 32 rfl
theorem dL_law_241 : decode cL_law 241 = .ok (.invokevirtual 22, 3) := dl_at bL_202_50 33 rfl
theorem dL_law_244 : decode cL_law 244 = .ok (.pop, 1) := dl_at bL_202_50 34 rfl
theorem dL_law_245 : decode cL_law 245 = .ok (.goto 950, 3) := dl_at bL_202_50 35 rfl
theorem dL_law_248 : decode cL_law 248 = .ok (.aload_n 1, 1) := dl_at bL_202_50 36 rfl
theorem dL_law_249 : decode cL_law 249 = .ok (.aload_n 0, 1) := dl_at bL_202_50 37 rfl
theorem dL_law_250 : decode cL_law 250 = .ok (.iload_n 3, 1) := dl_at bL_202_50 38 rfl
theorem dL_law_251 : decode cL_law 251 = .ok (.iconst 1, 1) := dl_at bL_202_50 39 rfl
theorem dL_law_252 : decode cL_law 252 = .ok (.iadd, 1) := dl_at bL_202_50 40 rfl
theorem dL_law_253 : decode cL_law 253 = .ok (.iaload, 1) := dl_at bL_202_50 41 rfl
theorem dL_law_254 : decode cL_law 254 = .ok (.aload_n 0, 1) := dl_at bL_202_50 42 rfl
theorem dL_law_255 : decode cL_law 255 = .ok (.iload_n 3, 1) := dl_at bL_202_50 43 rfl
theorem dL_law_256 : decode cL_law 256 = .ok (.iconst 2, 1) := dl_at bL_202_50 44 rfl
theorem dL_law_257 : decode cL_law 257 = .ok (.iadd, 1) := dl_at bL_202_50 45 rfl
theorem dL_law_258 : decode cL_law 258 = .ok (.iaload, 1) := dl_at bL_202_50 46 rfl
theorem dL_law_259 : decode cL_law 259 = .ok (.aload_n 0, 1) := dl_at bL_202_50 47 rfl
theorem dL_law_260 : decode cL_law 260 = .ok (.iload_n 3, 1) := dl_at bL_202_50 48 rfl
theorem dL_law_261 : decode cL_law 261 = .ok (.iconst 3, 1) := dl_at bL_202_50 49 rfl
def lL_262_50 : List (Nat × Instr × Nat) := [(262, .iadd, 1), (263, .iaload, 1), (264, .invokevirtual 23, 3), (267, .pop, 1), (268, .aload_n 2, 1), (269, .aload_n 0, 1), (270, .iload_n 3, 1), (271, .iconst 1, 1), (272, .iadd, 1), (273, .iaload, 1), (274, .aload_n 0, 1), (275, .iload_n 3, 1), (276, .iconst 2, 1), (277, .iadd, 1), (278, .iaload, 1), (279, .aload_n 0, 1), (280, .iload_n 3, 1), (281, .iconst 3, 1), (282, .iadd, 1), (283, .iaload, 1), (284, .invokevirtual 27, 3), (287, .pop, 1), (288, .goto 907, 3), (291, .aload_n 1, 1), (292, .aload_n 0, 1), (293, .iload_n 3, 1), (294, .iconst 1, 1), (295, .iadd, 1), (296, .iaload, 1), (297, .aload_n 0, 1), (298, .iload_n 3, 1), (299, .iconst 2, 1), (300, .iadd, 1), (301, .iaload, 1), (302, .aload_n 0, 1), (303, .iload_n 3, 1), (304, .iconst 3, 1), (305, .iadd, 1), (306, .iaload, 1), (307, .aload_n 0, 1), (308, .iload_n 3, 1), (309, .iconst 4, 1), (310, .iadd, 1), (311, .iaload, 1), (312, .aload_n 0, 1), (313, .iload_n 3, 1), (314, .iconst 5, 1), (315, .iadd, 1), (316, .iaload, 1), (317, .invokevirtual 28, 3)]
theorem bL_262_50 : lL_262_50.all (dOK cL_law) = true := by decide +kernel
theorem dL_law_262 : decode cL_law 262 = .ok (.iadd, 1) := dl_at bL_262_50 0 rfl
theorem dL_law_263 : decode cL_law 263 = .ok (.iaload, 1) := dl_at bL_262_50 1 rfl
theorem dL_law_264 : decode cL_law 264 = .ok (.invokevirtual 23, 3) := dl_at bL_262_50 2 rfl
theorem dL_law_267 : decode cL_law 267 = .ok (.pop, 1) := dl_at bL_262_50 3 rfl
theorem dL_law_268 : decode cL_law 268 = .ok (.aload_n 2, 1) := dl_at bL_262_50 4 rfl
theorem dL_law_269 : decode cL_law 269 = .ok (.aload_n 0, 1) := dl_at bL_262_50 5 rfl
theorem dL_law_270 : decode cL_law 270 = .ok (.iload_n 3, 1) := dl_at bL_262_50 6 rfl
theorem dL_law_271 : decode cL_law 271 = .ok (.iconst 1, 1) := dl_at bL_262_50 7 rfl
theorem dL_law_272 : decode cL_law 272 = .ok (.iadd, 1) := dl_at bL_262_50 8 rfl
theorem dL_law_273 : decode cL_law 273 = .ok (.iaload, 1) := dl_at bL_262_50 9 rfl
theorem dL_law_274 : decode cL_law 274 = .ok (.aload_n 0, 1) := dl_at bL_262_50 10 rfl
theorem dL_law_275 : decode cL_law 275 = .ok (.iload_n 3, 1) := dl_at bL_262_50 11 rfl
theorem dL_law_276 : decode cL_law 276 = .ok (.iconst 2, 1) := dl_at bL_262_50 12 rfl
theorem dL_law_277 : decode cL_law 277 = .ok (.iadd, 1) := dl_at bL_262_50 13 rfl
theorem dL_law_278 : decode cL_law 278 = .ok (.iaload, 1) := dl_at bL_262_50 14 rfl
theorem dL_law_279 : decode cL_law 279 = .ok (.aload_n 0, 1) := dl_at bL_262_50 15 rfl
theorem dL_law_280 : decode cL_law 280 = .ok (.iload_n 3, 1) := dl_at bL_262_50 16 rfl
theorem dL_law_281 : decode cL_law 281 = .ok (.iconst 3, 1) := dl_at bL_262_50 17 rfl
theorem dL_law_282 : decode cL_law 282 = .ok (.iadd, 1) := dl_at bL_262_50 18 rfl
theorem dL_law_283 : decode cL_law 283 = .ok (.iaload, 1) := dl_at bL_262_50 19 rfl
theorem dL_law_284 : decode cL_law 284 = .ok (.invokevirtual 27, 3) := dl_at bL_262_50 20 rfl
theorem dL_law_287 : decode cL_law 287 = .ok (.pop, 1) := dl_at bL_262_50 21 rfl
theorem dL_law_288 : decode cL_law 288 = .ok (.goto 907, 3) := dl_at bL_262_50 22 rfl
theorem dL_law_291 : decode cL_law 291 = .ok (.aload_n 1, 1) := dl_at bL_262_50 23 rfl
theorem dL_law_292 : decode cL_law 292 = .ok (.aload_n 0, 1) := dl_at bL_262_50 24 rfl
theorem dL_law_293 : decode cL_law 293 = .ok (.iload_n 3, 1) := dl_at bL_262_50 25 rfl
theorem dL_law_294 : decode cL_law 294 = .ok (.iconst 1, 1) := dl_at bL_262_50 26 rfl
theorem dL_law_295 : decode cL_law 295 = .ok (.iadd, 1) := dl_at bL_262_50 27 rfl
theorem dL_law_296 : decode cL_law 296 = .ok (.iaload, 1) := dl_at bL_262_50 28 rfl
theorem dL_law_297 : decode cL_law 297 = .ok (.aload_n 0, 1) := dl_at bL_262_50 29 rfl
theorem dL_law_298 : decode cL_law 298 = .ok (.iload_n 3, 1) := dl_at bL_262_50 30 rfl
theorem dL_law_299 : decode cL_law 299 = .ok (.iconst 2, 1) := dl_at bL_262_50 31 rfl
theorem dL_law_300 : decode cL_law 300 = .ok (.iadd, 1) := dl_at bL_262_50 32 rfl
theorem dL_law_301 : decode cL_law 301 = .ok (.iaload, 1) := dl_at bL_262_50 33 rfl
theorem dL_law_302 : decode cL_law 302 = .ok (.aload_n 0, 1) := dl_at bL_262_50 34 rfl
theorem dL_law_303 : decode cL_law 303 = .ok (.iload_n 3, 1) := dl_at bL_262_50 35 rfl
theorem dL_law_304 : decode cL_law 304 = .ok (.iconst 3, 1) := dl_at bL_262_50 36 rfl
theorem dL_law_305 : decode cL_law 305 = .ok (.iadd, 1) := dl_at bL_262_50 37 rfl
theorem dL_law_306 : decode cL_law 306 = .ok (.iaload, 1) := dl_at bL_262_50 38 rfl
theorem dL_law_307 : decode cL_law 307 = .ok (.aload_n 0, 1) := dl_at bL_262_50 39 rfl
theorem dL_law_308 : decode cL_law 308 = .ok (.iload_n 3, 1) := dl_at bL_262_50 40 rfl
theorem dL_law_309 : decode cL_law 309 = .ok (.iconst 4, 1) := dl_at bL_262_50 41 rfl
theorem dL_law_310 : decode cL_law 310 = .ok (.iadd, 1) := dl_at bL_262_50 42 rfl
theorem dL_law_311 : decode cL_law 311 = .ok (.iaload, 1) := dl_at bL_262_50 43 rfl
theorem dL_law_312 : decode cL_law 312 = .ok (.aload_n 0, 1) := dl_at bL_262_50 44 rfl
theorem dL_law_313 : decode cL_law 313 = .ok (.iload_n 3, 1) := dl_at bL_262_50 45 rfl
theorem dL_law_314 : decode cL_law 314 = .ok (.iconst 5, 1) := dl_at bL_262_50 46 rfl
theorem dL_law_315 : decode cL_law 315 = .ok (.iadd, 1) := dl_at bL_262_50 47 rfl
theorem dL_law_316 : decode cL_law 316 = .ok (.iaload, 1) := dl_at bL_262_50 48 rfl
theorem dL_law_317 : decode cL_law 317 = .ok (.invokevirtual 28, 3) := dl_at bL_262_50 49 rfl
def lL_320_50 : List (Nat × Instr × Nat) := [(320, .pop, 1), (321, .aload_n 2, 1), (322, .aload_n 0, 1), (323, .iload_n 3, 1), (324, .iconst 1, 1), (325, .iadd, 1), (326, .iaload, 1), (327, .aload_n 0, 1), (328, .iload_n 3, 1), (329, .iconst 2, 1), (330, .iadd, 1), (331, .iaload, 1), (332, .aload_n 0, 1), (333, .iload_n 3, 1), (334, .iconst 3, 1), (335, .iadd, 1), (336, .iaload, 1), (337, .aload_n 0, 1), (338, .iload_n 3, 1), (339, .iconst 4, 1), (340, .iadd, 1), (341, .iaload, 1), (342, .aload_n 0, 1), (343, .iload_n 3, 1), (344, .iconst 5, 1), (345, .iadd, 1), (346, .iaload, 1), (347, .invokevirtual 32, 3), (350, .pop, 1), (351, .goto 844, 3), (354, .aload_n 1, 1), (355, .aload_n 0, 1), (356, .iload_n 3, 1), (357, .iconst 1, 1), (358, .iadd, 1), (359, .iaload, 1), (360, .aload_n 0, 1), (361, .iload_n 3, 1), (362, .iconst 2, 1), (363, .iadd, 1), (364, .iaload, 1), (365, .aload_n 0, 1), (366, .iload_n 3, 1), (367, .iconst 3, 1), (368, .iadd, 1), (369, .iaload, 1), (370, .aload_n 0, 1), (371, .iload_n 3, 1), (372, .iconst 4, 1), (373, .iadd, 1)]
theorem bL_320_50 : lL_320_50.all (dOK cL_law) = true := by decide +kernel
theorem dL_law_320 : decode cL_law 320 = .ok (.pop, 1) := dl_at bL_320_50 0 rfl
theorem dL_law_321 : decode cL_law 321 = .ok (.aload_n 2, 1) := dl_at bL_320_50 1 rfl
theorem dL_law_322 : decode cL_law 322 = .ok (.aload_n 0, 1) := dl_at bL_320_50 2 rfl
theorem dL_law_323 : decode cL_law 323 = .ok (.iload_n 3, 1) := dl_at bL_320_50 3 rfl
theorem dL_law_324 : decode cL_law 324 = .ok (.iconst 1, 1) := dl_at bL_320_50 4 rfl
theorem dL_law_325 : decode cL_law 325 = .ok (.iadd, 1) := dl_at bL_320_50 5 rfl
theorem dL_law_326 : decode cL_law 326 = .ok (.iaload, 1) := dl_at bL_320_50 6 rfl
theorem dL_law_327 : decode cL_law 327 = .ok (.aload_n 0, 1) := dl_at bL_320_50 7 rfl
theorem dL_law_328 : decode cL_law 328 = .ok (.iload_n 3, 1) := dl_at bL_320_50 8 rfl
theorem dL_law_329 : decode cL_law 329 = .ok (.iconst 2, 1) := dl_at bL_320_50 9 rfl
theorem dL_law_330 : decode cL_law 330 = .ok (.iadd, 1) := dl_at bL_320_50 10 rfl
theorem dL_law_331 : decode cL_law 331 = .ok (.iaload, 1) := dl_at bL_320_50 11 rfl
theorem dL_law_332 : decode cL_law 332 = .ok (.aload_n 0, 1) := dl_at bL_320_50 12 rfl
theorem dL_law_333 : decode cL_law 333 = .ok (.iload_n 3, 1) := dl_at bL_320_50 13 rfl
theorem dL_law_334 : decode cL_law 334 = .ok (.iconst 3, 1) := dl_at bL_320_50 14 rfl
theorem dL_law_335 : decode cL_law 335 = .ok (.iadd, 1) := dl_at bL_320_50 15 rfl
theorem dL_law_336 : decode cL_law 336 = .ok (.iaload, 1) := dl_at bL_320_50 16 rfl
theorem dL_law_337 : decode cL_law 337 = .ok (.aload_n 0, 1) := dl_at bL_320_50 17 rfl
theorem dL_law_338 : decode cL_law 338 = .ok (.iload_n 3, 1) := dl_at bL_320_50 18 rfl
theorem dL_law_339 : decode cL_law 339 = .ok (.iconst 4, 1) := dl_at bL_320_50 19 rfl
theorem dL_law_340 : decode cL_law 340 = .ok (.iadd, 1) := dl_at bL_320_50 20 rfl
theorem dL_law_341 : decode cL_law 341 = .ok (.iaload, 1) := dl_at bL_320_50 21 rfl
theorem dL_law_342 : decode cL_law 342 = .ok (.aload_n 0, 1) := dl_at bL_320_50 22 rfl
theorem dL_law_343 : decode cL_law 343 = .ok (.iload_n 3, 1) := dl_at bL_320_50 23 rfl
theorem dL_law_344 : decode cL_law 344 = .ok (.iconst 5, 1) := dl_at bL_320_50 24 rfl
theorem dL_law_345 : decode cL_law 345 = .ok (.iadd, 1) := dl_at bL_320_50 25 rfl
theorem dL_law_346 : decode cL_law 346 = .ok (.iaload, 1) := dl_at bL_320_50 26 rfl
theorem dL_law_347 : decode cL_law 347 = .ok (.invokevirtual 32, 3) := dl_at bL_320_50 27 rfl
theorem dL_law_350 : decode cL_law 350 = .ok (.pop, 1) := dl_at bL_320_50 28 rfl
theorem dL_law_351 : decode cL_law 351 = .ok (.goto 844, 3) := dl_at bL_320_50 29 rfl
theorem dL_law_354 : decode cL_law 354 = .ok (.aload_n 1, 1) := dl_at bL_320_50 30 rfl
theorem dL_law_355 : decode cL_law 355 = .ok (.aload_n 0, 1) := dl_at bL_320_50 31 rfl
theorem dL_law_356 : decode cL_law 356 = .ok (.iload_n 3, 1) := dl_at bL_320_50 32 rfl
theorem dL_law_357 : decode cL_law 357 = .ok (.iconst 1, 1) := dl_at bL_320_50 33 rfl
theorem dL_law_358 : decode cL_law 358 = .ok (.iadd, 1) := dl_at bL_320_50 34 rfl
theorem dL_law_359 : decode cL_law 359 = .ok (.iaload, 1) := dl_at bL_320_50 35 rfl
theorem dL_law_360 : decode cL_law 360 = .ok (.aload_n 0, 1) := dl_at bL_320_50 36 rfl
theorem dL_law_361 : decode cL_law 361 = .ok (.iload_n 3, 1) := dl_at bL_320_50 37 rfl
theorem dL_law_362 : decode cL_law 362 = .ok (.iconst 2, 1) := dl_at bL_320_50 38 rfl
theorem dL_law_363 : decode cL_law 363 = .ok (.iadd, 1) := dl_at bL_320_50 39 rfl
theorem dL_law_364 : decode cL_law 364 = .ok (.iaload, 1) := dl_at bL_320_50 40 rfl
theorem dL_law_365 : decode cL_law 365 = .ok (.aload_n 0, 1) := dl_at bL_320_50 41 rfl
theorem dL_law_366 : decode cL_law 366 = .ok (.iload_n 3, 1) := dl_at bL_320_50 42 rfl
theorem dL_law_367 : decode cL_law 367 = .ok (.iconst 3, 1) := dl_at bL_320_50 43 rfl
theorem dL_law_368 : decode cL_law 368 = .ok (.iadd, 1) := dl_at bL_320_50 44 rfl
theorem dL_law_369 : decode cL_law 369 = .ok (.iaload, 1) := dl_at bL_320_50 45 rfl
theorem dL_law_370 : decode cL_law 370 = .ok (.aload_n 0, 1) := dl_at bL_320_50 46 rfl
theorem dL_law_371 : decode cL_law 371 = .ok (.iload_n 3, 1) := dl_at bL_320_50 47 rfl
theorem dL_law_372 : decode cL_law 372 = .ok (.iconst 4, 1) := dl_at bL_320_50 48 rfl
theorem dL_law_373 : decode cL_law 373 = .ok (.iadd, 1) := dl_at bL_320_50 49 rfl
def lL_374_50 : List (Nat × Instr × Nat) := [(374, .iaload, 1), (375, .aload_n 0, 1), (376, .iload_n 3, 1), (377, .iconst 5, 1), (378, .iadd, 1), (379, .iaload, 1), (380, .invokevirtual 33, 3), (383, .pop, 1), (384, .aload_n 2, 1), (385, .aload_n 0, 1), (386, .iload_n 3, 1), (387, .iconst 1, 1), (388, .iadd, 1), (389, .iaload, 1), (390, .aload_n 0, 1), (391, .iload_n 3, 1), (392, .iconst 2, 1), (393, .iadd, 1), (394, .iaload, 1), (395, .aload_n 0, 1), (396, .iload_n 3, 1), (397, .iconst 3, 1), (398, .iadd, 1), (399, .iaload, 1), (400, .aload_n 0, 1), (401, .iload_n 3, 1), (402, .iconst 4, 1), (403, .iadd, 1), (404, .iaload, 1), (405, .aload_n 0, 1), (406, .iload_n 3, 1), (407, .iconst 5, 1), (408, .iadd, 1), (409, .iaload, 1), (410, .invokevirtual 36, 3), (413, .pop, 1), (414, .goto 781, 3), (417, .aload_n 1, 1), (418, .aload_n 0, 1), (419, .iload_n 3, 1), (420, .iconst 1, 1), (421, .iadd, 1), (422, .iaload, 1), (423, .aload_n 0, 1), (424, .iload_n 3, 1), (425, .iconst 2, 1), (426, .iadd, 1), (427, .iaload, 1), (428, .invokevirtual 37, 3), (431, .pop2, 1)]
theorem bL_374_50 : lL_374_50.all (dOK cL_law) = true := by decide +kernel
theorem dL_law_374 : decode cL_law 374 = .ok (.iaload, 1) := dl_at bL_374_50 0 rfl
theorem dL_law_375 : decode cL_law 375 = .ok (.aload_n 0, 1) := dl_at bL_374_50 1 rfl
theorem dL_law_376 : decode cL_law 376 = .ok (.iload_n 3, 1) := dl_at bL_374_50 2 rfl
theorem dL_law_377 : decode cL_law 377 = .ok (.iconst 5, 1) := dl_at bL_374_50 3 rfl
theorem dL_law_378 : decode cL_law 378 = .ok (.iadd, 1) := dl_at bL_374_50 4 rfl
theorem dL_law_379 : decode cL_law 379 = .ok (.iaload, 1) := dl_at bL_374_50 5 rfl
theorem dL_law_380 : decode cL_law 380 = .ok (.invokevirtual 33, 3) := dl_at bL_374_50 6 rfl
theorem dL_law_383 : decode cL_law 383 = .ok (.pop, 1) := dl_at bL_374_50 7 rfl
theorem dL_law_384 : decode cL_law 384 = .ok (.aload_n 2, 1) := dl_at bL_374_50 8 rfl
theorem dL_law_385 : decode cL_law 385 = .ok (.aload_n 0, 1) := dl_at bL_374_50 9 rfl
theorem dL_law_386 : decode cL_law 386 = .ok (.iload_n 3, 1) := dl_at bL_374_50 10 rfl
theorem dL_law_387 : decode cL_law 387 = .ok (.iconst 1, 1) := dl_at bL_374_50 11 rfl
theorem dL_law_388 : decode cL_law 388 = .ok (.iadd, 1) := dl_at bL_374_50 12 rfl
theorem dL_law_389 : decode cL_law 389 = .ok (.iaload, 1) := dl_at bL_374_50 13 rfl
theorem dL_law_390 : decode cL_law 390 = .ok (.aload_n 0, 1) := dl_at bL_374_50 14 rfl
theorem dL_law_391 : decode cL_law 391 = .ok (.iload_n 3, 1) := dl_at bL_374_50 15 rfl
theorem dL_law_392 : decode cL_law 392 = .ok (.iconst 2, 1) := dl_at bL_374_50 16 rfl
theorem dL_law_393 : decode cL_law 393 = .ok (.iadd, 1) := dl_at bL_374_50 17 rfl
theorem dL_law_394 : decode cL_law 394 = .ok (.iaload, 1) := dl_at bL_374_50 18 rfl
theorem dL_law_395 : decode cL_law 395 = .ok (.aload_n 0, 1) := dl_at bL_374_50 19 rfl
theorem dL_law_396 : decode cL_law 396 = .ok (.iload_n 3, 1) := dl_at bL_374_50 20 rfl
theorem dL_law_397 : decode cL_law 397 = .ok (.iconst 3, 1) := dl_at bL_374_50 21 rfl
theorem dL_law_398 : decode cL_law 398 = .ok (.iadd, 1) := dl_at bL_374_50 22 rfl
theorem dL_law_399 : decode cL_law 399 = .ok (.iaload, 1) := dl_at bL_374_50 23 rfl
theorem dL_law_400 : decode cL_law 400 = .ok (.aload_n 0, 1) := dl_at bL_374_50 24 rfl
theorem dL_law_401 : decode cL_law 401 = .ok (.iload_n 3, 1) := dl_at bL_374_50 25 rfl
theorem dL_law_402 : decode cL_law 402 = .ok (.iconst 4, 1) := dl_at bL_374_50 26 rfl
theorem dL_law_403 : decode cL_law 403 = .ok (.iadd, 1) := dl_at bL_374_50 27 rfl
theorem dL_law_404 : decode cL_law 404 = .ok (.iaload, 1) := dl_at bL_374_50 28 rfl
theorem dL_law_405 : decode cL_law 405 = .ok (.aload_n 0, 1) := dl_at bL_374_50 29 rfl
theorem dL_law_406 : decode cL_law 406 = .ok (.iload_n 3, 1) := dl_at bL_374_50 30 rfl
theorem dL_law_407 : decode cL_law 407 = .ok (.iconst 5, 1) := dl_at bL_374_50 31 rfl
theorem dL_law_408 : decode cL_law 408 = .ok (.iadd, 1) := dl_at bL_374_50 32 rfl
theorem dL_law_409 : decode cL_law 409 = .ok (.iaload, 1) := dl_at bL_374_50 33 rfl
theorem dL_law_410 : decode cL_law 410 = .ok (.invokevirtual 36, 3) := dl_at bL_374_50 34 rfl
theorem dL_law_413 : decode cL_law 413 = .ok (.pop, 1) := dl_at bL_374_50 35 rfl
theorem dL_law_414 : decode cL_law 414 = .ok (.goto 781, 3) := dl_at bL_374_50 36 rfl
theorem dL_law_417 : decode cL_law 417 = .ok (.aload_n 1, 1) := dl_at bL_374_50 37 rfl
theorem dL_law_418 : decode cL_law 418 = .ok (.aload_n 0, 1) := dl_at bL_374_50 38 rfl
theorem dL_law_419 : decode cL_law 419 = .ok (.iload_n 3, 1) := dl_at bL_374_50 39 rfl
theorem dL_law_420 : decode cL_law 420 = .ok (.iconst 1, 1) := dl_at bL_374_50 40 rfl
theorem dL_law_421 : decode cL_law 421 = .ok (.iadd, 1) := dl_at bL_374_50 41 rfl
theorem dL_law_422 : decode cL_law 422 = .ok (.iaload, 1) := dl_at bL_374_50 42 rfl
theorem dL_law_423 : decode cL_law 423 = .ok (.aload_n 0, 1) := dl_at bL_374_50 43 rfl
theorem dL_law_424 : decode cL_law 424 = .ok (.iload_n 3, 1) := dl_at bL_374_50 44 rfl
theorem dL_law_425 : decode cL_law 425 = .ok (.iconst 2, 1) := dl_at bL_374_50 45 rfl
theorem dL_law_426 : decode cL_law 426 = .ok (.iadd, 1) := dl_at bL_374_50 46 rfl
theorem dL_law_427 : decode cL_law 427 = .ok (.iaload, 1) := dl_at bL_374_50 47 rfl
theorem dL_law_428 : decode cL_law 428 = .ok (.invokevirtual 37, 3) := dl_at bL_374_50 48 rfl
theorem dL_law_431 : decode cL_law 431 = .ok (.pop2, 1) := dl_at bL_374_50 49 rfl
def lL_432_50 : List (Nat × Instr × Nat) := [(432, .aload_n 2, 1), (433, .aload_n 0, 1), (434, .iload_n 3, 1), (435, .iconst 1, 1), (436, .iadd, 1), (437, .iaload, 1), (438, .aload_n 0, 1), (439, .iload_n 3, 1), (440, .iconst 2, 1), (441, .iadd, 1), (442, .iaload, 1), (443, .invokevirtual 41, 3), (446, .pop2, 1), (447, .goto 748, 3), (450, .aload_n 1, 1), (451, .aload_n 0, 1), (452, .iload_n 3, 1), (453, .iconst 1, 1), (454, .iadd, 1), (455, .iaload, 1), (456, .invokevirtual 42, 3), (459, .pop, 1), (460, .aload_n 2, 1), (461, .aload_n 0, 1), (462, .iload_n 3, 1), (463, .iconst 1, 1), (464, .iadd, 1), (465, .iaload, 1), (466, .invokevirtual 45, 3), (469, .pop, 1), (470, .goto 725, 3), (473, .aload_n 1, 1), (474, .aload_n 0, 1), (475, .iload_n 3, 1), (476, .iconst 1, 1), (477, .iadd, 1), (478, .iaload, 1), (479, .aload_n 0, 1), (480, .iload_n 3, 1), (481, .iconst 2, 1), (482, .iadd, 1), (483, .iaload, 1), (484, .invokevirtual 46, 3), (487, .aload_n 2, 1), (488, .aload_n 0, 1), (489, .iload_n 3, 1), (490, .iconst 1, 1), (491, .iadd, 1), (492, .iaload, 1), (493, .aload_n 0, 1)]
theorem bL_432_50 : lL_432_50.all (dOK cL_law) = true := by decide +kernel
theorem dL_law_432 : decode cL_law 432 = .ok (.aload_n 2, 1) := dl_at bL_432_50 0 rfl
theorem dL_law_433 : decode cL_law 433 = .ok (.aload_n 0, 1) := dl_at bL_432_50 1 rfl
theorem dL_law_434 : decode cL_law 434 = .ok (.iload_n 3, 1) := dl_at bL_432_50 2 rfl
theorem dL_law_435 : decode cL_law 435 = .ok (.iconst 1, 1) := dl_at bL_432_50 3 rfl
theorem dL_law_436 : decode cL_law 436 = .ok (.iadd, 1) := dl_at bL_432_50 4 rfl
theorem dL_law_437 : decode cL_law 437 = .ok (.iaload, 1) := dl_at bL_432_50 5 rfl
theorem dL_law_438 : decode cL_law 438 = .ok (.aload_n 0, 1) := dl_at bL_432_50 6 rfl
theorem dL_law_439 : decode cL_law 439 = .ok (.iload_n 3, 1) := dl_at bL_432_50 7 rfl
theorem dL_law_440 : decode cL_law 440 = .ok (.iconst 2, 1) := dl_at bL_432_50 8 rfl
theorem dL_law_441 : decode cL_law 441 = .ok (.iadd, 1) := dl_at bL_432_50 9 rfl
theorem dL_law_442 : decode cL_law 442 = .ok (.iaload, 1) := dl_at bL_432_50 10 rfl
theorem dL_law_443 : decode cL_law 443 = .ok (.invokevirtual 41, 3) := dl_at bL_432_50 11 rfl
theorem dL_law_446 : decode cL_law 446 = .ok (.pop2, 1) := dl_at bL_432_50 12 rfl
theorem dL_law_447 : decode cL_law 447 = .ok (.goto 748, 3) := dl_at bL_432_50 13 rfl
theorem dL_law_450 : decode cL_law 450 = .ok (.aload_n 1, 1) := dl_at bL_432_50 14 rfl
theorem dL_law_451 : decode cL_law 451 = .ok (.aload_n 0, 1) := dl_at bL_432_50 15 rfl
theorem dL_law_452 : decode cL_law 452 = .ok (.iload_n 3, 1) := dl_at bL_432_50 16 rfl
theorem dL_law_453 : decode cL_law 453 = .ok (.iconst 1, 1) := dl_at bL_432_50 17 rfl
theorem dL_law_454 : decode cL_law 454 = .ok (.iadd, 1) := dl_at bL_432_50 18 rfl
theorem dL_law_455 : decode cL_law 455 = .ok (.iaload, 1) := dl_at bL_432_50 19 rfl
theorem dL_law_456 : decode cL_law 456 = .ok (.invokevirtual 42, 3) := dl_at bL_432_50 20 rfl
theorem dL_law_459 : decode cL_law 459 = .ok (.pop, 1) := dl_at bL_432_50 21 rfl
theorem dL_law_460 : decode cL_law 460 = .ok (.aload_n 2, 1) := dl_at bL_432_50 22 rfl
theorem dL_law_461 : decode cL_law 461 = .ok (.aload_n 0, 1) := dl_at bL_432_50 23 rfl
theorem dL_law_462 : decode cL_law 462 = .ok (.iload_n 3, 1) := dl_at bL_432_50 24 rfl
theorem dL_law_463 : decode cL_law 463 = .ok (.iconst 1, 1) := dl_at bL_432_50 25 rfl
theorem dL_law_464 : decode cL_law 464 = .ok (.iadd, 1) := dl_at bL_432_50 26 rfl
theorem dL_law_465 : decode cL_law 465 = .ok (.iaload, 1) := dl_at bL_432_50 27 rfl
theorem dL_law_466 : decode cL_law 466 = .ok (.invokevirtual 45, 3) := dl_at bL_432_50 28 rfl
theorem dL_law_469 : decode cL_law 469 = .ok (.pop, 1) := dl_at bL_432_50 29 rfl
theorem dL_law_470 : decode cL_law 470 = .ok (.goto 725, 3) := dl_at bL_432_50 30 rfl
theorem dL_law_473 : decode cL_law 473 = .ok (.aload_n 1, 1) := dl_at bL_432_50 31 rfl
theorem dL_law_474 : decode cL_law 474 = .ok (.aload_n 0, 1) := dl_at bL_432_50 32 rfl
theorem dL_law_475 : decode cL_law 475 = .ok (.iload_n 3, 1) := dl_at bL_432_50 33 rfl
theorem dL_law_476 : decode cL_law 476 = .ok (.iconst 1, 1) := dl_at bL_432_50 34 rfl
theorem dL_law_477 : decode cL_law 477 = .ok (.iadd, 1) := dl_at bL_432_50 35 rfl
theorem dL_law_478 : decode cL_law 478 = .ok (.iaload, 1) := dl_at bL_432_50 36 rfl
theorem dL_law_479 : decode cL_law 479 = .ok (.aload_n 0, 1) := dl_at bL_432_50 37 rfl
theorem dL_law_480 : decode cL_law 480 = .ok (.iload_n 3, 1) := dl_at bL_432_50 38 rfl
theorem dL_law_481 : decode cL_law 481 = .ok (.iconst 2, 1) := dl_at bL_432_50 39 rfl
theorem dL_law_482 : decode cL_law 482 = .ok (.iadd, 1) := dl_at bL_432_50 40 rfl
theorem dL_law_483 : decode cL_law 483 = .ok (.iaload, 1) := dl_at bL_432_50 41 rfl
theorem dL_law_484 : decode cL_law 484 = .ok (.invokevirtual 46, 3) := dl_at bL_432_50 42 rfl
theorem dL_law_487 : decode cL_law 487 = .ok (.aload_n 2, 1) := dl_at bL_432_50 43 rfl
theorem dL_law_488 : decode cL_law 488 = .ok (.aload_n 0, 1) := dl_at bL_432_50 44 rfl
theorem dL_law_489 : decode cL_law 489 = .ok (.iload_n 3, 1) := dl_at bL_432_50 45 rfl
theorem dL_law_490 : decode cL_law 490 = .ok (.iconst 1, 1) := dl_at bL_432_50 46 rfl
theorem dL_law_491 : decode cL_law 491 = .ok (.iadd, 1) := dl_at bL_432_50 47 rfl
theorem dL_law_492 : decode cL_law 492 = .ok (.iaload, 1) := dl_at bL_432_50 48 rfl
theorem dL_law_493 : decode cL_law 493 = .ok (.aload_n 0, 1) := dl_at bL_432_50 49 rfl
def lL_494_50 : List (Nat × Instr × Nat) := [(494, .iload_n 3, 1), (495, .iconst 2, 1), (496, .iadd, 1), (497, .iaload, 1), (498, .invokevirtual 50, 3), (501, .if_icmp .eq 694, 3), (504, .iconst 0, 1), (505, .ireturn, 1), (506, .aload_n 1, 1), (507, .aload_n 0, 1), (508, .iload_n 3, 1), (509, .iconst 1, 1), (510, .iadd, 1), (511, .iaload, 1), (512, .aload_n 0, 1), (513, .iload_n 3, 1), (514, .iconst 2, 1), (515, .iadd, 1), (516, .iaload, 1), (517, .invokevirtual 51, 3), (520, .pop, 1), (521, .aload_n 2, 1), (522, .aload_n 0, 1), (523, .iload_n 3, 1), (524, .iconst 1, 1), (525, .iadd, 1), (526, .iaload, 1), (527, .aload_n 0, 1), (528, .iload_n 3, 1), (529, .iconst 2, 1), (530, .iadd, 1), (531, .iaload, 1), (532, .invokevirtual 54, 3), (535, .pop, 1), (536, .goto 659, 3), (539, .aload_n 1, 1), (540, .invokevirtual 55, 3), (543, .pop, 1), (544, .aload_n 2, 1), (545, .invokevirtual 59, 3), (548, .pop, 1), (549, .goto 646, 3), (552, .aload_n 1, 1), (553, .aload_n 0, 1), (554, .iload_n 3, 1), (555, .iconst 1, 1), (556, .iadd, 1), (557, .iaload, 1), (558, .aload_n 0, 1), (559, .iload_n 3, 1)]
theorem bL_494_50 : lL_494_50.all (dOK cL_law) = true := by decide +kernel
theorem dL_law_494 : decode cL_law 494 = .ok (.iload_n 3, 1) := dl_at bL_494_50 0 rfl
theorem dL_law_495 : decode cL_law 495 = .ok (.iconst 2, 1) := dl_at bL_494_50 1 rfl
theorem dL_law_496 : decode cL_law 496 = .ok (.iadd, 1) := dl_at bL_494_50 2 rfl
theorem dL_law_497 : decode cL_law 497 = .ok (.iaload, 1) := dl_at bL_494_50 3 rfl
theorem dL_law_498 : decode cL_law 498 = .ok (.invokevirtual 50, 3) := dl_at bL_494_50 4 rfl
theorem dL_law_501 : decode cL_law 501 = .ok (.if_icmp .eq 694, 3) := dl_at bL_494_50 5 rfl
theorem dL_law_504 : decode cL_law 504 = .ok (.iconst 0, 1) := dl_at bL_494_50 6 rfl
theorem dL_law_505 : decode cL_law 505 = .ok (.ireturn, 1) := dl_at bL_494_50 7 rfl
theorem dL_law_506 : decode cL_law 506 = .ok (.aload_n 1, 1) := dl_at bL_494_50 8 rfl
theorem dL_law_507 : decode cL_law 507 = .ok (.aload_n 0, 1) := dl_at bL_494_50 9 rfl
theorem dL_law_508 : decode cL_law 508 = .ok (.iload_n 3, 1) := dl_at bL_494_50 10 rfl
theorem dL_law_509 : decode cL_law 509 = .ok (.iconst 1, 1) := dl_at bL_494_50 11 rfl
theorem dL_law_510 : decode cL_law 510 = .ok (.iadd, 1) := dl_at bL_494_50 12 rfl
theorem dL_law_511 : decode cL_law 511 = .ok (.iaload, 1) := dl_at bL_494_50 13 rfl
theorem dL_law_512 : decode cL_law 512 = .ok (.aload_n 0, 1) := dl_at bL_494_50 14 rfl
theorem dL_law_513 : decode cL_law 513 = .ok (.iload_n 3, 1) := dl_at bL_494_50 15 rfl
theorem dL_law_514 : decode cL_law 514 = .ok (.iconst 2, 1) := dl_at bL_494_50 16 rfl
theorem dL_law_515 : decode cL_law 515 = .ok (.iadd, 1) := dl_at bL_494_50 17 rfl
theorem dL_law_516 : decode cL_law 516 = .ok (.iaload, 1) := dl_at bL_494_50 18 rfl
theorem dL_law_517 : decode cL_law 517 = .ok (.invokevirtual 51, 3) := dl_at bL_494_50 19 rfl
theorem dL_law_520 : decode cL_law 520 = .ok (.pop, 1) := dl_at bL_494_50 20 rfl
theorem dL_law_521 : decode cL_law 521 = .ok (.aload_n 2, 1) := dl_at bL_494_50 21 rfl
theorem dL_law_522 : decode cL_law 522 = .ok (.aload_n 0, 1) := dl_at bL_494_50 22 rfl
theorem dL_law_523 : decode cL_law 523 = .ok (.iload_n 3, 1) := dl_at bL_494_50 23 rfl
theorem dL_law_524 : decode cL_law 524 = .ok (.iconst 1, 1) := dl_at bL_494_50 24 rfl
theorem dL_law_525 : decode cL_law 525 = .ok (.iadd, 1) := dl_at bL_494_50 25 rfl
theorem dL_law_526 : decode cL_law 526 = .ok (.iaload, 1) := dl_at bL_494_50 26 rfl
theorem dL_law_527 : decode cL_law 527 = .ok (.aload_n 0, 1) := dl_at bL_494_50 27 rfl
theorem dL_law_528 : decode cL_law 528 = .ok (.iload_n 3, 1) := dl_at bL_494_50 28 rfl
theorem dL_law_529 : decode cL_law 529 = .ok (.iconst 2, 1) := dl_at bL_494_50 29 rfl
theorem dL_law_530 : decode cL_law 530 = .ok (.iadd, 1) := dl_at bL_494_50 30 rfl
theorem dL_law_531 : decode cL_law 531 = .ok (.iaload, 1) := dl_at bL_494_50 31 rfl
theorem dL_law_532 : decode cL_law 532 = .ok (.invokevirtual 54, 3) := dl_at bL_494_50 32 rfl
theorem dL_law_535 : decode cL_law 535 = .ok (.pop, 1) := dl_at bL_494_50 33 rfl
theorem dL_law_536 : decode cL_law 536 = .ok (.goto 659, 3) := dl_at bL_494_50 34 rfl
theorem dL_law_539 : decode cL_law 539 = .ok (.aload_n 1, 1) := dl_at bL_494_50 35 rfl
theorem dL_law_540 : decode cL_law 540 = .ok (.invokevirtual 55, 3) := dl_at bL_494_50 36 rfl
theorem dL_law_543 : decode cL_law 543 = .ok (.pop, 1) := dl_at bL_494_50 37 rfl
theorem dL_law_544 : decode cL_law 544 = .ok (.aload_n 2, 1) := dl_at bL_494_50 38 rfl
theorem dL_law_545 : decode cL_law 545 = .ok (.invokevirtual 59, 3) := dl_at bL_494_50 39 rfl
theorem dL_law_548 : decode cL_law 548 = .ok (.pop, 1) := dl_at bL_494_50 40 rfl
theorem dL_law_549 : decode cL_law 549 = .ok (.goto 646, 3) := dl_at bL_494_50 41 rfl
theorem dL_law_552 : decode cL_law 552 = .ok (.aload_n 1, 1) := dl_at bL_494_50 42 rfl
theorem dL_law_553 : decode cL_law 553 = .ok (.aload_n 0, 1) := dl_at bL_494_50 43 rfl
theorem dL_law_554 : decode cL_law 554 = .ok (.iload_n 3, 1) := dl_at bL_494_50 44 rfl
theorem dL_law_555 : decode cL_law 555 = .ok (.iconst 1, 1) := dl_at bL_494_50 45 rfl
theorem dL_law_556 : decode cL_law 556 = .ok (.iadd, 1) := dl_at bL_494_50 46 rfl
theorem dL_law_557 : decode cL_law 557 = .ok (.iaload, 1) := dl_at bL_494_50 47 rfl
theorem dL_law_558 : decode cL_law 558 = .ok (.aload_n 0, 1) := dl_at bL_494_50 48 rfl
theorem dL_law_559 : decode cL_law 559 = .ok (.iload_n 3, 1) := dl_at bL_494_50 49 rfl
def lL_560_50 : List (Nat × Instr × Nat) := [(560, .iconst 2, 1), (561, .iadd, 1), (562, .iaload, 1), (563, .invokevirtual 60, 3), (566, .pop, 1), (567, .aload_n 2, 1), (568, .aload_n 0, 1), (569, .iload_n 3, 1), (570, .iconst 1, 1), (571, .iadd, 1), (572, .iaload, 1), (573, .aload_n 0, 1), (574, .iload_n 3, 1), (575, .iconst 2, 1), (576, .iadd, 1), (577, .iaload, 1), (578, .invokevirtual 63, 3), (581, .pop, 1), (582, .goto 613, 3), (585, .aload_n 1, 1), (586, .aload_n 0, 1), (587, .iload_n 3, 1), (588, .iconst 1, 1), (589, .iadd, 1), (590, .iaload, 1), (591, .aload_n 0, 1), (592, .iload_n 3, 1), (593, .iconst 2, 1), (594, .iadd, 1), (595, .iaload, 1), (596, .aload_n 0, 1), (597, .iload_n 3, 1), (598, .iconst 3, 1), (599, .iadd, 1), (600, .iaload, 1), (601, .invokevirtual 64, 3), (604, .pop, 1), (605, .aload_n 2, 1), (606, .aload_n 0, 1), (607, .iload_n 3, 1), (608, .iconst 1, 1), (609, .iadd, 1), (610, .iaload, 1), (611, .aload_n 0, 1), (612, .iload_n 3, 1), (613, .iconst 2, 1), (614, .iadd, 1), (615, .iaload, 1), (616, .aload_n 0, 1), (617, .iload_n 3, 1)]
theorem bL_560_50 : lL_560_50.all (dOK cL_law) = true := by decide +kernel
theorem dL_law_560 : decode cL_law 560 = .ok (.iconst 2, 1) := dl_at bL_560_50 0 rfl
theorem dL_law_561 : decode cL_law 561 = .ok (.iadd, 1) := dl_at bL_560_50 1 rfl
theorem dL_law_562 : decode cL_law 562 = .ok (.iaload, 1) := dl_at bL_560_50 2 rfl
theorem dL_law_563 : decode cL_law 563 = .ok (.invokevirtual 60, 3) := dl_at bL_560_50 3 rfl
theorem dL_law_566 : decode cL_law 566 = .ok (.pop, 1) := dl_at bL_560_50 4 rfl
theorem dL_law_567 : decode cL_law 567 = .ok (.aload_n 2, 1) := dl_at bL_560_50 5 rfl
theorem dL_law_568 : decode cL_law 568 = .ok (.aload_n 0, 1) := dl_at bL_560_50 6 rfl
theorem dL_law_569 : decode cL_law 569 = .ok (.iload_n 3, 1) := dl_at bL_560_50 7 rfl
theorem dL_law_570 : decode cL_law 570 = .ok (.iconst 1, 1) := dl_at bL_560_50 8 rfl
theorem dL_law_571 : decode cL_law 571 = .ok (.iadd, 1) := dl_at bL_560_50 9 rfl
theorem dL_law_572 : decode cL_law 572 = .ok (.iaload, 1) := dl_at bL_560_50 10 rfl
theorem dL_law_573 : decode cL_law 573 = .ok (.aload_n 0, 1) := dl_at bL_560_50 11 rfl
theorem dL_law_574 : decode cL_law 574 = .ok (.iload_n 3, 1) := dl_at bL_560_50 12 rfl
theorem dL_law_575 : decode cL_law 575 = .ok (.iconst 2, 1) := dl_at bL_560_50 13 rfl
theorem dL_law_576 : decode cL_law 576 = .ok (.iadd, 1) := dl_at bL_560_50 14 rfl
theorem dL_law_577 : decode cL_law 577 = .ok (.iaload, 1) := dl_at bL_560_50 15 rfl
theorem dL_law_578 : decode cL_law 578 = .ok (.invokevirtual 63, 3) := dl_at bL_560_50 16 rfl
theorem dL_law_581 : decode cL_law 581 = .ok (.pop, 1) := dl_at bL_560_50 17 rfl
theorem dL_law_582 : decode cL_law 582 = .ok (.goto 613, 3) := dl_at bL_560_50 18 rfl
theorem dL_law_585 : decode cL_law 585 = .ok (.aload_n 1, 1) := dl_at bL_560_50 19 rfl
theorem dL_law_586 : decode cL_law 586 = .ok (.aload_n 0, 1) := dl_at bL_560_50 20 rfl
theorem dL_law_587 : decode cL_law 587 = .ok (.iload_n 3, 1) := dl_at bL_560_50 21 rfl
theorem dL_law_588 : decode cL_law 588 = .ok (.iconst 1, 1) := dl_at bL_560_50 22 rfl
theorem dL_law_589 : decode cL_law 589 = .ok (.iadd, 1) := dl_at bL_560_50 23 rfl
theorem dL_law_590 : decode cL_law 590 = .ok (.iaload, 1) := dl_at bL_560_50 24 rfl
theorem dL_law_591 : decode cL_law 591 = .ok (.aload_n 0, 1) := dl_at bL_560_50 25 rfl
theorem dL_law_592 : decode cL_law 592 = .ok (.iload_n 3, 1) := dl_at bL_560_50 26 rfl
theorem dL_law_593 : decode cL_law 593 = .ok (.iconst 2, 1) := dl_at bL_560_50 27 rfl
theorem dL_law_594 : decode cL_law 594 = .ok (.iadd, 1) := dl_at bL_560_50 28 rfl
theorem dL_law_595 : decode cL_law 595 = .ok (.iaload, 1) := dl_at bL_560_50 29 rfl
theorem dL_law_596 : decode cL_law 596 = .ok (.aload_n 0, 1) := dl_at bL_560_50 30 rfl
theorem dL_law_597 : decode cL_law 597 = .ok (.iload_n 3, 1) := dl_at bL_560_50 31 rfl
theorem dL_law_598 : decode cL_law 598 = .ok (.iconst 3, 1) := dl_at bL_560_50 32 rfl
theorem dL_law_599 : decode cL_law 599 = .ok (.iadd, 1) := dl_at bL_560_50 33 rfl
theorem dL_law_600 : decode cL_law 600 = .ok (.iaload, 1) := dl_at bL_560_50 34 rfl
theorem dL_law_601 : decode cL_law 601 = .ok (.invokevirtual 64, 3) := dl_at bL_560_50 35 rfl
theorem dL_law_604 : decode cL_law 604 = .ok (.pop, 1) := dl_at bL_560_50 36 rfl
theorem dL_law_605 : decode cL_law 605 = .ok (.aload_n 2, 1) := dl_at bL_560_50 37 rfl
theorem dL_law_606 : decode cL_law 606 = .ok (.aload_n 0, 1) := dl_at bL_560_50 38 rfl
theorem dL_law_607 : decode cL_law 607 = .ok (.iload_n 3, 1) := dl_at bL_560_50 39 rfl
theorem dL_law_608 : decode cL_law 608 = .ok (.iconst 1, 1) := dl_at bL_560_50 40 rfl
theorem dL_law_609 : decode cL_law 609 = .ok (.iadd, 1) := dl_at bL_560_50 41 rfl
theorem dL_law_610 : decode cL_law 610 = .ok (.iaload, 1) := dl_at bL_560_50 42 rfl
theorem dL_law_611 : decode cL_law 611 = .ok (.aload_n 0, 1) := dl_at bL_560_50 43 rfl
theorem dL_law_612 : decode cL_law 612 = .ok (.iload_n 3, 1) := dl_at bL_560_50 44 rfl
theorem dL_law_613 : decode cL_law 613 = .ok (.iconst 2, 1) := dl_at bL_560_50 45 rfl
theorem dL_law_614 : decode cL_law 614 = .ok (.iadd, 1) := dl_at bL_560_50 46 rfl
theorem dL_law_615 : decode cL_law 615 = .ok (.iaload, 1) := dl_at bL_560_50 47 rfl
theorem dL_law_616 : decode cL_law 616 = .ok (.aload_n 0, 1) := dl_at bL_560_50 48 rfl
theorem dL_law_617 : decode cL_law 617 = .ok (.iload_n 3, 1) := dl_at bL_560_50 49 rfl
def lL_618_50 : List (Nat × Instr × Nat) := [(618, .iconst 3, 1), (619, .iadd, 1), (620, .iaload, 1), (621, .invokevirtual 67, 3), (624, .pop, 1), (625, .goto 570, 3), (628, .aload_n 1, 1), (629, .aload_n 0, 1), (630, .iload_n 3, 1), (631, .iconst 1, 1), (632, .iadd, 1), (633, .iaload, 1), (634, .aload_n 0, 1), (635, .iload_n 3, 1), (636, .iconst 2, 1), (637, .iadd, 1), (638, .iaload, 1), (639, .aload_n 0, 1), (640, .iload_n 3, 1), (641, .iconst 3, 1), (642, .iadd, 1), (643, .iaload, 1), (644, .invokevirtual 68, 3), (647, .pop2, 1), (648, .aload_n 2, 1), (649, .aload_n 0, 1), (650, .iload_n 3, 1), (651, .iconst 1, 1), (652, .iadd, 1), (653, .iaload, 1), (654, .aload_n 0, 1), (655, .iload_n 3, 1), (656, .iconst 2, 1), (657, .iadd, 1), (658, .iaload, 1), (659, .aload_n 0, 1), (660, .iload_n 3, 1), (661, .iconst 3, 1), (662, .iadd, 1), (663, .iaload, 1), (664, .invokevirtual 72, 3), (667, .pop2, 1), (668, .goto 527, 3), (671, .aload_n 1, 1), (672, .aload_n 0, 1), (673, .iload_n 3, 1), (674, .iconst 1, 1), (675, .iadd, 1), (676, .iaload, 1), (677, .invokevirtual 73, 3)]
theorem bL_618_50 : lL_618_50.all (dOK cL_law) = true := by decide +kernel
theorem dL_law_618 : decode cL_law 618 = .ok (.iconst 3, 1) := dl_at bL_618_50 0 rfl
theorem dL_law_619 : decode cL_law 619 = .ok (.iadd, 1) := dl_at bL_618_50 1 rfl
theorem dL_law_620 : decode cL_law 620 = .ok (.iaload, 1) := dl_at bL_618_50 2 rfl
theorem dL_law_621 : decode cL_law 621 = .ok (.invokevirtual 67, 3) := dl_at bL_618_50 3 rfl
theorem dL_law_624 : decode cL_law 624 = .ok (.pop, 1) := dl_at bL_618_50 4 rfl
theorem dL_law_625 : decode cL_law 625 = .ok (.goto 570, 3) := dl_at bL_618_50 5 rfl
theorem dL_law_628 : decode cL_law 628 = .ok (.aload_n 1, 1) := dl_at bL_618_50 6 rfl
theorem dL_law_629 : decode cL_law 629 = .ok (.aload_n 0, 1) := dl_at bL_618_50 7 rfl
theorem dL_law_630 : decode cL_law 630 = .ok (.iload_n 3, 1) := dl_at bL_618_50 8 rfl
theorem dL_law_631 : decode cL_law 631 = .ok (.iconst 1, 1) := dl_at bL_618_50 9 rfl
theorem dL_law_632 : decode cL_law 632 = .ok (.iadd, 1) := dl_at bL_618_50 10 rfl
theorem dL_law_633 : decode cL_law 633 = .ok (.iaload, 1) := dl_at bL_618_50 11 rfl
theorem dL_law_634 : decode cL_law 634 = .ok (.aload_n 0, 1) := dl_at bL_618_50 12 rfl
theorem dL_law_635 : decode cL_law 635 = .ok (.iload_n 3, 1) := dl_at bL_618_50 13 rfl
theorem dL_law_636 : decode cL_law 636 = .ok (.iconst 2, 1) := dl_at bL_618_50 14 rfl
theorem dL_law_637 : decode cL_law 637 = .ok (.iadd, 1) := dl_at bL_618_50 15 rfl
theorem dL_law_638 : decode cL_law 638 = .ok (.iaload, 1) := dl_at bL_618_50 16 rfl
theorem dL_law_639 : decode cL_law 639 = .ok (.aload_n 0, 1) := dl_at bL_618_50 17 rfl
theorem dL_law_640 : decode cL_law 640 = .ok (.iload_n 3, 1) := dl_at bL_618_50 18 rfl
theorem dL_law_641 : decode cL_law 641 = .ok (.iconst 3, 1) := dl_at bL_618_50 19 rfl
theorem dL_law_642 : decode cL_law 642 = .ok (.iadd, 1) := dl_at bL_618_50 20 rfl
theorem dL_law_643 : decode cL_law 643 = .ok (.iaload, 1) := dl_at bL_618_50 21 rfl
theorem dL_law_644 : decode cL_law 644 = .ok (.invokevirtual 68, 3) := dl_at bL_618_50 22 rfl
theorem dL_law_647 : decode cL_law 647 = .ok (.pop2, 1) := dl_at bL_618_50 23 rfl
theorem dL_law_648 : decode cL_law 648 = .ok (.aload_n 2, 1) := dl_at bL_618_50 24 rfl
theorem dL_law_649 : decode cL_law 649 = .ok (.aload_n 0, 1) := dl_at bL_618_50 25 rfl
theorem dL_law_650 : decode cL_law 650 = .ok (.iload_n 3, 1) := dl_at bL_618_50 26 rfl
theorem dL_law_651 : decode cL_law 651 = .ok (.iconst 1, 1) := dl_at bL_618_50 27 rfl
theorem dL_law_652 : decode cL_law 652 = .ok (.iadd, 1) := dl_at bL_618_50 28 rfl
theorem dL_law_653 : decode cL_law 653 = .ok (.iaload, 1) := dl_at bL_618_50 29 rfl
theorem dL_law_654 : decode cL_law 654 = .ok (.aload_n 0, 1) := dl_at bL_618_50 30 rfl
theorem dL_law_655 : decode cL_law 655 = .ok (.iload_n 3, 1) := dl_at bL_618_50 31 rfl
theorem dL_law_656 : decode cL_law 656 = .ok (.iconst 2, 1) := dl_at bL_618_50 32 rfl
theorem dL_law_657 : decode cL_law 657 = .ok (.iadd, 1) := dl_at bL_618_50 33 rfl
theorem dL_law_658 : decode cL_law 658 = .ok (.iaload, 1) := dl_at bL_618_50 34 rfl
theorem dL_law_659 : decode cL_law 659 = .ok (.aload_n 0, 1) := dl_at bL_618_50 35 rfl
theorem dL_law_660 : decode cL_law 660 = .ok (.iload_n 3, 1) := dl_at bL_618_50 36 rfl
theorem dL_law_661 : decode cL_law 661 = .ok (.iconst 3, 1) := dl_at bL_618_50 37 rfl
theorem dL_law_662 : decode cL_law 662 = .ok (.iadd, 1) := dl_at bL_618_50 38 rfl
theorem dL_law_663 : decode cL_law 663 = .ok (.iaload, 1) := dl_at bL_618_50 39 rfl
theorem dL_law_664 : decode cL_law 664 = .ok (.invokevirtual 72, 3) := dl_at bL_618_50 40 rfl
theorem dL_law_667 : decode cL_law 667 = .ok (.pop2, 1) := dl_at bL_618_50 41 rfl
theorem dL_law_668 : decode cL_law 668 = .ok (.goto 527, 3) := dl_at bL_618_50 42 rfl
theorem dL_law_671 : decode cL_law 671 = .ok (.aload_n 1, 1) := dl_at bL_618_50 43 rfl
theorem dL_law_672 : decode cL_law 672 = .ok (.aload_n 0, 1) := dl_at bL_618_50 44 rfl
theorem dL_law_673 : decode cL_law 673 = .ok (.iload_n 3, 1) := dl_at bL_618_50 45 rfl
theorem dL_law_674 : decode cL_law 674 = .ok (.iconst 1, 1) := dl_at bL_618_50 46 rfl
theorem dL_law_675 : decode cL_law 675 = .ok (.iadd, 1) := dl_at bL_618_50 47 rfl
theorem dL_law_676 : decode cL_law 676 = .ok (.iaload, 1) := dl_at bL_618_50 48 rfl
theorem dL_law_677 : decode cL_law 677 = .ok (.invokevirtual 73, 3) := dl_at bL_618_50 49 rfl
def lL_680_50 : List (Nat × Instr × Nat) := [(680, .pop2, 1), (681, .aload_n 2, 1), (682, .aload_n 0, 1), (683, .iload_n 3, 1), (684, .iconst 1, 1), (685, .iadd, 1), (686, .iaload, 1), (687, .invokevirtual 77, 3), (690, .pop2, 1), (691, .goto 504, 3), (694, .aload_n 1, 1), (695, .aload_n 0, 1), (696, .iload_n 3, 1), (697, .iconst 1, 1), (698, .iadd, 1), (699, .iaload, 1), (700, .aload_n 0, 1), (701, .iload_n 3, 1), (702, .iconst 2, 1), (703, .iadd, 1), (704, .iaload, 1), (705, .invokevirtual 78, 3), (708, .pop, 1), (709, .aload_n 2, 1), (710, .aload_n 0, 1), (711, .iload_n 3, 1), (712, .iconst 1, 1), (713, .iadd, 1), (714, .iaload, 1), (715, .aload_n 0, 1), (716, .iload_n 3, 1), (717, .iconst 2, 1), (718, .iadd, 1), (719, .iaload, 1), (720, .invokevirtual 81, 3), (723, .pop, 1), (724, .goto 471, 3), (727, .aload_n 1, 1), (728, .aload_n 0, 1), (729, .iload_n 3, 1), (730, .iconst 1, 1), (731, .iadd, 1), (732, .iaload, 1), (733, .aload_n 0, 1), (734, .iload_n 3, 1), (735, .iconst 2, 1), (736, .iadd, 1), (737, .iaload, 1), (738, .invokevirtual 82, 3), (741, .pop2, 1)]
theorem bL_680_50 : lL_680_50.all (dOK cL_law) = true := by decide +kernel
theorem dL_law_680 : decode cL_law 680 = .ok (.pop2, 1) := dl_at bL_680_50 0 rfl
theorem dL_law_681 : decode cL_law 681 = .ok (.aload_n 2, 1) := dl_at bL_680_50 1 rfl
theorem dL_law_682 : decode cL_law 682 = .ok (.aload_n 0, 1) := dl_at bL_680_50 2 rfl
theorem dL_law_683 : decode cL_law 683 = .ok (.iload_n 3, 1) := dl_at bL_680_50 3 rfl
theorem dL_law_684 : decode cL_law 684 = .ok (.iconst 1, 1) := dl_at bL_680_50 4 rfl
theorem dL_law_685 : decode cL_law 685 = .ok (.iadd, 1) := dl_at bL_680_50 5 rfl
theorem dL_law_686 : decode cL_law 686 = .ok (.iaload, 1) := dl_at bL_680_50 6 rfl
theorem dL_law_687 : decode cL_law 687 = .ok (.invokevirtual 77, 3) := dl_at bL_680_50 7 rfl
theorem dL_law_690 : decode cL_law 690 = .ok (.pop2, 1) := dl_at bL_680_50 8 rfl
theorem dL_law_691 : decode cL_law 691 = .ok (.goto 504, 3) := dl_at bL_680_50 9 rfl
theorem dL_law_694 : decode cL_law 694 = .ok (.aload_n 1, 1) := dl_at bL_680_50 10 rfl
theorem dL_law_695 : decode cL_law 695 = .ok (.aload_n 0, 1) := dl_at bL_680_50 11 rfl
theorem dL_law_696 : decode cL_law 696 = .ok (.iload_n 3, 1) := dl_at bL_680_50 12 rfl
theorem dL_law_697 : decode cL_law 697 = .ok (.iconst 1, 1) := dl_at bL_680_50 13 rfl
theorem dL_law_698 : decode cL_law 698 = .ok (.iadd, 1) := dl_at bL_680_50 14 rfl
theorem dL_law_699 : decode cL_law 699 = .ok (.iaload, 1) := dl_at bL_680_50 15 rfl
theorem dL_law_700 : decode cL_law 700 = .ok (.aload_n 0, 1) := dl_at bL_680_50 16 rfl
theorem dL_law_701 : decode cL_law 701 = .ok (.iload_n 3, 1) := dl_at bL_680_50 17 rfl
theorem dL_law_702 : decode cL_law 702 = .ok (.iconst 2, 1) := dl_at bL_680_50 18 rfl
theorem dL_law_703 : decode cL_law 703 = .ok (.iadd, 1) := dl_at bL_680_50 19 rfl
theorem dL_law_704 : decode cL_law 704 = .ok (.iaload, 1) := dl_at bL_680_50 20 rfl
theorem dL_law_705 : decode cL_law 705 = .ok (.invokevirtual 78, 3) := dl_at bL_680_50 21 rfl
theorem dL_law_708 : decode cL_law 708 = .ok (.pop, 1) := dl_at bL_680_50 22 rfl
theorem dL_law_709 : decode cL_law 709 = .ok (.aload_n 2, 1) := dl_at bL_680_50 23 rfl
theorem dL_law_710 : decode cL_law 710 = .ok (.aload_n 0, 1) := dl_at bL_680_50 24 rfl
theorem dL_law_711 : decode cL_law 711 = .ok (.iload_n 3, 1) := dl_at bL_680_50 25 rfl
theorem dL_law_712 : decode cL_law 712 = .ok (.iconst 1, 1) := dl_at bL_680_50 26 rfl
theorem dL_law_713 : decode cL_law 713 = .ok (.iadd, 1) := dl_at bL_680_50 27 rfl
theorem dL_law_714 : decode cL_law 714 = .ok (.iaload, 1) := dl_at bL_680_50 28 rfl
theorem dL_law_715 : decode cL_law 715 = .ok (.aload_n 0, 1) := dl_at bL_680_50 29 rfl
theorem dL_law_716 : decode cL_law 716 = .ok (.iload_n 3, 1) := dl_at bL_680_50 30 rfl
theorem dL_law_717 : decode cL_law 717 = .ok (.iconst 2, 1) := dl_at bL_680_50 31 rfl
theorem dL_law_718 : decode cL_law 718 = .ok (.iadd, 1) := dl_at bL_680_50 32 rfl
theorem dL_law_719 : decode cL_law 719 = .ok (.iaload, 1) := dl_at bL_680_50 33 rfl
theorem dL_law_720 : decode cL_law 720 = .ok (.invokevirtual 81, 3) := dl_at bL_680_50 34 rfl
theorem dL_law_723 : decode cL_law 723 = .ok (.pop, 1) := dl_at bL_680_50 35 rfl
theorem dL_law_724 : decode cL_law 724 = .ok (.goto 471, 3) := dl_at bL_680_50 36 rfl
theorem dL_law_727 : decode cL_law 727 = .ok (.aload_n 1, 1) := dl_at bL_680_50 37 rfl
theorem dL_law_728 : decode cL_law 728 = .ok (.aload_n 0, 1) := dl_at bL_680_50 38 rfl
theorem dL_law_729 : decode cL_law 729 = .ok (.iload_n 3, 1) := dl_at bL_680_50 39 rfl
theorem dL_law_730 : decode cL_law 730 = .ok (.iconst 1, 1) := dl_at bL_680_50 40 rfl
theorem dL_law_731 : decode cL_law 731 = .ok (.iadd, 1) := dl_at bL_680_50 41 rfl
theorem dL_law_732 : decode cL_law 732 = .ok (.iaload, 1) := dl_at bL_680_50 42 rfl
theorem dL_law_733 : decode cL_law 733 = .ok (.aload_n 0, 1) := dl_at bL_680_50 43 rfl
theorem dL_law_734 : decode cL_law 734 = .ok (.iload_n 3, 1) := dl_at bL_680_50 44 rfl
theorem dL_law_735 : decode cL_law 735 = .ok (.iconst 2, 1) := dl_at bL_680_50 45 rfl
theorem dL_law_736 : decode cL_law 736 = .ok (.iadd, 1) := dl_at bL_680_50 46 rfl
theorem dL_law_737 : decode cL_law 737 = .ok (.iaload, 1) := dl_at bL_680_50 47 rfl
theorem dL_law_738 : decode cL_law 738 = .ok (.invokevirtual 82, 3) := dl_at bL_680_50 48 rfl
theorem dL_law_741 : decode cL_law 741 = .ok (.pop2, 1) := dl_at bL_680_50 49 rfl
def lL_742_50 : List (Nat × Instr × Nat) := [(742, .aload_n 2, 1), (743, .aload_n 0, 1), (744, .iload_n 3, 1), (745, .iconst 1, 1), (746, .iadd, 1), (747, .iaload, 1), (748, .aload_n 0, 1), (749, .iload_n 3, 1), (750, .iconst 2, 1), (751, .iadd, 1), (752, .iaload, 1), (753, .invokevirtual 85, 3), (756, .pop2, 1), (757, .goto 438, 3), (760, .aload_n 1, 1), (761, .aload_n 0, 1), (762, .iload_n 3, 1), (763, .iconst 1, 1), (764, .iadd, 1), (765, .iaload, 1), (766, .invokevirtual 86, 3), (769, .pop2, 1), (770, .aload_n 2, 1), (771, .aload_n 0, 1), (772, .iload_n 3, 1), (773, .iconst 1, 1), (774, .iadd, 1), (775, .iaload, 1), (776, .invokevirtual 89, 3), (779, .pop2, 1), (780, .goto 415, 3), (783, .aload_n 1, 1), (784, .invokevirtual 90, 3), (787, .pop, 1), (788, .aload_n 2, 1), (789, .invokevirtual 93, 3), (792, .pop, 1), (793, .goto 402, 3), (796, .aload_n 1, 1), (797, .aload_n 0, 1), (798, .iload_n 3, 1), (799, .iconst 1, 1), (800, .iadd, 1), (801, .iaload, 1), (802, .invokevirtual 94, 3), (805, .pop, 1), (806, .aload_n 2, 1), (807, .aload_n 0, 1), (808, .iload_n 3, 1), (809, .iconst 1, 1)]
theorem bL_742_50 : lL_742_50.all (dOK cL_law) = true := by decide +kernel
theorem dL_law_742 : decode cL_law 742 = .ok (.aload_n 2, 1) := dl_at bL_742_50 0 rfl
theorem dL_law_743 : decode cL_law 743 = .ok (.aload_n 0, 1) := dl_at bL_742_50 1 rfl
theorem dL_law_744 : decode cL_law 744 = .ok (.iload_n 3, 1) := dl_at bL_742_50 2 rfl
theorem dL_law_745 : decode cL_law 745 = .ok (.iconst 1, 1) := dl_at bL_742_50 3 rfl
theorem dL_law_746 : decode cL_law 746 = .ok (.iadd, 1) := dl_at bL_742_50 4 rfl
theorem dL_law_747 : decode cL_law 747 = .ok (.iaload, 1) := dl_at bL_742_50 5 rfl
theorem dL_law_748 : decode cL_law 748 = .ok (.aload_n 0, 1) := dl_at bL_742_50 6 rfl
theorem dL_law_749 : decode cL_law 749 = .ok (.iload_n 3, 1) := dl_at bL_742_50 7 rfl
theorem dL_law_750 : decode cL_law 750 = .ok (.iconst 2, 1) := dl_at bL_742_50 8 rfl
theorem dL_law_751 : decode cL_law 751 = .ok (.iadd, 1) := dl_at bL_742_50 9 rfl
theorem dL_law_752 : decode cL_law 752 = .ok (.iaload, 1) := dl_at bL_742_50 10 rfl
theorem dL_law_753 : decode cL_law 753 = .ok (.invokevirtual 85, 3) := dl_at bL_742_50 11 rfl
theorem dL_law_756 : decode cL_law 756 = .ok (.pop2, 1) := dl_at bL_742_50 12 rfl
theorem dL_law_757 : decode cL_law 757 = .ok (.goto 438, 3) := dl_at bL_742_50 13 rfl
theorem dL_law_760 : decode cL_law 760 = .ok (.aload_n 1, 1) := dl_at bL_742_50 14 rfl
theorem dL_law_761 : decode cL_law 761 = .ok (.aload_n 0, 1) := dl_at bL_742_50 15 rfl
theorem dL_law_762 : decode cL_law 762 = .ok (.iload_n 3, 1) := dl_at bL_742_50 16 rfl
theorem dL_law_763 : decode cL_law 763 = .ok (.iconst 1, 1) := dl_at bL_742_50 17 rfl
theorem dL_law_764 : decode cL_law 764 = .ok (.iadd, 1) := dl_at bL_742_50 18 rfl
theorem dL_law_765 : decode cL_law 765 = .ok (.iaload, 1) := dl_at bL_742_50 19 rfl
theorem dL_law_766 : decode cL_law 766 = .ok (.invokevirtual 86, 3) := dl_at bL_742_50 20 rfl
theorem dL_law_769 : decode cL_law 769 = .ok (.pop2, 1) := dl_at bL_742_50 21 rfl
theorem dL_law_770 : decode cL_law 770 = .ok (.aload_n 2, 1) := dl_at bL_742_50 22 rfl
theorem dL_law_771 : decode cL_law 771 = .ok (.aload_n 0, 1) := dl_at bL_742_50 23 rfl
theorem dL_law_772 : decode cL_law 772 = .ok (.iload_n 3, 1) := dl_at bL_742_50 24 rfl
theorem dL_law_773 : decode cL_law 773 = .ok (.iconst 1, 1) := dl_at bL_742_50 25 rfl
theorem dL_law_774 : decode cL_law 774 = .ok (.iadd, 1) := dl_at bL_742_50 26 rfl
theorem dL_law_775 : decode cL_law 775 = .ok (.iaload, 1) := dl_at bL_742_50 27 rfl
theorem dL_law_776 : decode cL_law 776 = .ok (.invokevirtual 89, 3) := dl_at bL_742_50 28 rfl
theorem dL_law_779 : decode cL_law 779 = .ok (.pop2, 1) := dl_at bL_742_50 29 rfl
theorem dL_law_780 : decode cL_law 780 = .ok (.goto 415, 3) := dl_at bL_742_50 30 rfl
theorem dL_law_783 : decode cL_law 783 = .ok (.aload_n 1, 1) := dl_at bL_742_50 31 rfl
theorem dL_law_784 : decode cL_law 784 = .ok (.invokevirtual 90, 3) := dl_at bL_742_50 32 rfl
theorem dL_law_787 : decode cL_law 787 = .ok (.pop, 1) := dl_at bL_742_50 33 rfl
theorem dL_law_788 : decode cL_law 788 = .ok (.aload_n 2, 1) := dl_at bL_742_50 34 rfl
theorem dL_law_789 : decode cL_law 789 = .ok (.invokevirtual 93, 3) := dl_at bL_742_50 35 rfl
theorem dL_law_792 : decode cL_law 792 = .ok (.pop, 1) := dl_at bL_742_50 36 rfl
theorem dL_law_793 : decode cL_law 793 = .ok (.goto 402, 3) := dl_at bL_742_50 37 rfl
theorem dL_law_796 : decode cL_law 796 = .ok (.aload_n 1, 1) := dl_at bL_742_50 38 rfl
theorem dL_law_797 : decode cL_law 797 = .ok (.aload_n 0, 1) := dl_at bL_742_50 39 rfl
theorem dL_law_798 : decode cL_law 798 = .ok (.iload_n 3, 1) := dl_at bL_742_50 40 rfl
theorem dL_law_799 : decode cL_law 799 = .ok (.iconst 1, 1) := dl_at bL_742_50 41 rfl
theorem dL_law_800 : decode cL_law 800 = .ok (.iadd, 1) := dl_at bL_742_50 42 rfl
theorem dL_law_801 : decode cL_law 801 = .ok (.iaload, 1) := dl_at bL_742_50 43 rfl
theorem dL_law_802 : decode cL_law 802 = .ok (.invokevirtual 94, 3) := dl_at bL_742_50 44 rfl
theorem dL_law_805 : decode cL_law 805 = .ok (.pop, 1) := dl_at bL_742_50 45 rfl
theorem dL_law_806 : decode cL_law 806 = .ok (.aload_n 2, 1) := dl_at bL_742_50 46 rfl
theorem dL_law_807 : decode cL_law 807 = .ok (.aload_n 0, 1) := dl_at bL_742_50 47 rfl
theorem dL_law_808 : decode cL_law 808 = .ok (.iload_n 3, 1) := dl_at bL_742_50 48 rfl
theorem dL_law_809 : decode cL_law 809 = .ok (.iconst 1, 1) := dl_at bL_742_50 49 rfl
def lL_810_50 : List (Nat × Instr × Nat) := [(810, .iadd, 1), (811, .iaload, 1), (812, .invokevirtual 97, 3), (815, .pop, 1), (816, .goto 379, 3), (819, .aload_n 1, 1), (820, .aload_n 0, 1), (821, .iload_n 3, 1), (822, .iconst 1, 1), (823, .iadd, 1), (824, .iaload, 1), (825, .aload_n 0, 1), (826, .iload_n 3, 1), (827, .iconst 2, 1), (828, .iadd, 1), (829, .iaload, 1), (830, .invokevirtual 98, 3), (833, .pop2, 1), (834, .aload_n 2, 1), (835, .aload_n 0, 1), (836, .iload_n 3, 1), (837, .iconst 1, 1), (838, .iadd, 1), (839, .iaload, 1), (840, .aload_n 0, 1), (841, .iload_n 3, 1), (842, .iconst 2, 1), (843, .iadd, 1), (844, .iaload, 1), (845, .invokevirtual 101, 3), (848, .pop2, 1), (849, .goto 346, 3), (852, .aload_n 1, 1), (853, .aload_n 0, 1), (854, .iload_n 3, 1), (855, .iconst 1, 1), (856, .iadd, 1), (857, .iaload, 1), (858, .aload_n 0, 1), (859, .iload_n 3, 1), (860, .iconst 2, 1), (861, .iadd, 1), (862, .iaload, 1), (863, .aload_n 0, 1), (864, .iload_n 3, 1), (865, .iconst 3, 1), (866, .iadd, 1), (867, .iaload, 1), (868, .invokevirtual 102, 3), (871, .pop, 1)]
theorem bL_810_50 : lL_810_50.all (dOK cL_law) = true := by decide +kernel
theorem dL_law_810 : decode cL_law 810 = .ok (.iadd, 1) := dl_at bL_810_50 0 rfl
theorem dL_law_811 : decode cL_law 811 = .ok (.iaload, 1) := dl_at bL_810_50 1 rfl
theorem dL_law_812 : decode cL_law 812 = .ok (.invokevirtual 97, 3) := dl_at bL_810_50 2 rfl
theorem dL_law_815 : decode cL_law 815 = .ok (.pop, 1) := dl_at bL_810_50 3 rfl
theorem dL_law_816 : decode cL_law 816 = .ok (.goto 379, 3) := dl_at bL_810_50 4 rfl
theorem dL_law_819 : decode cL_law 819 = .ok (.aload_n 1, 1) := dl_at bL_810_50 5 rfl
theorem dL_law_820 : decode cL_law 820 = .ok (.aload_n 0, 1) := dl_at bL_810_50 6 rfl
theorem dL_law_821 : decode cL_law 821 = .ok (.iload_n 3, 1) := dl_at bL_810_50 7 rfl
theorem dL_law_822 : decode cL_law 822 = .ok (.iconst 1, 1) := dl_at bL_810_50 8 rfl
theorem dL_law_823 : decode cL_law 823 = .ok (.iadd, 1) := dl_at bL_810_50 9 rfl
theorem dL_law_824 : decode cL_law 824 = .ok (.iaload, 1) := dl_at bL_810_50 10 rfl
theorem dL_law_825 : decode cL_law 825 = .ok (.aload_n 0, 1) := dl_at bL_810_50 11 rfl
theorem dL_law_826 : decode cL_law 826 = .ok (.iload_n 3, 1) := dl_at bL_810_50 12 rfl
theorem dL_law_827 : decode cL_law 827 = .ok (.iconst 2, 1) := dl_at bL_810_50 13 rfl
theorem dL_law_828 : decode cL_law 828 = .ok (.iadd, 1) := dl_at bL_810_50 14 rfl
theorem dL_law_829 : decode cL_law 829 = .ok (.iaload, 1) := dl_at bL_810_50 15 rfl
theorem dL_law_830 : decode cL_law 830 = .ok (.invokevirtual 98, 3) := dl_at bL_810_50 16 rfl
theorem dL_law_833 : decode cL_law 833 = .ok (.pop2, 1) := dl_at bL_810_50 17 rfl
theorem dL_law_834 : decode cL_law 834 = .ok (.aload_n 2, 1) := dl_at bL_810_50 18 rfl
theorem dL_law_835 : decode cL_law 835 = .ok (.aload_n 0, 1) := dl_at bL_810_50 19 rfl
theorem dL_law_836 : decode cL_law 836 = .ok (.iload_n 3, 1) := dl_at bL_810_50 20 rfl
theorem dL_law_837 : decode cL_law 837 = .ok (.iconst 1, 1) := dl_at bL_810_50 21 rfl
theorem dL_law_838 : decode cL_law 838 = .ok (.iadd, 1) := dl_at bL_810_50 22 rfl
theorem dL_law_839 : decode cL_law 839 = .ok (.iaload, 1) := dl_at bL_810_50 23 rfl
theorem dL_law_840 : decode cL_law 840 = .ok (.aload_n 0, 1) := dl_at bL_810_50 24 rfl
theorem dL_law_841 : decode cL_law 841 = .ok (.iload_n 3, 1) := dl_at bL_810_50 25 rfl
theorem dL_law_842 : decode cL_law 842 = .ok (.iconst 2, 1) := dl_at bL_810_50 26 rfl
theorem dL_law_843 : decode cL_law 843 = .ok (.iadd, 1) := dl_at bL_810_50 27 rfl
theorem dL_law_844 : decode cL_law 844 = .ok (.iaload, 1) := dl_at bL_810_50 28 rfl
theorem dL_law_845 : decode cL_law 845 = .ok (.invokevirtual 101, 3) := dl_at bL_810_50 29 rfl
theorem dL_law_848 : decode cL_law 848 = .ok (.pop2, 1) := dl_at bL_810_50 30 rfl
theorem dL_law_849 : decode cL_law 849 = .ok (.goto 346, 3) := dl_at bL_810_50 31 rfl
theorem dL_law_852 : decode cL_law 852 = .ok (.aload_n 1, 1) := dl_at bL_810_50 32 rfl
theorem dL_law_853 : decode cL_law 853 = .ok (.aload_n 0, 1) := dl_at bL_810_50 33 rfl
theorem dL_law_854 : decode cL_law 854 = .ok (.iload_n 3, 1) := dl_at bL_810_50 34 rfl
theorem dL_law_855 : decode cL_law 855 = .ok (.iconst 1, 1) := dl_at bL_810_50 35 rfl
theorem dL_law_856 : decode cL_law 856 = .ok (.iadd, 1) := dl_at bL_810_50 36 rfl
theorem dL_law_857 : decode cL_law 857 = .ok (.iaload, 1) := dl_at bL_810_50 37 rfl
theorem dL_law_858 : decode cL_law 858 = .ok (.aload_n 0, 1) := dl_at bL_810_50 38 rfl
theorem dL_law_859 : decode cL_law 859 = .ok (.iload_n 3, 1) := dl_at bL_810_50 39 rfl
theorem dL_law_860 : decode cL_law 860 = .ok (.iconst 2, 1) := dl_at bL_810_50 40 rfl
theorem dL_law_861 : decode cL_law 861 = .ok (.iadd, 1) := dl_at bL_810_50 41 rfl
theorem dL_law_862 : decode cL_law 862 = .ok (.iaload, 1) := dl_at bL_810_50 42 rfl
theorem dL_law_863 : decode cL_law 863 = .ok (.aload_n 0, 1) := dl_at bL_810_50 43 rfl
theorem dL_law_864 : decode cL_law 864 = .ok (.iload_n 3, 1) := dl_at bL_810_50 44 rfl
theorem dL_law_865 : decode cL_law 865 = .ok (.iconst 3, 1) := dl_at bL_810_50 45 rfl
theorem dL_law_866 : decode cL_law 866 = .ok (.iadd, 1) := dl_at bL_810_50 46 rfl
theorem dL_law_867 : decode cL_law 867 = .ok (.iaload, 1) := dl_at bL_810_50 47 rfl
theorem dL_law_868 : decode cL_law 868 = .ok (.invokevirtual 102, 3) := dl_at bL_810_50 48 rfl
theorem dL_law_871 : decode cL_law 871 = .ok (.pop, 1) := dl_at bL_810_50 49 rfl
def lL_872_50 : List (Nat × Instr × Nat) := [(872, .aload_n 2, 1), (873, .aload_n 0, 1), (874, .iload_n 3, 1), (875, .iconst 1, 1), (876, .iadd, 1), (877, .iaload, 1), (878, .aload_n 0, 1), (879, .iload_n 3, 1), (880, .iconst 2, 1), (881, .iadd, 1), (882, .iaload, 1), (883, .aload_n 0, 1), (884, .iload_n 3, 1), (885, .iconst 3, 1), (886, .iadd, 1), (887, .iaload, 1), (888, .invokevirtual 105, 3), (891, .pop, 1), (892, .goto 303, 3), (895, .aload_n 1, 1), (896, .aload_n 0, 1), (897, .iload_n 3, 1), (898, .iconst 1, 1), (899, .iadd, 1), (900, .iaload, 1), (901, .invokevirtual 106, 3), (904, .pop, 1), (905, .aload_n 2, 1), (906, .aload_n 0, 1), (907, .iload_n 3, 1), (908, .iconst 1, 1), (909, .iadd, 1), (910, .iaload, 1), (911, .invokevirtual 109, 3), (914, .pop, 1), (915, .goto 280, 3), (918, .aload_n 1, 1), (919, .aload_n 0, 1), (920, .iload_n 3, 1), (921, .iconst 1, 1), (922, .iadd, 1), (923, .iaload, 1), (924, .aload_n 0, 1), (925, .iload_n 3, 1), (926, .iconst 2, 1), (927, .iadd, 1), (928, .iaload, 1), (929, .aload_n 0, 1), (930, .iload_n 3, 1), (931, .iconst 3, 1)]
theorem bL_872_50 : lL_872_50.all (dOK cL_law) = true := by decide +kernel
theorem dL_law_872 : decode cL_law 872 = .ok (.aload_n 2, 1) := dl_at bL_872_50 0 rfl
theorem dL_law_873 : decode cL_law 873 = .ok (.aload_n 0, 1) := dl_at bL_872_50 1 rfl
theorem dL_law_874 : decode cL_law 874 = .ok (.iload_n 3, 1) := dl_at bL_872_50 2 rfl
theorem dL_law_875 : decode cL_law 875 = .ok (.iconst 1, 1) := dl_at bL_872_50 3 rfl
theorem dL_law_876 : decode cL_law 876 = .ok (.iadd, 1) := dl_at bL_872_50 4 rfl
theorem dL_law_877 : decode cL_law 877 = .ok (.iaload, 1) := dl_at bL_872_50 5 rfl
theorem dL_law_878 : decode cL_law 878 = .ok (.aload_n 0, 1) := dl_at bL_872_50 6 rfl
theorem dL_law_879 : decode cL_law 879 = .ok (.iload_n 3, 1) := dl_at bL_872_50 7 rfl
theorem dL_law_880 : decode cL_law 880 = .ok (.iconst 2, 1) := dl_at bL_872_50 8 rfl
theorem dL_law_881 : decode cL_law 881 = .ok (.iadd, 1) := dl_at bL_872_50 9 rfl
theorem dL_law_882 : decode cL_law 882 = .ok (.iaload, 1) := dl_at bL_872_50 10 rfl
theorem dL_law_883 : decode cL_law 883 = .ok (.aload_n 0, 1) := dl_at bL_872_50 11 rfl
theorem dL_law_884 : decode cL_law 884 = .ok (.iload_n 3, 1) := dl_at bL_872_50 12 rfl
theorem dL_law_885 : decode cL_law 885 = .ok (.iconst 3, 1) := dl_at bL_872_50 13 rfl
theorem dL_law_886 : decode cL_law 886 = .ok (.iadd, 1) := dl_at bL_872_50 14 rfl
theorem dL_law_887 : decode cL_law 887 = .ok (.iaload, 1) := dl_at bL_872_50 15 rfl
theorem dL_law_888 : decode cL_law 888 = .ok (.invokevirtual 105, 3) := dl_at bL_872_50 16 rfl
theorem dL_law_891 : decode cL_law 891 = .ok (.pop, 1) := dl_at bL_872_50 17 rfl
theorem dL_law_892 : decode cL_law 892 = .ok (.goto 303, 3) := dl_at bL_872_50 18 rfl
theorem dL_law_895 : decode cL_law 895 = .ok (.aload_n 1, 1) := dl_at bL_872_50 19 rfl
theorem dL_law_896 : decode cL_law 896 = .ok (.aload_n 0, 1) := dl_at bL_872_50 20 rfl
theorem dL_law_897 : decode cL_law 897 = .ok (.iload_n 3, 1) := dl_at bL_872_50 21 rfl
theorem dL_law_898 : decode cL_law 898 = .ok (.iconst 1, 1) := dl_at bL_872_50 22 rfl
theorem dL_law_899 : decode cL_law 899 = .ok (.iadd, 1) := dl_at bL_872_50 23 rfl
theorem dL_law_900 : decode cL_law 900 = .ok (.iaload, 1) := dl_at bL_872_50 24 rfl
theorem dL_law_901 : decode cL_law 901 = .ok (.invokevirtual 106, 3) := dl_at bL_872_50 25 rfl
theorem dL_law_904 : decode cL_law 904 = .ok (.pop, 1) := dl_at bL_872_50 26 rfl
theorem dL_law_905 : decode cL_law 905 = .ok (.aload_n 2, 1) := dl_at bL_872_50 27 rfl
theorem dL_law_906 : decode cL_law 906 = .ok (.aload_n 0, 1) := dl_at bL_872_50 28 rfl
theorem dL_law_907 : decode cL_law 907 = .ok (.iload_n 3, 1) := dl_at bL_872_50 29 rfl
theorem dL_law_908 : decode cL_law 908 = .ok (.iconst 1, 1) := dl_at bL_872_50 30 rfl
theorem dL_law_909 : decode cL_law 909 = .ok (.iadd, 1) := dl_at bL_872_50 31 rfl
theorem dL_law_910 : decode cL_law 910 = .ok (.iaload, 1) := dl_at bL_872_50 32 rfl
theorem dL_law_911 : decode cL_law 911 = .ok (.invokevirtual 109, 3) := dl_at bL_872_50 33 rfl
theorem dL_law_914 : decode cL_law 914 = .ok (.pop, 1) := dl_at bL_872_50 34 rfl
theorem dL_law_915 : decode cL_law 915 = .ok (.goto 280, 3) := dl_at bL_872_50 35 rfl
theorem dL_law_918 : decode cL_law 918 = .ok (.aload_n 1, 1) := dl_at bL_872_50 36 rfl
theorem dL_law_919 : decode cL_law 919 = .ok (.aload_n 0, 1) := dl_at bL_872_50 37 rfl
theorem dL_law_920 : decode cL_law 920 = .ok (.iload_n 3, 1) := dl_at bL_872_50 38 rfl
theorem dL_law_921 : decode cL_law 921 = .ok (.iconst 1, 1) := dl_at bL_872_50 39 rfl
theorem dL_law_922 : decode cL_law 922 = .ok (.iadd, 1) := dl_at bL_872_50 40 rfl
theorem dL_law_923 : decode cL_law 923 = .ok (.iaload, 1) := dl_at bL_872_50 41 rfl
theorem dL_law_924 : decode cL_law 924 = .ok (.aload_n 0, 1) := dl_at bL_872_50 42 rfl
theorem dL_law_925 : decode cL_law 925 = .ok (.iload_n 3, 1) := dl_at bL_872_50 43 rfl
theorem dL_law_926 : decode cL_law 926 = .ok (.iconst 2, 1) := dl_at bL_872_50 44 rfl
theorem dL_law_927 : decode cL_law 927 = .ok (.iadd, 1) := dl_at bL_872_50 45 rfl
theorem dL_law_928 : decode cL_law 928 = .ok (.iaload, 1) := dl_at bL_872_50 46 rfl
theorem dL_law_929 : decode cL_law 929 = .ok (.aload_n 0, 1) := dl_at bL_872_50 47 rfl
theorem dL_law_930 : decode cL_law 930 = .ok (.iload_n 3, 1) := dl_at bL_872_50 48 rfl
theorem dL_law_931 : decode cL_law 931 = .ok (.iconst 3, 1) := dl_at bL_872_50 49 rfl
def lL_932_50 : List (Nat × Instr × Nat) := [(932, .iadd, 1), (933, .iaload, 1), (934, .invokevirtual 110, 3), (937, .pop, 1), (938, .aload_n 2, 1), (939, .aload_n 0, 1), (940, .iload_n 3, 1), (941, .iconst 1, 1), (942, .iadd, 1), (943, .iaload, 1), (944, .aload_n 0, 1), (945, .iload_n 3, 1), (946, .iconst 2, 1), (947, .iadd, 1), (948, .iaload, 1), (949, .aload_n 0, 1), (950, .iload_n 3, 1), (951, .iconst 3, 1), (952, .iadd, 1), (953, .iaload, 1), (954, .invokevirtual 113, 3), (957, .pop, 1), (958, .goto 237, 3), (961, .aload_n 1, 1), (962, .aload_n 0, 1), (963, .iload_n 3, 1), (964, .iconst 1, 1), (965, .iadd, 1), (966, .iaload, 1), (967, .aload_n 0, 1), (968, .iload_n 3, 1), (969, .iconst 2, 1), (970, .iadd, 1), (971, .iaload, 1), (972, .aload_n 0, 1), (973, .iload_n 3, 1), (974, .iconst 3, 1), (975, .iadd, 1), (976, .iaload, 1), (977, .invokevirtual 114, 3), (980, .pop2, 1), (981, .aload_n 2, 1), (982, .aload_n 0, 1), (983, .iload_n 3, 1), (984, .iconst 1, 1), (985, .iadd, 1), (986, .iaload, 1), (987, .aload_n 0, 1), (988, .iload_n 3, 1), (989, .iconst 2, 1)]
theorem bL_932_50 : lL_932_50.all (dOK cL_law) = true := by decide +kernel
theorem dL_law_932 : decode cL_law 932 = .ok (.iadd, 1) := dl_at bL_932_50 0 rfl
theorem dL_law_933 : decode cL_law 933 = .ok (.iaload, 1) := dl_at bL_932_50 1 rfl
theorem dL_law_934 : decode cL_law 934 = .ok (.invokevirtual 110, 3) := dl_at bL_932_50 2 rfl
theorem dL_law_937 : decode cL_law 937 = .ok (.pop, 1) := dl_at bL_932_50 3 rfl
theorem dL_law_938 : decode cL_law 938 = .ok (.aload_n 2, 1) := dl_at bL_932_50 4 rfl
theorem dL_law_939 : decode cL_law 939 = .ok (.aload_n 0, 1) := dl_at bL_932_50 5 rfl
theorem dL_law_940 : decode cL_law 940 = .ok (.iload_n 3, 1) := dl_at bL_932_50 6 rfl
theorem dL_law_941 : decode cL_law 941 = .ok (.iconst 1, 1) := dl_at bL_932_50 7 rfl
theorem dL_law_942 : decode cL_law 942 = .ok (.iadd, 1) := dl_at bL_932_50 8 rfl
theorem dL_law_943 : decode cL_law 943 = .ok (.iaload, 1) := dl_at bL_932_50 9 rfl
theorem dL_law_944 : decode cL_law 944 = .ok (.aload_n 0, 1) := dl_at bL_932_50 10 rfl
theorem dL_law_945 : decode cL_law 945 = .ok (.iload_n 3, 1) := dl_at bL_932_50 11 rfl
theorem dL_law_946 : decode cL_law 946 = .ok (.iconst 2, 1) := dl_at bL_932_50 12 rfl
theorem dL_law_947 : decode cL_law 947 = .ok (.iadd, 1) := dl_at bL_932_50 13 rfl
theorem dL_law_948 : decode cL_law 948 = .ok (.iaload, 1) := dl_at bL_932_50 14 rfl
theorem dL_law_949 : decode cL_law 949 = .ok (.aload_n 0, 1) := dl_at bL_932_50 15 rfl
theorem dL_law_950 : decode cL_law 950 = .ok (.iload_n 3, 1) := dl_at bL_932_50 16 rfl
theorem dL_law_951 : decode cL_law 951 = .ok (.iconst 3, 1) := dl_at bL_932_50 17 rfl
theorem dL_law_952 : decode cL_law 952 = .ok (.iadd, 1) := dl_at bL_932_50 18 rfl
theorem dL_law_953 : decode cL_law 953 = .ok (.iaload, 1) := dl_at bL_932_50 19 rfl
theorem dL_law_954 : decode cL_law 954 = .ok (.invokevirtual 113, 3) := dl_at bL_932_50 20 rfl
theorem dL_law_957 : decode cL_law 957 = .ok (.pop, 1) := dl_at bL_932_50 21 rfl
theorem dL_law_958 : decode cL_law 958 = .ok (.goto 237, 3) := dl_at bL_932_50 22 rfl
theorem dL_law_961 : decode cL_law 961 = .ok (.aload_n 1, 1) := dl_at bL_932_50 23 rfl
theorem dL_law_962 : decode cL_law 962 = .ok (.aload_n 0, 1) := dl_at bL_932_50 24 rfl
theorem dL_law_963 : decode cL_law 963 = .ok (.iload_n 3, 1) := dl_at bL_932_50 25 rfl
theorem dL_law_964 : decode cL_law 964 = .ok (.iconst 1, 1) := dl_at bL_932_50 26 rfl
theorem dL_law_965 : decode cL_law 965 = .ok (.iadd, 1) := dl_at bL_932_50 27 rfl
theorem dL_law_966 : decode cL_law 966 = .ok (.iaload, 1) := dl_at bL_932_50 28 rfl
theorem dL_law_967 : decode cL_law 967 = .ok (.aload_n 0, 1) := dl_at bL_932_50 29 rfl
theorem dL_law_968 : decode cL_law 968 = .ok (.iload_n 3, 1) := dl_at bL_932_50 30 rfl
theorem dL_law_969 : decode cL_law 969 = .ok (.iconst 2, 1) := dl_at bL_932_50 31 rfl
theorem dL_law_970 : decode cL_law 970 = .ok (.iadd, 1) := dl_at bL_932_50 32 rfl
theorem dL_law_971 : decode cL_law 971 = .ok (.iaload, 1) := dl_at bL_932_50 33 rfl
theorem dL_law_972 : decode cL_law 972 = .ok (.aload_n 0, 1) := dl_at bL_932_50 34 rfl
theorem dL_law_973 : decode cL_law 973 = .ok (.iload_n 3, 1) := dl_at bL_932_50 35 rfl
theorem dL_law_974 : decode cL_law 974 = .ok (.iconst 3, 1) := dl_at bL_932_50 36 rfl
theorem dL_law_975 : decode cL_law 975 = .ok (.iadd, 1) := dl_at bL_932_50 37 rfl
theorem dL_law_976 : decode cL_law 976 = .ok (.iaload, 1) := dl_at bL_932_50 38 rfl
theorem dL_law_977 : decode cL_law 977 = .ok (.invokevirtual 114, 3) := dl_at bL_932_50 39 rfl
theorem dL_law_980 : decode cL_law 980 = .ok (.pop2, 1) := dl_at bL_932_50 40 rfl
theorem dL_law_981 : decode cL_law 981 = .ok (.aload_n 2, 1) := dl_at bL_932_50 41 rfl
theorem dL_law_982 : decode cL_law 982 = .ok (.aload_n 0, 1) := dl_at bL_932_50 42 rfl
theorem dL_law_983 : decode cL_law 983 = .ok (.iload_n 3, 1) := dl_at bL_932_50 43 rfl
theorem dL_law_984 : decode cL_law 984 = .ok (.iconst 1, 1) := dl_at bL_932_50 44 rfl
theorem dL_law_985 : decode cL_law 985 = .ok (.iadd, 1) := dl_at bL_932_50 45 rfl
theorem dL_law_986 : decode cL_law 986 = .ok (.iaload, 1) := dl_at bL_932_50 46 rfl
theorem dL_law_987 : decode cL_law 987 = .ok (.aload_n 0, 1) := dl_at bL_932_50 47 rfl
theorem dL_law_988 : decode cL_law 988 = .ok (.iload_n 3, 1) := dl_at bL_932_50 48 rfl
theorem dL_law_989 : decode cL_law 989 = .ok (.iconst 2, 1) := dl_at bL_932_50 49 rfl
def lL_990_50 : List (Nat × Instr × Nat) := [(990, .iadd, 1), (991, .iaload, 1), (992, .aload_n 0, 1), (993, .iload_n 3, 1), (994, .iconst 3, 1), (995, .iadd, 1), (996, .iaload, 1), (997, .invokevirtual 117, 3), (1000, .pop2, 1), (1001, .goto 194, 3), (1004, .aload_n 1, 1), (1005, .aload_n 0, 1), (1006, .iload_n 3, 1), (1007, .iconst 1, 1), (1008, .iadd, 1), (1009, .iaload, 1), (1010, .aload_n 0, 1), (1011, .iload_n 3, 1), (1012, .iconst 2, 1), (1013, .iadd, 1), (1014, .iaload, 1), (1015, .aload_n 0, 1), (1016, .iload_n 3, 1), (1017, .iconst 3, 1), (1018, .iadd, 1), (1019, .iaload, 1), (1020, .aload_n 0, 1), (1021, .iload_n 3, 1), (1022, .iconst 4, 1), (1023, .iadd, 1), (1024, .iaload, 1), (1025, .aload_n 0, 1), (1026, .iload_n 3, 1), (1027, .iconst 5, 1), (1028, .iadd, 1), (1029, .iaload, 1), (1030, .invokevirtual 118, 3), (1033, .pop, 1), (1034, .aload_n 2, 1), (1035, .aload_n 0, 1), (1036, .iload_n 3, 1), (1037, .iconst 1, 1), (1038, .iadd, 1), (1039, .iaload, 1), (1040, .aload_n 0, 1), (1041, .iload_n 3, 1), (1042, .iconst 2, 1), (1043, .iadd, 1), (1044, .iaload, 1), (1045, .aload_n 0, 1)]
theorem bL_990_50 : lL_990_50.all (dOK cL_law) = true := by decide +kernel
theorem dL_law_990 : decode cL_law 990 = .ok (.iadd, 1) := dl_at bL_990_50 0 rfl
theorem dL_law_991 : decode cL_law 991 = .ok (.iaload, 1) := dl_at bL_990_50 1 rfl
theorem dL_law_992 : decode cL_law 992 = .ok (.aload_n 0, 1) := dl_at bL_990_50 2 rfl
theorem dL_law_993 : decode cL_law 993 = .ok (.iload_n 3, 1) := dl_at bL_990_50 3 rfl
theorem dL_law_994 : decode cL_law 994 = .ok (.iconst 3, 1) := dl_at bL_990_50 4 rfl
theorem dL_law_995 : decode cL_law 995 = .ok (.iadd, 1) := dl_at bL_990_50 5 rfl
theorem dL_law_996 : decode cL_law 996 = .ok (.iaload, 1) := dl_at bL_990_50 6 rfl
theorem dL_law_997 : decode cL_law 997 = .ok (.invokevirtual 117, 3) := dl_at bL_990_50 7 rfl
theorem dL_law_1000 : decode cL_law 1000 = .ok (.pop2, 1) := dl_at bL_990_50 8 rfl
theorem dL_law_1001 : decode cL_law 1001 = .ok (.goto 194, 3) := dl_at bL_990_50 9 rfl
theorem dL_law_1004 : decode cL_law 1004 = .ok (.aload_n 1, 1) := dl_at bL_990_50 10 rfl
theorem dL_law_1005 : decode cL_law 1005 = .ok (.aload_n 0, 1) := dl_at bL_990_50 11 rfl
theorem dL_law_1006 : decode cL_law 1006 = .ok (.iload_n 3, 1) := dl_at bL_990_50 12 rfl
theorem dL_law_1007 : decode cL_law 1007 = .ok (.iconst 1, 1) := dl_at bL_990_50 13 rfl
theorem dL_law_1008 : decode cL_law 1008 = .ok (.iadd, 1) := dl_at bL_990_50 14 rfl
theorem dL_law_1009 : decode cL_law 1009 = .ok (.iaload, 1) := dl_at bL_990_50 15 rfl
theorem dL_law_1010 : decode cL_law 1010 = .ok (.aload_n 0, 1) := dl_at bL_990_50 16 rfl
theorem dL_law_1011 : decode cL_law 1011 = .ok (.iload_n 3, 1) := dl_at bL_990_50 17 rfl
theorem dL_law_1012 : decode cL_law 1012 = .ok (.iconst 2, 1) := dl_at bL_990_50 18 rfl
theorem dL_law_1013 : decode cL_law 1013 = .ok (.iadd, 1) := dl_at bL_990_50 19 rfl
theorem dL_law_1014 : decode cL_law 1014 = .ok (.iaload, 1) := dl_at bL_990_50 20 rfl
theorem dL_law_1015 : decode cL_law 1015 = .ok (.aload_n 0, 1) := dl_at bL_990_50 21 rfl
theorem dL_law_1016 : decode cL_law 1016 = .ok (.iload_n 3, 1) := dl_at bL_990_50 22 rfl
theorem dL_law_1017 : decode cL_law 1017 = .ok (.iconst 3, 1) := dl_at bL_990_50 23 rfl
theorem dL_law_1018 : decode cL_law 1018 = .ok (.iadd, 1) := dl_at bL_990_50 24 rfl
theorem dL_law_1019 : decode cL_law 1019 = .ok (.iaload, 1) := dl_at bL_990_50 25 rfl
theorem dL_law_1020 : decode cL_law 1020 = .ok (.aload_n 0, 1) := dl_at bL_990_50 26 rfl
theorem dL_law_1021 : decode cL_law 1021 = .ok (.iload_n 3, 1) := dl_at bL_990_50 27 rfl
theorem dL_law_1022 : decode cL_law 1022 = .ok (.iconst 4, 1) := dl_at bL_990_50 28 rfl
theorem dL_law_1023 : decode cL_law 1023 = .ok (.iadd, 1) := dl_at bL_990_50 29 rfl
theorem dL_law_1024 : decode cL_law 1024 = .ok (.iaload, 1) := dl_at bL_990_50 30 rfl
theorem dL_law_1025 : decode cL_law 1025 = .ok (.aload_n 0, 1) := dl_at bL_990_50 31 rfl
theorem dL_law_1026 : decode cL_law 1026 = .ok (.iload_n 3, 1) := dl_at bL_990_50 32 rfl
theorem dL_law_1027 : decode cL_law 1027 = .ok (.iconst 5, 1) := dl_at bL_990_50 33 rfl
theorem dL_law_1028 : decode cL_law 1028 = .ok (.iadd, 1) := dl_at bL_990_50 34 rfl
theorem dL_law_1029 : decode cL_law 1029 = .ok (.iaload, 1) := dl_at bL_990_50 35 rfl
theorem dL_law_1030 : decode cL_law 1030 = .ok (.invokevirtual 118, 3) := dl_at bL_990_50 36 rfl
theorem dL_law_1033 : decode cL_law 1033 = .ok (.pop, 1) := dl_at bL_990_50 37 rfl
theorem dL_law_1034 : decode cL_law 1034 = .ok (.aload_n 2, 1) := dl_at bL_990_50 38 rfl
theorem dL_law_1035 : decode cL_law 1035 = .ok (.aload_n 0, 1) := dl_at bL_990_50 39 rfl
theorem dL_law_1036 : decode cL_law 1036 = .ok (.iload_n 3, 1) := dl_at bL_990_50 40 rfl
theorem dL_law_1037 : decode cL_law 1037 = .ok (.iconst 1, 1) := dl_at bL_990_50 41 rfl
theorem dL_law_1038 : decode cL_law 1038 = .ok (.iadd, 1) := dl_at bL_990_50 42 rfl
theorem dL_law_1039 : decode cL_law 1039 = .ok (.iaload, 1) := dl_at bL_990_50 43 rfl
theorem dL_law_1040 : decode cL_law 1040 = .ok (.aload_n 0, 1) := dl_at bL_990_50 44 rfl
theorem dL_law_1041 : decode cL_law 1041 = .ok (.iload_n 3, 1) := dl_at bL_990_50 45 rfl
theorem dL_law_1042 : decode cL_law 1042 = .ok (.iconst 2, 1) := dl_at bL_990_50 46 rfl
theorem dL_law_1043 : decode cL_law 1043 = .ok (.iadd, 1) := dl_at bL_990_50 47 rfl
theorem dL_law_1044 : decode cL_law 1044 = .ok (.iaload, 1) := dl_at bL_990_50 48 rfl
theorem dL_law_1045 : decode cL_law 1045 = .ok (.aload_n 0, 1) := dl_at bL_990_50 49 rfl
def lL_1046_50 : List (Nat × Instr × Nat) := [(1046, .iload_n 3, 1), (1047, .iconst 3, 1), (1048, .iadd, 1), (1049, .iaload, 1), (1050, .aload_n 0, 1), (1051, .iload_n 3, 1), (1052, .iconst 4, 1), (1053, .iadd, 1), (1054, .iaload, 1), (1055, .aload_n 0, 1), (1056, .iload_n 3, 1), (1057, .iconst 5, 1), (1058, .iadd, 1), (1059, .iaload, 1), (1060, .invokevirtual 121, 3), (1063, .pop, 1), (1064, .goto 131, 3), (1067, .aload_n 1, 1), (1068, .aload_n 0, 1), (1069, .iload_n 3, 1), (1070, .iconst 1, 1), (1071, .iadd, 1), (1072, .iaload, 1), (1073, .invokevirtual 122, 3), (1076, .pop, 1), (1077, .aload_n 2, 1), (1078, .aload_n 0, 1), (1079, .iload_n 3, 1), (1080, .iconst 1, 1), (1081, .iadd, 1), (1082, .iaload, 1), (1083, .invokevirtual 125, 3), (1086, .pop, 1), (1087, .goto 108, 3), (1090, .aload_n 1, 1), (1091, .aload_n 0, 1), (1092, .iload_n 3, 1), (1093, .iconst 1, 1), (1094, .iadd, 1), (1095, .iaload, 1), (1096, .invokevirtual 126, 3), (1099, .pop, 1), (1100, .aload_n 2, 1), (1101, .aload_n 0, 1), (1102, .iload_n 3, 1), (1103, .iconst 1, 1), (1104, .iadd, 1), (1105, .iaload, 1), (1106, .invokevirtual 129, 3), (1109, .pop, 1)]
theorem bL_1046_50 : lL_1046_50.all (dOK cL_law) = true := by decide +kernel
theorem dL_law_1046 : decode cL_law 1046 = .ok (.iload_n 3, 1) := dl_at bL_1046_50 0 rfl
theorem dL_law_1047 : decode cL_law 1047 = .ok (.iconst 3, 1) := dl_at bL_1046_50 1 rfl
theorem dL_law_1048 : decode cL_law 1048 = .ok (.iadd, 1) := dl_at bL_1046_50 2 rfl
theorem dL_law_1049 : decode cL_law 1049 = .ok (.iaload, 1) := dl_at bL_1046_50 3 rfl
theorem dL_law_1050 : decode cL_law 1050 = .ok (.aload_n 0, 1) := dl_at bL_1046_50 4 rfl
theorem dL_law_1051 : decode cL_law 1051 = .ok (.iload_n 3, 1) := dl_at bL_1046_50 5 rfl
theorem dL_law_1052 : decode cL_law 1052 = .ok (.iconst 4, 1) := dl_at bL_1046_50 6 rfl
theorem dL_law_1053 : decode cL_law 1053 = .ok (.iadd, 1) := dl_at bL_1046_50 7 rfl
theorem dL_law_1054 : decode cL_law 1054 = .ok (.iaload, 1) := dl_at bL_1046_50 8 rfl
theorem dL_law_1055 : decode cL_law 1055 = .ok (.aload_n 0, 1) := dl_at bL_1046_50 9 rfl
theorem dL_law_1056 : decode cL_law 1056 = .ok (.iload_n 3, 1) := dl_at bL_1046_50 10 rfl
theorem dL_law_1057 : decode cL_law 1057 = .ok (.iconst 5, 1) := dl_at bL_1046_50 11 rfl
theorem dL_law_1058 : decode cL_law 1058 = .ok (.iadd, 1) := dl_at bL_1046_50 12 rfl
theorem dL_law_1059 : decode cL_law 1059 = .ok (.iaload, 1) := dl_at bL_1046_50 13 rfl
theorem dL_law_1060 : decode cL_law 1060 = .ok (.invokevirtual 121, 3) := dl_at bL_1046_50 14 rfl
theorem dL_law_1063 : decode cL_law 1063 = .ok (.pop, 1) := dl_at bL_1046_50 15 rfl
theorem dL_law_1064 : decode cL_law 1064 = .ok (.goto 131, 3) := dl_at bL_1046_50 16 rfl
theorem dL_law_1067 : decode cL_law 1067 = .ok (.aload_n 1, 1) := dl_at bL_1046_50 17 rfl
theorem dL_law_1068 : decode cL_law 1068 = .ok (.aload_n 0, 1) := dl_at bL_1046_50 18 rfl
theorem dL_law_1069 : decode cL_law 1069 = .ok (.iload_n 3, 1) := dl_at bL_1046_50 19 rfl
theorem dL_law_1070 : decode cL_law 1070 = .ok (.iconst 1, 1) := dl_at bL_1046_50 20 rfl
theorem dL_law_1071 : decode cL_law 1071 = .ok (.iadd, 1) := dl_at bL_1046_50 21 rfl
theorem dL_law_1072 : decode cL_law 1072 = .ok (.iaload, 1) := dl_at bL_1046_50 22 rfl
theorem dL_law_1073 : decode cL_law 1073 = .ok (.invokevirtual 122, 3) := dl_at bL_1046_50 23 rfl
theorem dL_law_1076 : decode cL_law 1076 = .ok (.pop, 1) := dl_at bL_1046_50 24 rfl
theorem dL_law_1077 : decode cL_law 1077 = .ok (.aload_n 2, 1) := dl_at bL_1046_50 25 rfl
theorem dL_law_1078 : decode cL_law 1078 = .ok (.aload_n 0, 1) := dl_at bL_1046_50 26 rfl
theorem dL_law_1079 : decode cL_law 1079 = .ok (.iload_n 3, 1) := dl_at bL_1046_50 27 rfl
theorem dL_law_1080 : decode cL_law 1080 = .ok (.iconst 1, 1) := dl_at bL_1046_50 28 rfl
theorem dL_law_1081 : decode cL_law 1081 = .ok (.iadd, 1) := dl_at bL_1046_50 29 rfl
theorem dL_law_1082 : decode cL_law 1082 = .ok (.iaload, 1) := dl_at bL_1046_50 30 rfl
theorem dL_law_1083 : decode cL_law 1083 = .ok (.invokevirtual 125, 3) := dl_at bL_1046_50 31 rfl
theorem dL_law_1086 : decode cL_law 1086 = .ok (.pop, 1) := dl_at bL_1046_50 32 rfl
theorem dL_law_1087 : decode cL_law 1087 = .ok (.goto 108, 3) := dl_at bL_1046_50 33 rfl
theorem dL_law_1090 : decode cL_law 1090 = .ok (.aload_n 1, 1) := dl_at bL_1046_50 34 rfl
theorem dL_law_1091 : decode cL_law 1091 = .ok (.aload_n 0, 1) := dl_at bL_1046_50 35 rfl
theorem dL_law_1092 : decode cL_law 1092 = .ok (.iload_n 3, 1) := dl_at bL_1046_50 36 rfl
theorem dL_law_1093 : decode cL_law 1093 = .ok (.iconst 1, 1) := dl_at bL_1046_50 37 rfl
theorem dL_law_1094 : decode cL_law 1094 = .ok (.iadd, 1) := dl_at bL_1046_50 38 rfl
theorem dL_law_1095 : decode cL_law 1095 = .ok (.iaload, 1) := dl_at bL_1046_50 39 rfl
theorem dL_law_1096 : decode cL_law 1096 = .ok (.invokevirtual 126, 3) := dl_at bL_1046_50 40 rfl
theorem dL_law_1099 : decode cL_law 1099 = .ok (.pop, 1) := dl_at bL_1046_50 41 rfl
theorem dL_law_1100 : decode cL_law 1100 = .ok (.aload_n 2, 1) := dl_at bL_1046_50 42 rfl
theorem dL_law_1101 : decode cL_law 1101 = .ok (.aload_n 0, 1) := dl_at bL_1046_50 43 rfl
theorem dL_law_1102 : decode cL_law 1102 = .ok (.iload_n 3, 1) := dl_at bL_1046_50 44 rfl
theorem dL_law_1103 : decode cL_law 1103 = .ok (.iconst 1, 1) := dl_at bL_1046_50 45 rfl
theorem dL_law_1104 : decode cL_law 1104 = .ok (.iadd, 1) := dl_at bL_1046_50 46 rfl
theorem dL_law_1105 : decode cL_law 1105 = .ok (.iaload, 1) := dl_at bL_1046_50 47 rfl
theorem dL_law_1106 : decode cL_law 1106 = .ok (.invokevirtual 129, 3) := dl_at bL_1046_50 48 rfl
theorem dL_law_1109 : decode cL_law 1109 = .ok (.pop, 1) := dl_at bL_1046_50 49 rfl
def lL_1110_50 : List (Nat × Instr × Nat) := [(1110, .goto 85, 3), (1113, .aload_n 1, 1), (1114, .aload_n 0, 1), (1115, .iload_n 3, 1), (1116, .iconst 1, 1), (1117, .iadd, 1), (1118, .iaload, 1), (1119, .aload_n 0, 1), (1120, .iload_n 3, 1), (1121, .iconst 2, 1), (1122, .iadd, 1), (1123, .iaload, 1), (1124, .invokevirtual 130, 3), (1127, .pop, 1), (1128, .aload_n 2, 1), (1129, .aload_n 0, 1), (1130, .iload_n 3, 1), (1131, .iconst 1, 1), (1132, .iadd, 1), (1133, .iaload, 1), (1134, .aload_n 0, 1), (1135, .iload_n 3, 1), (1136, .iconst 2, 1), (1137, .iadd, 1), (1138, .iaload, 1), (1139, .invokevirtual 133, 3), (1142, .pop, 1), (1143, .goto 52, 3), (1146, .aload_n 1, 1), (1147, .invokevirtual 134, 3), (1150, .pop, 1), (1151, .aload_n 2, 1), (1152, .invokevirtual 137, 3), (1155, .pop, 1), (1156, .goto 39, 3), (1159, .aload_n 1, 1), (1160, .invokevirtual 138, 3), (1163, .pop, 1), (1164, .aload_n 2, 1), (1165, .invokevirtual 141, 3), (1168, .pop, 1), (1169, .goto 26, 3), (1172, .aload_n 1, 1), (1173, .aload_n 0, 1), (1174, .iload_n 3, 1), (1175, .iconst 1, 1), (1176, .iadd, 1), (1177, .iaload, 1), (1178, .invokevirtual 142, 3), (1181, .pop, 1)]
theorem bL_1110_50 : lL_1110_50.all (dOK cL_law) = true := by decide +kernel
theorem dL_law_1110 : decode cL_law 1110 = .ok (.goto 85, 3) := dl_at bL_1110_50 0 rfl
theorem dL_law_1113 : decode cL_law 1113 = .ok (.aload_n 1, 1) := dl_at bL_1110_50 1 rfl
theorem dL_law_1114 : decode cL_law 1114 = .ok (.aload_n 0, 1) := dl_at bL_1110_50 2 rfl
theorem dL_law_1115 : decode cL_law 1115 = .ok (.iload_n 3, 1) := dl_at bL_1110_50 3 rfl
theorem dL_law_1116 : decode cL_law 1116 = .ok (.iconst 1, 1) := dl_at bL_1110_50 4 rfl
theorem dL_law_1117 : decode cL_law 1117 = .ok (.iadd, 1) := dl_at bL_1110_50 5 rfl
theorem dL_law_1118 : decode cL_law 1118 = .ok (.iaload, 1) := dl_at bL_1110_50 6 rfl
theorem dL_law_1119 : decode cL_law 1119 = .ok (.aload_n 0, 1) := dl_at bL_1110_50 7 rfl
theorem dL_law_1120 : decode cL_law 1120 = .ok (.iload_n 3, 1) := dl_at bL_1110_50 8 rfl
theorem dL_law_1121 : decode cL_law 1121 = .ok (.iconst 2, 1) := dl_at bL_1110_50 9 rfl
theorem dL_law_1122 : decode cL_law 1122 = .ok (.iadd, 1) := dl_at bL_1110_50 10 rfl
theorem dL_law_1123 : decode cL_law 1123 = .ok (.iaload, 1) := dl_at bL_1110_50 11 rfl
theorem dL_law_1124 : decode cL_law 1124 = .ok (.invokevirtual 130, 3) := dl_at bL_1110_50 12 rfl
theorem dL_law_1127 : decode cL_law 1127 = .ok (.pop, 1) := dl_at bL_1110_50 13 rfl
theorem dL_law_1128 : decode cL_law 1128 = .ok (.aload_n 2, 1) := dl_at bL_1110_50 14 rfl
theorem dL_law_1129 : decode cL_law 1129 = .ok (.aload_n 0, 1) := dl_at bL_1110_50 15 rfl
theorem dL_law_1130 : decode cL_law 1130 = .ok (.iload_n 3, 1) := dl_at bL_1110_50 16 rfl
theorem dL_law_1131 : decode cL_law 1131 = .ok (.iconst 1, 1) := dl_at bL_1110_50 17 rfl
theorem dL_law_1132 : decode cL_law 1132 = .ok (.iadd, 1) := dl_at bL_1110_50 18 rfl
theorem dL_law_1133 : decode cL_law 1133 = .ok (.iaload, 1) := dl_at bL_1110_50 19 rfl
theorem dL_law_1134 : decode cL_law 1134 = .ok (.aload_n 0, 1) := dl_at bL_1110_50 20 rfl
theorem dL_law_1135 : decode cL_law 1135 = .ok (.iload_n 3, 1) := dl_at bL_1110_50 21 rfl
theorem dL_law_1136 : decode cL_law 1136 = .ok (.iconst 2, 1) := dl_at bL_1110_50 22 rfl
theorem dL_law_1137 : decode cL_law 1137 = .ok (.iadd, 1) := dl_at bL_1110_50 23 rfl
theorem dL_law_1138 : decode cL_law 1138 = .ok (.iaload, 1) := dl_at bL_1110_50 24 rfl
theorem dL_law_1139 : decode cL_law 1139 = .ok (.invokevirtual 133, 3) := dl_at bL_1110_50 25 rfl
theorem dL_law_1142 : decode cL_law 1142 = .ok (.pop, 1) := dl_at bL_1110_50 26 rfl
theorem dL_law_1143 : decode cL_law 1143 = .ok (.goto 52, 3) := dl_at bL_1110_50 27 rfl
theorem dL_law_1146 : decode cL_law 1146 = .ok (.aload_n 1, 1) := dl_at bL_1110_50 28 rfl
theorem dL_law_1147 : decode cL_law 1147 = .ok (.invokevirtual 134, 3) := dl_at bL_1110_50 29 rfl
theorem dL_law_1150 : decode cL_law 1150 = .ok (.pop, 1) := dl_at bL_1110_50 30 rfl
theorem dL_law_1151 : decode cL_law 1151 = .ok (.aload_n 2, 1) := dl_at bL_1110_50 31 rfl
theorem dL_law_1152 : decode cL_law 1152 = .ok (.invokevirtual 137, 3) := dl_at bL_1110_50 32 rfl
theorem dL_law_1155 : decode cL_law 1155 = .ok (.pop, 1) := dl_at bL_1110_50 33 rfl
theorem dL_law_1156 : decode cL_law 1156 = .ok (.goto 39, 3) := dl_at bL_1110_50 34 rfl
theorem dL_law_1159 : decode cL_law 1159 = .ok (.aload_n 1, 1) := dl_at bL_1110_50 35 rfl
theorem dL_law_1160 : decode cL_law 1160 = .ok (.invokevirtual 138, 3) := dl_at bL_1110_50 36 rfl
theorem dL_law_1163 : decode cL_law 1163 = .ok (.pop, 1) := dl_at bL_1110_50 37 rfl
theorem dL_law_1164 : decode cL_law 1164 = .ok (.aload_n 2, 1) := dl_at bL_1110_50 38 rfl
theorem dL_law_1165 : decode cL_law 1165 = .ok (.invokevirtual 141, 3) := dl_at bL_1110_50 39 rfl
theorem dL_law_1168 : decode cL_law 1168 = .ok (.pop, 1) := dl_at bL_1110_50 40 rfl
theorem dL_law_1169 : decode cL_law 1169 = .ok (.goto 26, 3) := dl_at bL_1110_50 41 rfl
theorem dL_law_1172 : decode cL_law 1172 = .ok (.aload_n 1, 1) := dl_at bL_1110_50 42 rfl
theorem dL_law_1173 : decode cL_law 1173 = .ok (.aload_n 0, 1) := dl_at bL_1110_50 43 rfl
theorem dL_law_1174 : decode cL_law 1174 = .ok (.iload_n 3, 1) := dl_at bL_1110_50 44 rfl
theorem dL_law_1175 : decode cL_law 1175 = .ok (.iconst 1, 1) := dl_at bL_1110_50 45 rfl
theorem dL_law_1176 : decode cL_law 1176 = .ok (.iadd, 1) := dl_at bL_1110_50 46 rfl
theorem dL_law_1177 : decode cL_law 1177 = .ok (.iaload, 1) := dl_at bL_1110_50 47 rfl
theorem dL_law_1178 : decode cL_law 1178 = .ok (.invokevirtual 142, 3) := dl_at bL_1110_50 48 rfl
theorem dL_law_1181 : decode cL_law 1181 = .ok (.pop, 1) := dl_at bL_1110_50 49 rfl
def lL_1182_13 : List (Nat × Instr × Nat) := [(1182, .aload_n 2, 1), (1183, .aload_n 0, 1), (1184, .iload_n 3, 1), (1185, .iconst 1, 1), (1186, .iadd, 1), (1187, .iaload, 1), (1188, .invokevirtual 145, 3), (1191, .pop, 1), (1192, .goto 3, 3), (1195, .iinc 3 6, 3), (1198, .goto (-1180), 3), (1201, .iconst 1, 1), (1202, .ireturn, 1)]
theorem bL_1182_13 : lL_1182_13.all (dOK cL_law) = true := by decide +kernel
theorem dL_law_1182 : decode cL_law 1182 = .ok (.aload_n 2, 1) := dl_at bL_1182_13 0 rfl
theorem dL_law_1183 : decode cL_law 1183 = .ok (.aload_n 0, 1) := dl_at bL_1182_13 1 rfl
theorem dL_law_1184 : decode cL_law 1184 = .ok (.iload_n 3, 1) := dl_at bL_1182_13 2 rfl
theorem dL_law_1185 : decode cL_law 1185 = .ok (.iconst 1, 1) := dl_at bL_1182_13 3 rfl
theorem dL_law_1186 : decode cL_law 1186 = .ok (.iadd, 1) := dl_at bL_1182_13 4 rfl
theorem dL_law_1187 : decode cL_law 1187 = .ok (.iaload, 1) := dl_at bL_1182_13 5 rfl
theorem dL_law_1188 : decode cL_law 1188 = .ok (.invokevirtual 145, 3) := dl_at bL_1182_13 6 rfl
theorem dL_law_1191 : decode cL_law 1191 = .ok (.pop, 1) := dl_at bL_1182_13 7 rfl
theorem dL_law_1192 : decode cL_law 1192 = .ok (.goto 3, 3) := dl_at bL_1182_13 8 rfl
theorem dL_law_1195 : decode cL_law 1195 = .ok (.iinc 3 6, 3) := dl_at bL_1182_13 9 rfl
theorem dL_law_1198 : decode cL_law 1198 = .ok (.goto (-1180), 3) := dl_at bL_1182_13 10 rfl
theorem dL_law_1201 : decode cL_law 1201 = .ok (.iconst 1, 1) := dl_at bL_1182_13 11 rfl
theorem dL_law_1202 : decode cL_law 1202 = .ok (.ireturn, 1) := dl_at bL_1182_13 12 rfl
abbrev vwCl : List vw_C := [(RX0, TX0, 4), (RX1, TX1, 4), (RX2, TX2, 4), (RX3, TX3, 5), (RX4, TX4, 4), (RX5, TX5, 2), (RX6, TX6, 8), (RX7, TX7, 3), (RX8, TX8, 12), (RX9, TX9, 1), (RX10, TX10, 13), (RX11, TX11, 39)]
