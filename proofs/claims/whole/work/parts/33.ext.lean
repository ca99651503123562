def mi_J3_checkIndex_8e157 : ag_M := (⟨"jdk/internal/util/Preconditions", "checkIndex", "(IILjava/util/function/BiFunction;)I"⟩, prog_33_method_11_code, 3, (some .int), [(0, .iload_n 0, 1), (1, .ifCond .lt 8, 3), (4, .iload_n 0, 1), (5, .iload_n 1, 1), (6, .if_icmp .lt 10, 3), (9, .aload_n 2, 1), (10, .iload_n 0, 1), (11, .iload_n 1, 1), (12, .invokestatic 95, 3), (15, .athrow, 1), (16, .iload_n 0, 1), (17, .ireturn, 1)])
theorem mo_J3_checkIndex_8e157 : aw_ok mi_J3_checkIndex_8e157 := aw_ok_of (by decide +kernel)
def mi_J3_checkFromToIndex_8c36e : ag_M := (⟨"jdk/internal/util/Preconditions", "checkFromToIndex", "(IIILjava/util/function/BiFunction;)I"⟩, prog_33_method_12_code, 4, (some .int), [(0, .iload_n 0, 1), (1, .ifCond .lt 13, 3), (4, .iload_n 0, 1), (5, .iload_n 1, 1), (6, .if_icmp .gt 8, 3), (9, .iload_n 1, 1), (10, .iload_n 2, 1), (11, .if_icmp .le 11, 3), (14, .aload_n 3, 1), (15, .iload_n 0, 1), (16, .iload_n 1, 1), (17, .iload_n 2, 1), (18, .invokestatic 99, 3), (21, .athrow, 1), (22, .iload_n 0, 1), (23, .ireturn, 1)])
theorem mo_J3_checkFromToIndex_8c36e : aw_ok mi_J3_checkFromToIndex_8c36e := aw_ok_of (by decide +kernel)
theorem cw_J0_335 : aw_cV "java/lang/String" 335 mi_J0_coder_7d493 0 := ⟨aw_t2 157 rfl rfl, aw_t2 158 rfl rfl, aw_t2 159 rfl rfl, aw_t1 16 rfl rfl, aw_t2 160 rfl rfl, ⟨by decide, by decide, by decide +kernel⟩⟩
theorem cw_J0_492 : aw_cV "java/lang/String" 492 mi_J0_isLatin1_aae02 0 := ⟨aw_t2 147 rfl rfl, aw_t2 148 rfl rfl, aw_t2 149 rfl rfl, aw_t1 16 rfl rfl, aw_t2 150 rfl rfl, ⟨by decide, by decide, by decide +kernel⟩⟩
theorem cw_J0_495 : aw_cS "java/lang/String" 495 mi_J1_charAt_3b067 2 := ⟨aw_t6 205 rfl rfl, aw_t6 206 rfl rfl, aw_t1 17 rfl rfl, aw_t6 207 rfl rfl, ⟨by decide, by decide, by decide +kernel⟩⟩
theorem cw_J0_633 : aw_cV "java/lang/String" 633 mi_J0_indexOf_7cf53 2 := ⟨aw_t2 143 rfl rfl, aw_t2 144 rfl rfl, aw_t2 145 rfl rfl, aw_t1 16 rfl rfl, aw_t2 146 rfl rfl, ⟨by decide, by decide, by decide +kernel⟩⟩
theorem cw_J0_505 : aw_cV "java/lang/String" 505 mi_J0_length_8abf5 0 := ⟨aw_t2 153 rfl rfl, aw_t2 154 rfl rfl, aw_t2 155 rfl rfl, aw_t1 16 rfl rfl, aw_t2 156 rfl rfl, ⟨by decide, by decide, by decide +kernel⟩⟩
theorem cw_J0_637 : aw_cS "java/lang/String" 637 mi_J1_indexOf_4cfef 4 := ⟨aw_t2 161 rfl rfl, aw_t2 162 rfl rfl, aw_t1 17 rfl rfl, aw_t2 163 rfl rfl, ⟨by decide, by decide, by decide +kernel⟩⟩
theorem kl_J0_38 : Cond.fieldLink "java/lang/String" 38 "java/lang/String" "COMPACT_STRINGS" "Z" ∈ aw_tbl := aw_t2 151 rfl rfl
theorem kl_J0_1053 : Cond.fieldLink "java/lang/String" 1053 "jdk/internal/util/Preconditions" "SIOOBE_FORMATTER" "Ljava/util/function/BiFunction;" ∈ aw_tbl := aw_t2 194 rfl rfl
theorem cw_J0_1059 : aw_cS "java/lang/String" 1059 mi_J3_checkIndex_8e157 3 := ⟨aw_t6 211 rfl rfl, aw_t6 212 rfl rfl, aw_t1 20 rfl rfl, aw_t6 213 rfl rfl, ⟨by decide, by decide, by decide +kernel⟩⟩
theorem cw_J0_1062 : aw_cS "java/lang/String" 1062 mi_J3_checkFromToIndex_8c36e 4 := ⟨aw_t2 196 rfl rfl, aw_t2 197 rfl rfl, aw_t1 20 rfl rfl, aw_t2 198 rfl rfl, ⟨by decide, by decide, by decide +kernel⟩⟩
theorem cw_J1_9 : aw_cS "java/lang/StringLatin1" 9 mi_J0_checkIndex_df160 2 := ⟨aw_t6 208 rfl rfl, aw_t6 209 rfl rfl, aw_t1 16 rfl rfl, aw_t6 210 rfl rfl, ⟨by decide, by decide, by decide +kernel⟩⟩
theorem cw_J1_88 : aw_cS "java/lang/StringLatin1" 88 mi_J1_canEncode_9a6ad 1 := ⟨aw_t2 164 rfl rfl, aw_t2 165 rfl rfl, aw_t1 17 rfl rfl, aw_t2 166 rfl rfl, ⟨by decide, by decide, by decide +kernel⟩⟩
theorem km_J1_92 : Cond.methodLink "java/lang/StringLatin1" 92 ⟨"java/lang/Math", "max", "(II)I"⟩ ∈ aw_tbl := aw_t2 167 rfl rfl
theorem km_J1_38 : Cond.methodLink "java/lang/StringLatin1" 38 ⟨"java/lang/Math", "min", "(II)I"⟩ ∈ aw_tbl := aw_t2 170 rfl rfl
theorem cw_J1_95 : aw_cS "java/lang/StringLatin1" 95 mi_J1_indexOfChar_4cfef 4 := ⟨aw_t2 173 rfl rfl, aw_t2 174 rfl rfl, aw_t1 17 rfl rfl, aw_t2 175 rfl rfl, ⟨by decide, by decide, by decide +kernel⟩⟩
theorem km_J7_316 : Cond.methodLink "java/util/Arrays" 316 ⟨"[I", "clone", "()Ljava/lang/Object;"⟩ ∈ aw_tbl := aw_t3 107 rfl rfl
/-! what was there before: texts and rows of constants -/
def xLen : List Nat := [3, 3, 5, 1, 6, 2, 2, 4, 1, 13, 12]
def xByt : List (List Int32) := [[115, 116, 114], [119, 104, 98], [111, 104, 100, 115, 119], [107], [104, 119, 115, 109, 100, 107], [42, 47], [43, 45], [109, 115, 112, 111], [121], [110, 111, 32, 115, 117, 99, 104, 32, 116, 104, 105, 110, 103], [110, 111, 32, 115, 117, 99, 104, 32, 119, 104, 97, 116]]
def xArr : List (List Int32) := [[0, 3, 38], [3, 5, 1], [20, 10, 2, 0, 15, 3, 2, 1, 3], [0, 3, 8], [1, 7, 5], [99, 40, 9, 4, 40, 9, 9, 9, 9], [0, 2, 2, 1]]
abbrev xb_A (b : Nat) : Nat → Prop := fun q => b ≤ q
def xT (ad : Nat → Nat) (b : Nat) (C n : String) (j N : Nat) (U : State) : Prop := va_Z C n "[I" (.ref (ad (130 + j))) (xb_A b) U U.heap ∧ va_T .int (ad (130 + j)) N (fun i => .int ((xArr.getD j []).getD i 0)) (xb_A b) U U.heap
def aw_X (ad : Nat → Nat) (b : Nat) (U : State) : Prop := vk_S 11 xLen xByt (fun i => ad (100 + i)) (fun i => ad (112 + i)) (xb_A b) U U.heap ∧ va_Z "java/lang/String" "COMPACT_STRINGS" "Z" (.int 1) (xb_A b) U U.heap ∧ va_Zq "jdk/internal/util/Preconditions" "SIOOBE_FORMATTER" "Ljava/util/function/BiFunction;" (xb_A b) U U.heap ∧ (xT ad b "WaxReign$KingdomReader" "FIRST_ROW" 0 3 U ∧ xT ad b "WaxReign$KingdomReader" "ITEMS_OF_KIND" 1 3 U ∧ xT ad b "WaxReign$KingdomReader" "WITHOUT_ITEM" 2 9 U ∧ xT ad b "WaxReign$KingdomReader" "FIRST_ITEM" 3 3 U ∧ xT ad b "WaxReign$KingdomReader" "MOST_OF_KIND" 4 3 U ∧ xT ad b "WaxReign$KingdomReader" "MOST_OF_ITEM" 5 9 U ∧ xT ad b "WaxReign$ReignReader" "DIGITS_OF_KIND" 6 4 U) ∧ (vk_R "WaxReign$KingdomReader" 63 "str" (ad 100) U ∧ vk_R "WaxReign$KingdomReader" 101 "whb" (ad 101) U ∧ vk_R "WaxReign$KingdomReader" 103 "ohdsw" (ad 102) U ∧ vk_R "WaxReign$KingdomReader" 105 "k" (ad 103) U ∧ vk_R "WaxReign$LawReader" 74 "hwsmdk" (ad 104) U ∧ vk_R "WaxReign$LawReader" 66 "*/" (ad 105) U ∧ vk_R "WaxReign$LawReader" 72 "+-" (ad 106) U ∧ vk_R "WaxReign$ReignReader" 45 "mspo" (ad 107) U ∧ vk_R "WaxReign" 161 "no such thing" (ad 109) U ∧ vk_R "WaxReign" 178 "no such what" (ad 110) U ∧ vk_R "WaxReignModel" 26 "y" (ad 108) U ∧ vk_R "WaxReignModel" 32 "hwsmdk" (ad 104) U ∧ vk_R "WaxReignModel" 248 "whb" (ad 101) U ∧ vk_R "WaxReignModel" 254 "ohdsw" (ad 102) U ∧ vk_R "WaxReignModel" 256 "k" (ad 103) U ∧ vk_R "WaxReignModel" 264 "mspo" (ad 107) U)
def aw_hx (g : ag_G) : Prop := ∀ U, g_X g U → aw_X (g_ad g) (g_b g) U
theorem xt_0 {g : ag_G} (h : aw_hx g) : ∀ U, g_X g U → xT (g_ad g) (g_b g) "WaxReign$KingdomReader" "FIRST_ROW" 0 3 U := fun U hU => (h U hU).2.2.2.1.1
theorem xt_1 {g : ag_G} (h : aw_hx g) : ∀ U, g_X g U → xT (g_ad g) (g_b g) "WaxReign$KingdomReader" "ITEMS_OF_KIND" 1 3 U := fun U hU => (h U hU).2.2.2.1.2.1
theorem xt_2 {g : ag_G} (h : aw_hx g) : ∀ U, g_X g U → xT (g_ad g) (g_b g) "WaxReign$KingdomReader" "WITHOUT_ITEM" 2 9 U := fun U hU => (h U hU).2.2.2.1.2.2.1
theorem xt_3 {g : ag_G} (h : aw_hx g) : ∀ U, g_X g U → xT (g_ad g) (g_b g) "WaxReign$KingdomReader" "FIRST_ITEM" 3 3 U := fun U hU => (h U hU).2.2.2.1.2.2.2.1
theorem xt_4 {g : ag_G} (h : aw_hx g) : ∀ U, g_X g U → xT (g_ad g) (g_b g) "WaxReign$KingdomReader" "MOST_OF_KIND" 4 3 U := fun U hU => (h U hU).2.2.2.1.2.2.2.2.1
theorem xt_5 {g : ag_G} (h : aw_hx g) : ∀ U, g_X g U → xT (g_ad g) (g_b g) "WaxReign$KingdomReader" "MOST_OF_ITEM" 5 9 U := fun U hU => (h U hU).2.2.2.1.2.2.2.2.2.1
theorem xt_6 {g : ag_G} (h : aw_hx g) : ∀ U, g_X g U → xT (g_ad g) (g_b g) "WaxReign$ReignReader" "DIGITS_OF_KIND" 6 4 U := fun U hU => (h U hU).2.2.2.1.2.2.2.2.2.2
theorem xr_X4_63 {g : ag_G} (h : aw_hx g) : ∀ U, g_X g U → vk_R "WaxReign$KingdomReader" 63 "str" (g_ad g 100) U := fun U hU => (h U hU).2.2.2.2.1
theorem xr_X4_101 {g : ag_G} (h : aw_hx g) : ∀ U, g_X g U → vk_R "WaxReign$KingdomReader" 101 "whb" (g_ad g 101) U := fun U hU => (h U hU).2.2.2.2.2.1
theorem xr_X4_103 {g : ag_G} (h : aw_hx g) : ∀ U, g_X g U → vk_R "WaxReign$KingdomReader" 103 "ohdsw" (g_ad g 102) U := fun U hU => (h U hU).2.2.2.2.2.2.1
theorem xr_X4_105 {g : ag_G} (h : aw_hx g) : ∀ U, g_X g U → vk_R "WaxReign$KingdomReader" 105 "k" (g_ad g 103) U := fun U hU => (h U hU).2.2.2.2.2.2.2.1
theorem xr_X5_74 {g : ag_G} (h : aw_hx g) : ∀ U, g_X g U → vk_R "WaxReign$LawReader" 74 "hwsmdk" (g_ad g 104) U := fun U hU => (h U hU).2.2.2.2.2.2.2.2.1
theorem xr_X5_66 {g : ag_G} (h : aw_hx g) : ∀ U, g_X g U → vk_R "WaxReign$LawReader" 66 "*/" (g_ad g 105) U := fun U hU => (h U hU).2.2.2.2.2.2.2.2.2.1
theorem xr_X5_72 {g : ag_G} (h : aw_hx g) : ∀ U, g_X g U → vk_R "WaxReign$LawReader" 72 "+-" (g_ad g 106) U := fun U hU => (h U hU).2.2.2.2.2.2.2.2.2.2.1
theorem xr_X9_45 {g : ag_G} (h : aw_hx g) : ∀ U, g_X g U → vk_R "WaxReign$ReignReader" 45 "mspo" (g_ad g 107) U := fun U hU => (h U hU).2.2.2.2.2.2.2.2.2.2.2.1
theorem xr_X11_161 {g : ag_G} (h : aw_hx g) : ∀ U, g_X g U → vk_R "WaxReign" 161 "no such thing" (g_ad g 109) U := fun U hU => (h U hU).2.2.2.2.2.2.2.2.2.2.2.2.1
theorem xr_X11_178 {g : ag_G} (h : aw_hx g) : ∀ U, g_X g U → vk_R "WaxReign" 178 "no such what" (g_ad g 110) U := fun U hU => (h U hU).2.2.2.2.2.2.2.2.2.2.2.2.2.1
theorem xr_X12_26 {g : ag_G} (h : aw_hx g) : ∀ U, g_X g U → vk_R "WaxReignModel" 26 "y" (g_ad g 108) U := fun U hU => (h U hU).2.2.2.2.2.2.2.2.2.2.2.2.2.2.1
theorem xr_X12_32 {g : ag_G} (h : aw_hx g) : ∀ U, g_X g U → vk_R "WaxReignModel" 32 "hwsmdk" (g_ad g 104) U := fun U hU => (h U hU).2.2.2.2.2.2.2.2.2.2.2.2.2.2.2.1
theorem xr_X12_248 {g : ag_G} (h : aw_hx g) : ∀ U, g_X g U → vk_R "WaxReignModel" 248 "whb" (g_ad g 101) U := fun U hU => (h U hU).2.2.2.2.2.2.2.2.2.2.2.2.2.2.2.2.1
theorem xr_X12_254 {g : ag_G} (h : aw_hx g) : ∀ U, g_X g U → vk_R "WaxReignModel" 254 "ohdsw" (g_ad g 102) U := fun U hU => (h U hU).2.2.2.2.2.2.2.2.2.2.2.2.2.2.2.2.2.1
theorem xr_X12_256 {g : ag_G} (h : aw_hx g) : ∀ U, g_X g U → vk_R "WaxReignModel" 256 "k" (g_ad g 103) U := fun U hU => (h U hU).2.2.2.2.2.2.2.2.2.2.2.2.2.2.2.2.2.2.1
theorem xr_X12_264 {g : ag_G} (h : aw_hx g) : ∀ U, g_X g U → vk_R "WaxReignModel" 264 "mspo" (g_ad g 107) U := fun U hU => (h U hU).2.2.2.2.2.2.2.2.2.2.2.2.2.2.2.2.2.2.2
section AwExt
variable {l : Launch} {g : ag_G} {M : ag_M} {R : Room} {Z : ag_Z} {cells slots : Nat} {ws : va_W} {pc : Nat} {L : List (Option Value)} {st : List Value}
theorem aw_ldcS {index a : Nat} {tx : String} (hd : m_at M pc = some (.ldc index, 2)) (hr : ∀ U, g_X g U → vk_R (m_y M).cls index tx a U) (kk : aw_W l g M R Z cells slots ws (pc + 2) L (.ref a :: st)) : aw_W l g M R Z cells slots ws pc L st :=
  fun p e s m args below meth c H locs ls hC hH hL => va_ldcS hC.1 hC.2.1 hC.2.2.2.1 (hr s hC.2.2.2.2.2.2.2.2.1) (hC.2.2.2.2.2.2.2.2.2.2.2.1 _ _ _ hd) (kk p e s m args below meth c H locs ls hC hH hL)
theorem aw_xget {index a : Nat} {o n d : String} {v : Value} (hd : m_at M pc = some (.getfield index, 3)) (hr : ∀ U, g_X g U → va_OF o n d v a (aw_A g) U U.heap) (hl : Cond.fieldLink (m_y M).cls index o n d ∈ aw_tbl) (kk : aw_W l g M R Z cells slots ws (pc + 3) L (v :: st)) : aw_W l g M R Z cells slots ws pc L (.ref a :: st) :=
  fun p e s m args below meth c H locs ls hC hH hL => vk_getf hC.1 hC.2.1 (hr s hC.2.2.2.2.2.2.2.2.1) hH.2.2 hC.2.2.2.1 (hC.2.2.2.2.1 _ hl) (fun _ h => h) (hC.2.2.2.2.2.2.2.2.2.2.2.1 _ _ _ hd) (kk p e s m args below meth c H locs ls hC hH hL)
theorem aw_xgets {index : Nat} {C n d : String} {v : Value} (hd : m_at M pc = some (.getstatic index, 3)) (hr : ∀ U, g_X g U → va_Z C n d v (aw_A g) U U.heap) (hl : Cond.fieldLink (m_y M).cls index C n d ∈ aw_tbl) (kk : aw_W l g M R Z cells slots ws (pc + 3) L (v :: st)) : aw_W l g M R Z cells slots ws pc L st :=
  fun p e s m args below meth c H locs ls hC hH hL => va_gets hC.1 hC.2.1 (hr s hC.2.2.2.2.2.2.2.2.1) hH.2.2 hC.2.2.2.1 (hC.2.2.2.2.1 _ hl) (fun _ h => h) (hC.2.2.2.2.2.2.2.2.2.2.2.1 _ _ _ hd) (kk p e s m args below meth c H locs ls hC hH hL)
theorem aw_xti {t N j : Nat} {f : Nat → Value} {i : Int32} {v : Value} (hd : m_at M pc = some (.iaload, 1)) (hr : ∀ U, g_X g U → va_T .int t N f (aw_A g) U U.heap) (hi : i = nI j) (hj : j < N) (hN : N < 2 ^ 31) (hv : f j = v) (kk : aw_W l g M R Z cells slots ws (pc + 1) L (v :: st)) : aw_W l g M R Z cells slots ws pc L (.int i :: .ref t :: st) := by
  subst hi
  exact fun p e s m args below meth c H locs ls hC hH hL => va_ti hC.1 hC.2.1 (hr s hC.2.2.2.2.2.2.2.2.1) hH.2.2 (vp_in_nI hj hN) (by rw [nI_clamp (Nat.lt_trans hj hN)]; exact hv) (hC.2.2.2.2.2.2.2.2.2.2.2.1 _ _ _ hd) (kk p e s m args below meth c H locs ls hC hH hL)
theorem aw_xtb {t N j : Nat} {f : Nat → Value} {i : Int32} {v : Value} (hd : m_at M pc = some (.baload, 1)) (hr : ∀ U, g_X g U → va_T .byte t N f (aw_A g) U U.heap) (hi : i = nI j) (hj : j < N) (hN : N < 2 ^ 31) (hv : f j = v) (kk : aw_W l g M R Z cells slots ws (pc + 1) L (v :: st)) : aw_W l g M R Z cells slots ws pc L (.int i :: .ref t :: st) := by
  subst hi
  exact fun p e s m args below meth c H locs ls hC hH hL => va_tb hC.1 hC.2.1 (hr s hC.2.2.2.2.2.2.2.2.1) hH.2.2 (vp_in_nI hj hN) (by rw [nI_clamp (Nat.lt_trans hj hN)]; exact hv) (hC.2.2.2.2.2.2.2.2.2.2.2.1 _ _ _ hd) (kk p e s m args below meth c H locs ls hC hH hL)
theorem aw_xlen {t N : Nat} {f : Nat → Value} {ty : FieldType} {v : Int32} (hd : m_at M pc = some (.arraylength, 1)) (hr : ∀ U, g_X g U → va_T ty t N f (aw_A g) U U.heap) (hv : Int32.ofNat N = v) (kk : aw_W l g M R Z cells slots ws (pc + 1) L (.int v :: st)) : aw_W l g M R Z cells slots ws pc L (.ref t :: st) :=
  fun p e s m args below meth c H locs ls hC hH hL => va_tlen hC.1 hC.2.1 (hr s hC.2.2.2.2.2.2.2.2.1) hH.2.2 hv (hC.2.2.2.2.2.2.2.2.2.2.2.1 _ _ _ hd) (kk p e s m args below meth c H locs ls hC hH hL)
/-- a call on an object that was there before -/
theorem aw_callX {N : ag_M} {index n mc ms k b : Nat} {As rest st0 : List Value} {Q' : Option Value → va_W → Prop}
    (hd : m_at M pc = some (.invokevirtual index, 3)) (hw : aw_cV (m_y M).cls index N k) (hr : ∀ U H locs, g_X g U → va_S (aw_A g) U.heap H locs → ∃ cell : Cell, H[b]? = some cell ∧ cell.vm.isStatics = false ∧ U.vm.findClass (m_y N).cls = some cell.cls)
    (hM : aw_M l g N n mc ms (.ref b :: As) ws Q') (hk : As.length = k) (hst : st0 = As.reverse ++ .ref b :: rest) (hrest : (rest.map fun v => v.category).sum ≤ 8) (hf : n + 1 ≤ R.frames) (hlo : 8 + (m_n N + 11) + 100 * n ≤ R.locals) (h1 : cells + mc ≤ R.cells) (h2 : slots + ms ≤ R.slots)
    (kk : ∀ (r : Option Value) (ws' : va_W), Q' r ws' → aw_W l g M R Z (cells + mc) (slots + ms) ws' (pc + 3) L (r.toList ++ rest)) : aw_W l g M R Z cells slots ws pc L st0 := by
  intro p e s m args below meth c H locs ls hC hH hL
  obtain ⟨w1, w2, w3, w4, w5, w6⟩ := hw
  subst hst
  refine aw_goes hC hH hL (va_runV (nL := m_n M) (cc := m_c M) (As := As) (b := b) ⟨hC.1, hC.2.1, hC.2.2.1, hC.2.2.2.1, hC.2.2.2.2.1⟩ hM (cwV (C := (m_y N).cls) (bytes := m_c N) (maxL := m_n N) (ret := m_r N) k hC.2.2.2.2.1 ?_ rfl rfl rfl ⟨rfl, w6⟩ ⟨hf, hlo⟩) ⟨aw_blind, hr s H locs hC.2.2.2.2.2.2.2.2.1 hH.2.2, fun U hU hW => aw_pre hC hH hU hW⟩ rfl hk hL.1 rfl (lv_room hrest) (hC.2.2.2.2.2.2.2.2.2.2.2.1 _ _ _ hd) ⟨h1, h2⟩) kk
  intro w hw
  rcases List.mem_append.mp hw with hw | hw
  · simp only [List.mem_cons, List.not_mem_nil, or_false] at hw
    rcases hw with rfl | rfl | rfl | rfl
    · exact aw_goodIn _ w1
    · exact aw_goodIn _ w2
    · exact aw_goodIn _ w3
    · exact aw_goodIn _ w4
  · exact aw_wsGood w5 w hw
theorem aw_iX {N : ag_M} {index n k b : Nat} {As rest st0 : List Value} {v : Value} {ws2 : va_W}
    (hd : m_at M pc = some (.invokevirtual index, 3)) (hw : aw_cV (m_y M).cls index N k) (hr : ∀ U H locs, g_X g U → va_S (aw_A g) U.heap H locs → ∃ cell : Cell, H[b]? = some cell ∧ cell.vm.isStatics = false ∧ U.vm.findClass (m_y N).cls = some cell.cls)
    (hM : aw_F l g N n (.ref b :: As) ws v ws2) (hk : As.length = k) (hst : st0 = As.reverse ++ .ref b :: rest) (hrest : (rest.map fun v => v.category).sum ≤ 8) (hf : n + 1 ≤ R.frames) (hlo : 8 + (m_n N + 11) + 100 * n ≤ R.locals) (h1 : cells ≤ R.cells) (h2 : slots ≤ R.slots)
    (kk : aw_W l g M R Z cells slots ws2 (pc + 3) L (v :: rest)) : aw_W l g M R Z cells slots ws pc L st0 :=
  aw_callX hd hw hr hM hk hst hrest hf hlo h1 h2 (by rintro r w ⟨rfl, rfl⟩; exact kk)
end AwExt
theorem xs_recv {g : ag_G} (h : aw_hx g) {i : Nat} (hi : i < 11) : ∀ U H locs, g_X g U → va_S (aw_A g) U.heap H locs → ∃ cell : Cell, H[g_ad g (100 + i)]? = some cell ∧ cell.vm.isStatics = false ∧ U.vm.findClass "java/lang/String" = some cell.cls := fun U H locs hU hS => vk_recv (adK := fun i => g_ad g (100 + i)) (h U hU).1 hi hS
theorem xs_coder {g : ag_G} (h : aw_hx g) {i : Nat} (hi : i < 11) : ∀ U, g_X g U → va_OF "java/lang/String" "coder" "B" (.int 0) (g_ad g (100 + i)) (aw_A g) U U.heap := fun U hU => ((h U hU).1.1 i hi).2.1
theorem xs_value {g : ag_G} (h : aw_hx g) {i : Nat} (hi : i < 11) : ∀ U, g_X g U → va_OF "java/lang/String" "value" "[B" (.ref (g_ad g (112 + i))) (g_ad g (100 + i)) (aw_A g) U U.heap := fun U hU => ((h U hU).1.1 i hi).2.2.1
theorem xs_bytes {g : ag_G} (h : aw_hx g) {i : Nat} (hi : i < 11) : ∀ U, g_X g U → va_T .byte (g_ad g (112 + i)) (xLen.getD i 0) (fun j => .int ((xByt.getD i []).getD j 0)) (aw_A g) U U.heap := fun U hU => ((h U hU).1.1 i hi).2.2.2

