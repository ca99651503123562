/-! the start of the law: what holds there, and goes on holding -/
theorem lw_u1 {w : Cond} (i : Nat) (h : tables_1_1[i]? = some w) : w ∈ lw_tbl := List.mem_append_right _ (List.mem_append_left _ (List.mem_of_getElem? h))
theorem lw_u2 {w : Cond} (i : Nat) (h : tables_1_2[i]? = some w) : w ∈ lw_tbl := List.mem_append_right _ (List.mem_append_right _ (List.mem_append_left _ (List.mem_of_getElem? h)))
theorem lw_u3 {w : Cond} (i : Nat) (h : tables_1_3[i]? = some w) : w ∈ lw_tbl := List.mem_append_right _ (List.mem_append_right _ (List.mem_append_right _ (List.mem_append_left _ (List.mem_of_getElem? h))))
theorem lw_u4 {w : Cond} (i : Nat) (h : tables_1_4[i]? = some w) : w ∈ lw_tbl := List.mem_append_right _ (List.mem_append_right _ (List.mem_append_right _ (List.mem_append_right _ (List.mem_append_left _ (List.mem_of_getElem? h)))))
theorem lw_u5 {w : Cond} (i : Nat) (h : tables_1_5[i]? = some w) : w ∈ lw_tbl := List.mem_append_right _ (List.mem_append_right _ (List.mem_append_right _ (List.mem_append_right _ (List.mem_append_right _ (List.mem_append_left _ (List.mem_of_getElem? h))))))
theorem lw_u6 {w : Cond} (i : Nat) (h : tables_1_6[i]? = some w) : w ∈ lw_tbl := List.mem_append_right _ (List.mem_append_right _ (List.mem_append_right _ (List.mem_append_right _ (List.mem_append_right _ (List.mem_append_right _ (List.mem_append_left _ (List.mem_of_getElem? h)))))))
theorem lw_u7 {w : Cond} (i : Nat) (h : tables_1_7[i]? = some w) : w ∈ lw_tbl := List.mem_append_right _ (List.mem_append_right _ (List.mem_append_right _ (List.mem_append_right _ (List.mem_append_right _ (List.mem_append_right _ (List.mem_append_right _ (List.mem_append_left _ (List.mem_of_getElem? h))))))))
theorem lw_u8 {w : Cond} (i : Nat) (h : tables_1_8[i]? = some w) : w ∈ lw_tbl := List.mem_append_right _ (List.mem_append_right _ (List.mem_append_right _ (List.mem_append_right _ (List.mem_append_right _ (List.mem_append_right _ (List.mem_append_right _ (List.mem_append_right _ (List.mem_of_getElem? h))))))))
def st_X (ad : Nat → Nat) (b0 b L : Nat) (xs : Nat → Int32) (U : State) : Prop := aw_X ad b0 U ∧ vx_Zq Bundle.tN "UNASSIGNED_STACK" Bundle.steD (xb_A b0) U U.heap ∧ vx_Zq Bundle.tN "SUPPRESSED_SENTINEL" Bundle.listD (xb_A b0) U U.heap ∧ (va_Nw (.castable "[I" "java/lang/Cloneable") U ∧ va_Nw (.castable nsE nsE) U ∧ va_Nw (.declares ⟨"java/lang/RuntimeException", "<init>", "(Ljava/lang/String;)V"⟩) U ∧ va_Nw (.declares ⟨"java/lang/Exception", "<init>", "(Ljava/lang/String;)V"⟩) U ∧ va_Nw (.declares ⟨"java/lang/Throwable", "<init>", "(Ljava/lang/String;)V"⟩) U) ∧ (va_Nw (.methodLinkNest "WaxReign" 9 ⟨"WaxReign$Tape", "<init>", "()V"⟩ "WaxReign") U ∧ va_Nw (.methodLinkNest "WaxReign" 41 ⟨"WaxReign$Laws", "<init>", "()V"⟩ "WaxReign") U ∧ va_Nw (.methodLinkNest "WaxReign" 63 ⟨"WaxReign$Chronicle", "<init>", "()V"⟩ "WaxReign") U ∧ va_Nw (.methodLinkNest "WaxReign" 93 ⟨"WaxReign$Draws", "<init>", "()V"⟩ "WaxReign") U) ∧ aw_AO U ∧ va_X b L xs U U.heap
theorem xT_mv {ad : Nat → Nat} {b0 : Nat} {C n : String} {j N : Nat} {s U : State} (hA : s.vm.Alike U.vm) (hk : ∀ q : Nat, q < s.heap.size → ¬ xb_A b0 q → U.heap[q]? = s.heap[q]?) (h : xT ad b0 C n j N s) : xT ad b0 C n j N U := ⟨va_Z.moved hA (h.1.kept hk), va_T.moved hA (h.2.kept hk)⟩
theorem st_mv {ad : Nat → Nat} {b0 b L : Nat} {xs : Nat → Int32} (hb : b < b0) {s U : State} (h : st_X ad b0 b L xs s) (hv : s.WarmedH U.vm ∨ U.vm = s.vm) (hk : ∀ q : Nat, q < s.heap.size → ¬ xb_A b0 q → U.heap[q]? = s.heap[q]?) : st_X ad b0 b L xs U := by
  have hW : s.WarmedH U.vm := hv.elim id (fun e => by rw [e]; exact State.WarmedH.refl s)
  have hA := hW.alike
  obtain ⟨⟨h1, h2, h3, ⟨t1, t2, t3, t4, t5, t6, t7⟩, r1, r2, r3, r4, r5, r6, r7, r8, r9, r10, r11, r12, r13, r14, r15, r16⟩, h4, h5, ⟨c1, c2, c3, c4, c5⟩, ⟨n1, n2, n3, n4⟩, h6, h7⟩ := h
  refine ⟨⟨vk_S.moved hA (h1.kept hk), va_Z.moved hA (h2.kept hk), va_Zq.moved hA (h3.kept hk), ⟨xT_mv hA hk t1, xT_mv hA hk t2, xT_mv hA hk t3, xT_mv hA hk t4, xT_mv hA hk t5, xT_mv hA hk t6, xT_mv hA hk t7⟩, r1.warm hW, r2.warm hW, r3.warm hW, r4.warm hW, r5.warm hW, r6.warm hW, r7.warm hW, r8.warm hW, r9.warm hW, r10.warm hW, r11.warm hW, r12.warm hW, r13.warm hW, r14.warm hW, r15.warm hW, r16.warm hW⟩, vx_Zq.moved hA (h4.kept hk), vx_Zq.moved hA (h5.kept hk), ⟨va_Nw.warmC hW c1, va_Nw.warmC hW c2, va_Nw.warmD hW c3, va_Nw.warmD hW c4, va_Nw.warmD hW c5⟩, ⟨va_Nw.warmM hW n1, va_Nw.warmM hW n2, va_Nw.warmM hW n3, va_Nw.warmM hW n4⟩, over_moved hA h6, va_X.moved hA (h7.kept (hk b ?_ (fun z => absurd hb (Nat.not_lt.mpr z))))⟩
  obtain ⟨scr, h8, -⟩ := h7
  exact (Array.getElem?_eq_some_iff.mp h8).1
theorem st_arr {s : State} {args : Array Value} {ty : FieldType} (h : (Cond.arrayClass ty).before args s = true) : ∃ cA, ArrOfT s cA ty ∧ s.vm.findClass ("[" ++ ty.toString) = some cA := by
  obtain ⟨c, k, comp, h1, h2, h3⟩ := Cond.arrayClass_spec h
  exact ⟨c, fun n z => ⟨fun k h => (by cases h), k, h2, comp, h3⟩, h1⟩
theorem st_arq {s : State} {args : Array Value} (h : (Cond.arrayOver (.array .int)).before args s = true) : ∃ cA, ArrOfT s cA (.array .int) ∧ s.vm.findClass ("[" ++ (FieldType.array .int).toString) = some cA := by
  obtain ⟨comp, cA, kA, -, -, f2, f3, f1⟩ := arrayOverA_spec h
  exact ⟨cA, fun n z => ⟨fun k h => (by cases h), kA, f2, comp, f3⟩, f1⟩
theorem st_K {s : State} {args : Array Value} (hts : ∀ w ∈ lw_tbl, w.before args s = true) : ∃ (D : va_G) (ca : Nat → ClassId), va_K D aw_cl [(ca 0, .int), (ca 1, .long), (ca 2, .byte), (ca 3, .boolean), (ca 4, .array .int)] s := by
  have ht : ∀ w ∈ aw_tbl, w.before args s = true := fun w hw => hts w (aw_sub hw)
  obtain ⟨c0, i0, k0⟩ := u_known (C := kR0) (T := kT0) (N := 8) (n := 8) ht kI0 (hts _ (lw_u1 184 rfl))
  obtain ⟨c1, i1, k1⟩ := u_known (C := kR1) (T := kT1) (N := 1) (n := 1) ht kI1 (hts _ (lw_u2 36 rfl))
  obtain ⟨c2, i2, k2⟩ := u_known (C := kR2) (T := kT2) (N := 1) (n := 1) ht kI2 (hts _ (lw_u2 26 rfl))
  obtain ⟨c3, i3, k3⟩ := u_known (C := kR3) (T := kT3) (N := 5) (n := 5) ht kI3 (hts _ (lw_u1 217 rfl))
  obtain ⟨c4, i4, k4⟩ := u_known (C := kR4) (T := kT4) (N := 3) (n := 3) ht kI4 (hts _ (lw_u1 58 rfl))
  obtain ⟨c5, i5, k5⟩ := u_known (C := kR5) (T := kT5) (N := 3) (n := 3) ht kI5 (hts _ (lw_u1 74 rfl))
  obtain ⟨c6, i6, k6⟩ := u_known (C := kR6) (T := kT6) (N := 5) (n := 5) ht kI6 (hts _ (lw_u1 106 rfl))
  obtain ⟨c7, i7, k7⟩ := u_known (C := kR7) (T := kT7) (N := 6) (n := 6) ht kI7 (hts _ (lw_u1 239 rfl))
  obtain ⟨c8, i8, k8⟩ := u_known (C := kR8) (T := kT8) (N := 9) (n := 9) ht kI8 (hts _ (lw_u1 134 rfl))
  obtain ⟨c9, i9, k9⟩ := u_known (C := kR9) (T := kT9) (N := 3) (n := 3) ht kI9 (hts _ (lw_u1 90 rfl))
  obtain ⟨c10, i10, k10⟩ := u_known (C := kR10) (T := kT10) (N := 3) (n := 3) ht kI10 (hts _ (lw_u1 36 rfl))
  obtain ⟨c11, i11, k11⟩ := u_known (C := kR11) (T := kT11) (N := 14) (n := 14) ht kI11 (hts _ (lw_u1 28 rfl))
  obtain ⟨c12, i12, k12⟩ := u_known (C := kR12) (T := kT12) (N := 50) (n := 50) ht kI12 (hts _ (lw_u5 223 rfl))
  obtain ⟨a0, p0, q0⟩ := st_arr (ty := .int) (hts _ (lw_u1 56 rfl))
  obtain ⟨a1, p1, q1⟩ := st_arr (ty := .long) (hts _ (lw_u6 141 rfl))
  obtain ⟨a2, p2, q2⟩ := st_arr (ty := .byte) (hts _ (lw_u3 73 rfl))
  obtain ⟨a3, p3, q3⟩ := st_arr (ty := .boolean) (hts _ (lw_u2 24 rfl))
  obtain ⟨a4, p4, q4⟩ := st_arq (hts _ (lw_u1 112 rfl))
  refine ⟨(fun k => [c0, c1, c2, c3, c4, c5, c6, c7, c8, c9, c10, c11, c12].getD k c0, fun k => [i0, i1, i2, i3, i4, i5, i6, i7, i8, i9, i10, i11, i12].getD k i0), fun k => [a0, a1, a2, a3, a4].getD k a0, ?_, ?_⟩
  · intro k q hq
    match k, hq with
    | 0, hq => cases hq; exact k0
    | 1, hq => cases hq; exact k1
    | 2, hq => cases hq; exact k2
    | 3, hq => cases hq; exact k3
    | 4, hq => cases hq; exact k4
    | 5, hq => cases hq; exact k5
    | 6, hq => cases hq; exact k6
    | 7, hq => cases hq; exact k7
    | 8, hq => cases hq; exact k8
    | 9, hq => cases hq; exact k9
    | 10, hq => cases hq; exact k10
    | 11, hq => cases hq; exact k11
    | 12, hq => cases hq; exact k12
    | k + 13, hq => simp [aw_cl] at hq
  · intro k q hq
    match k, hq with
    | 0, hq => cases hq; exact ⟨p0, q0⟩
    | 1, hq => cases hq; exact ⟨p1, q1⟩
    | 2, hq => cases hq; exact ⟨p2, q2⟩
    | 3, hq => cases hq; exact ⟨p3, q3⟩
    | 4, hq => cases hq; exact ⟨p4, q4⟩
    | k + 5, hq => simp at hq
def st_tm (i : Nat) : Term := [Term.string "WaxReign$KingdomReader" 63, Term.string "WaxReign$KingdomReader" 101, Term.string "WaxReign$KingdomReader" 103, Term.string "WaxReign$KingdomReader" 105, Term.string "WaxReign$LawReader" 74, Term.string "WaxReign$LawReader" 66, Term.string "WaxReign$LawReader" 72, Term.string "WaxReign$ReignReader" 45, Term.string "WaxReignModel" 26, Term.string "WaxReign" 161, Term.string "WaxReign" 178].getD i (.int 0)
abbrev st_F : List Cond := flatC (Jvm.Cond.and given_1 narrow_1)
theorem st_f1 : ∀ i, i < 11 → Cond.exactly (st_tm i) "java/lang/String" ∈ st_F := by decide +kernel
theorem st_f2 : ∀ i, i < 11 → Cond.eq (.field (st_tm i) "java/lang/String" "coder" "B") (.int 0) ∈ st_F := by decide +kernel
theorem st_f3 : ∀ i, i < 11 → Cond.arrayOf (.field (st_tm i) "java/lang/String" "value" "[B") .byte ∈ st_F := by decide +kernel
theorem st_f4 : ∀ i, i < 11 → Cond.eq (.length (.field (st_tm i) "java/lang/String" "value" "[B")) (.int (Int32.ofNat (xLen.getD i 0))) ∈ st_F := by decide +kernel
theorem st_f5 : ∀ i, i < 11 → ∀ j, j < xLen.getD i 0 → Cond.eq (.elem (.field (st_tm i) "java/lang/String" "value" "[B") (.int (Int32.ofNat j))) (.int ((xByt.getD i []).getD j 0)) ∈ st_F := by decide +kernel
def st_af (i : Nat) : List Nat := [[1, 2, 3, 4, 5, 6, 7, 8, 9, 10], [2, 3, 4, 5, 6, 7, 8, 9, 10], [3, 4, 5, 6, 7, 8, 9, 10], [4, 5, 6, 7, 8, 9, 10], [5, 6, 7, 8, 9, 10], [6, 7, 8, 9, 10], [7, 8, 9, 10], [8, 9, 10], [], [8, 10], [8]].getD i []
theorem st_g0 : ∀ j ∈ [1, 2, 3, 4, 5, 6, 7, 8, 9, 10], Cond.not (Cond.eq (st_tm 0) (st_tm j)) ∈ st_F := by decide +kernel
theorem st_g1 : ∀ j ∈ [2, 3, 4, 5, 6, 7, 8, 9, 10], Cond.not (Cond.eq (st_tm 1) (st_tm j)) ∈ st_F := by decide +kernel
theorem st_g2 : ∀ j ∈ [3, 4, 5, 6, 7, 8, 9, 10], Cond.not (Cond.eq (st_tm 2) (st_tm j)) ∈ st_F := by decide +kernel
theorem st_g3 : ∀ j ∈ [4, 5, 6, 7, 8, 9, 10], Cond.not (Cond.eq (st_tm 3) (st_tm j)) ∈ st_F := by decide +kernel
theorem st_g4 : ∀ j ∈ [5, 6, 7, 8, 9, 10], Cond.not (Cond.eq (st_tm 4) (st_tm j)) ∈ st_F := by decide +kernel
theorem st_g5 : ∀ j ∈ [6, 7, 8, 9, 10], Cond.not (Cond.eq (st_tm 5) (st_tm j)) ∈ st_F := by decide +kernel
theorem st_g6 : ∀ j ∈ [7, 8, 9, 10], Cond.not (Cond.eq (st_tm 6) (st_tm j)) ∈ st_F := by decide +kernel
theorem st_g7 : ∀ j ∈ [8, 9, 10], Cond.not (Cond.eq (st_tm 7) (st_tm j)) ∈ st_F := by decide +kernel
theorem st_g9 : ∀ j ∈ [8, 10], Cond.not (Cond.eq (st_tm 9) (st_tm j)) ∈ st_F := by decide +kernel
theorem st_g10 : ∀ j ∈ [8], Cond.not (Cond.eq (st_tm 10) (st_tm j)) ∈ st_F := by decide +kernel
theorem st_f7 : ∀ i, i < 11 → ∀ j, j < 11 → i ≠ j → (j ∈ st_af i ∨ i ∈ st_af j) := by decide
theorem st_f8 {i j : Nat} (hi : i < 11) (hj : j ∈ st_af i) : Cond.not (Cond.eq (st_tm i) (st_tm j)) ∈ st_F := by
  match i, hi, hj with
  | 0, _, hj => exact st_g0 j hj
  | 1, _, hj => exact st_g1 j hj
  | 2, _, hj => exact st_g2 j hj
  | 3, _, hj => exact st_g3 j hj
  | 4, _, hj => exact st_g4 j hj
  | 5, _, hj => exact st_g5 j hj
  | 6, _, hj => exact st_g6 j hj
  | 7, _, hj => exact st_g7 j hj
  | 8, _, hj => exact nomatch hj
  | 9, _, hj => exact st_g9 j hj
  | 10, _, hj => exact st_g10 j hj
theorem st_f6 (i : Nat) (hi : i < 11) (j : Nat) (hj : j < 11) (h : i ≠ j) : (Cond.not (Cond.eq (st_tm i) (st_tm j)) ∈ st_F ∨ Cond.not (Cond.eq (st_tm j) (st_tm i)) ∈ st_F) := (st_f7 i hi j hj h).imp (st_f8 hi) (st_f8 hj)
theorem st_r0 : Cond.arrayOf (.static "WaxReign$KingdomReader" "FIRST_ROW" "[I") .int ∈ st_F ∧ Cond.eq (.length (.static "WaxReign$KingdomReader" "FIRST_ROW" "[I")) (.int (Int32.ofNat 3)) ∈ st_F ∧ ∀ i, i < 3 → Cond.eq (.elem (.static "WaxReign$KingdomReader" "FIRST_ROW" "[I") (.int (Int32.ofNat i))) (.int ((xArr.getD 0 []).getD i 0)) ∈ st_F := by decide +kernel
theorem st_r1 : Cond.arrayOf (.static "WaxReign$KingdomReader" "ITEMS_OF_KIND" "[I") .int ∈ st_F ∧ Cond.eq (.length (.static "WaxReign$KingdomReader" "ITEMS_OF_KIND" "[I")) (.int (Int32.ofNat 3)) ∈ st_F ∧ ∀ i, i < 3 → Cond.eq (.elem (.static "WaxReign$KingdomReader" "ITEMS_OF_KIND" "[I") (.int (Int32.ofNat i))) (.int ((xArr.getD 1 []).getD i 0)) ∈ st_F := by decide +kernel
theorem st_r2 : Cond.arrayOf (.static "WaxReign$KingdomReader" "WITHOUT_ITEM" "[I") .int ∈ st_F ∧ Cond.eq (.length (.static "WaxReign$KingdomReader" "WITHOUT_ITEM" "[I")) (.int (Int32.ofNat 9)) ∈ st_F ∧ ∀ i, i < 9 → Cond.eq (.elem (.static "WaxReign$KingdomReader" "WITHOUT_ITEM" "[I") (.int (Int32.ofNat i))) (.int ((xArr.getD 2 []).getD i 0)) ∈ st_F := by decide +kernel
theorem st_r3 : Cond.arrayOf (.static "WaxReign$KingdomReader" "FIRST_ITEM" "[I") .int ∈ st_F ∧ Cond.eq (.length (.static "WaxReign$KingdomReader" "FIRST_ITEM" "[I")) (.int (Int32.ofNat 3)) ∈ st_F ∧ ∀ i, i < 3 → Cond.eq (.elem (.static "WaxReign$KingdomReader" "FIRST_ITEM" "[I") (.int (Int32.ofNat i))) (.int ((xArr.getD 3 []).getD i 0)) ∈ st_F := by decide +kernel
theorem st_r4 : Cond.arrayOf (.static "WaxReign$KingdomReader" "MOST_OF_KIND" "[I") .int ∈ st_F ∧ Cond.eq (.length (.static "WaxReign$KingdomReader" "MOST_OF_KIND" "[I")) (.int (Int32.ofNat 3)) ∈ st_F ∧ ∀ i, i < 3 → Cond.eq (.elem (.static "WaxReign$KingdomReader" "MOST_OF_KIND" "[I") (.int (Int32.ofNat i))) (.int ((xArr.getD 4 []).getD i 0)) ∈ st_F := by decide +kernel
theorem st_r5 : Cond.arrayOf (.static "WaxReign$KingdomReader" "MOST_OF_ITEM" "[I") .int ∈ st_F ∧ Cond.eq (.length (.static "WaxReign$KingdomReader" "MOST_OF_ITEM" "[I")) (.int (Int32.ofNat 9)) ∈ st_F ∧ ∀ i, i < 9 → Cond.eq (.elem (.static "WaxReign$KingdomReader" "MOST_OF_ITEM" "[I") (.int (Int32.ofNat i))) (.int ((xArr.getD 5 []).getD i 0)) ∈ st_F := by decide +kernel
theorem st_r6 : Cond.arrayOf (.static "WaxReign$ReignReader" "DIGITS_OF_KIND" "[I") .int ∈ st_F ∧ Cond.eq (.length (.static "WaxReign$ReignReader" "DIGITS_OF_KIND" "[I")) (.int (Int32.ofNat 4)) ∈ st_F ∧ ∀ i, i < 4 → Cond.eq (.elem (.static "WaxReign$ReignReader" "DIGITS_OF_KIND" "[I") (.int (Int32.ofNat i))) (.int ((xArr.getD 6 []).getD i 0)) ∈ st_F := by decide +kernel
theorem st_xT {args : Array Value} {s : State} {C n : String} {N : Nat} {f : List Int32} (hN : N < 2 ^ 31) (hs : ∀ c ∈ st_F, c.before args s = true) (hr : Cond.arrayOf (.static C n "[I") .int ∈ st_F ∧ Cond.eq (.length (.static C n "[I")) (.int (Int32.ofNat N)) ∈ st_F ∧ ∀ i, i < N → Cond.eq (.elem (.static C n "[I") (.int (Int32.ofNat i))) (.int (f.getD i 0)) ∈ st_F) (hl : (Cond.laysStatic C n "[I").before args s = true) (hi : (Cond.initialized C).before args s = true) : ∃ t, va_Z C n "[I" (.ref t) (xb_A s.heap.size) s s.heap ∧ va_T .int t N (fun i => .int (f.getD i 0)) (xb_A s.heap.size) s s.heap := by
  have hA : ∀ a : Nat, a < s.heap.size → ¬ xb_A s.heap.size a := fun a h z => absurd h (Nat.not_lt.mpr z)
  obtain ⟨t, ht, hT⟩ := va_Tof (f := fun i => .int (f.getD i 0)) hN (hs _ hr.1) (va_eqt (hs _ hr.2.1)) (fun j hj => va_eqt (hs _ (hr.2.2 j hj))) hA
  exact ⟨t, va_Zof hl hi ht hA, hT⟩
theorem st_mk {s : State} {b L : Nat} {xs : Nat → Int32} (hts : ∀ w ∈ lw_tbl, w.before #[Value.ref b] s = true) (hX : va_X b L xs s s.heap) (hgv : (Jvm.Cond.and given_1 narrow_1).before #[Value.ref b] s = true) : ∃ ad : Nat → Nat, st_X ad s.heap.size b L xs s := by
  have hs : ∀ c ∈ st_F, c.before #[Value.ref b] s = true := flat_of_before _ hgv
  have hA : ∀ a : Nat, a < s.heap.size → ¬ xb_A s.heap.size a := fun a h z => absurd h (Nat.not_lt.mpr z)
  obtain ⟨aK, aV, hS, hE⟩ := vk_Sof (args := #[Value.ref b]) (s := s) (N := 11) (tm := st_tm) (len := xLen) (byt := xByt) (A := xb_A s.heap.size) (by decide) (fun i hi => hs _ (st_f1 i hi)) (fun i hi => hs _ (st_f2 i hi)) (fun i hi => hs _ (st_f3 i hi)) (fun i hi => hs _ (st_f4 i hi)) (fun i hi j hj => hs _ (st_f5 i hi j hj)) (fun i j hi hj hij => (st_f6 i hi j hj hij).imp (hs _) (hs _)) hA
  obtain ⟨t0, z0, y0⟩ := st_xT (f := xArr.getD 0 []) (by decide) hs st_r0 (hts _ (lw_u2 120 rfl)) (hts _ (lw_u1 3 rfl))
  obtain ⟨t1, z1, y1⟩ := st_xT (f := xArr.getD 1 []) (by decide) hs st_r1 (hts _ (lw_u2 122 rfl)) (hts _ (lw_u1 3 rfl))
  obtain ⟨t2, z2, y2⟩ := st_xT (f := xArr.getD 2 []) (by decide) hs st_r2 (hts _ (lw_u2 124 rfl)) (hts _ (lw_u1 3 rfl))
  obtain ⟨t3, z3, y3⟩ := st_xT (f := xArr.getD 3 []) (by decide) hs st_r3 (hts _ (lw_u2 126 rfl)) (hts _ (lw_u1 3 rfl))
  obtain ⟨t4, z4, y4⟩ := st_xT (f := xArr.getD 4 []) (by decide) hs st_r4 (hts _ (lw_u2 226 rfl)) (hts _ (lw_u1 3 rfl))
  obtain ⟨t5, z5, y5⟩ := st_xT (f := xArr.getD 5 []) (by decide) hs st_r5 (hts _ (lw_u2 238 rfl)) (hts _ (lw_u1 3 rfl))
  obtain ⟨t6, z6, y6⟩ := st_xT (f := xArr.getD 6 []) (by decide) hs st_r6 (hts _ (lw_u3 71 rfl)) (hts _ (lw_u1 5 rfl))
  refine ⟨fun k => if k < 112 then aK (k - 100) else if k < 130 then aV (k - 112) else [t0, t1, t2, t3, t4, t5, t6].getD (k - 130) 0, ⟨?_, ?_, ?_, ⟨⟨z0, y0⟩, ⟨z1, y1⟩, ⟨z2, y2⟩, ⟨z3, y3⟩, ⟨z4, y4⟩, ⟨z5, y5⟩, ⟨z6, y6⟩⟩, vk_R.of (A := #[Value.ref b]) (hts _ (lw_u2 138 rfl)) (hE 0 (by decide)), vk_R.of (A := #[Value.ref b]) (hts _ (lw_u2 230 rfl)) (hE 1 (by decide)), vk_R.of (A := #[Value.ref b]) (hts _ (lw_u2 231 rfl)) (hE 2 (by decide)), vk_R.of (A := #[Value.ref b]) (hts _ (lw_u2 232 rfl)) (hE 3 (by decide)), vk_R.of (A := #[Value.ref b]) (hts _ (lw_u3 34 rfl)) (hE 4 (by decide)), vk_R.of (A := #[Value.ref b]) (hts _ (lw_u3 41 rfl)) (hE 5 (by decide)), vk_R.of (A := #[Value.ref b]) (hts _ (lw_u3 47 rfl)) (hE 6 (by decide)), vk_R.of (A := #[Value.ref b]) (hts _ (lw_u3 68 rfl)) (hE 7 (by decide)), vk_R.of (A := #[Value.ref b]) (hts _ (lw_u5 195 rfl)) (hE 9 (by decide)), vk_R.of (A := #[Value.ref b]) (hts _ (lw_u5 221 rfl)) (hE 10 (by decide)), vk_R.of (A := #[Value.ref b]) (hts _ (lw_u5 228 rfl)) (hE 8 (by decide)), vk_R.of (A := #[Value.ref b]) (hts _ (lw_u5 229 rfl)) (va_eqR (hs (Cond.eq (Term.string "WaxReign$LawReader" 74) (Term.string "WaxReignModel" 32)) (by decide +kernel)) (hE 4 (by decide))), vk_R.of (A := #[Value.ref b]) (hts _ (lw_u6 192 rfl)) (va_eqR (hs (Cond.eq (Term.string "WaxReign$KingdomReader" 101) (Term.string "WaxReignModel" 248)) (by decide +kernel)) (hE 1 (by decide))), vk_R.of (A := #[Value.ref b]) (hts _ (lw_u6 239 rfl)) (va_eqR (hs (Cond.eq (Term.string "WaxReign$KingdomReader" 103) (Term.string "WaxReignModel" 254)) (by decide +kernel)) (hE 2 (by decide))), vk_R.of (A := #[Value.ref b]) (hts _ (lw_u7 0 rfl)) (va_eqR (hs (Cond.eq (Term.string "WaxReign$KingdomReader" 105) (Term.string "WaxReignModel" 256)) (by decide +kernel)) (hE 3 (by decide))), vk_R.of (A := #[Value.ref b]) (hts _ (lw_u7 74 rfl)) (va_eqR (hs (Cond.eq (Term.string "WaxReign$ReignReader" 45) (Term.string "WaxReignModel" 264)) (by decide +kernel)) (hE 7 (by decide)))⟩, ?_, ?_, ⟨va_Nw.of rfl (hts _ (lw_u3 112 rfl)), va_Nw.of rfl (hts _ (lw_u5 158 rfl)), va_Nw.of rfl (hts _ (lw_u5 160 rfl)), va_Nw.of rfl (hts _ (lw_u5 162 rfl)), va_Nw.of rfl (hts _ (lw_u5 164 rfl))⟩, ⟨va_Nw.of rfl (hts _ (lw_u1 37 rfl)), va_Nw.of rfl (hts _ (lw_u1 107 rfl)), va_Nw.of rfl (hts _ (lw_u1 185 rfl)), va_Nw.of rfl (hts _ (lw_u2 37 rfl))⟩, ?_, hX⟩
  · refine ⟨fun i hi => ?_, fun i j hi hj e => hS.2 i j hi hj ?_⟩
    · have e1 : (if 100 + i < 112 then aK (100 + i - 100) else if 100 + i < 130 then aV (100 + i - 112) else [t0, t1, t2, t3, t4, t5, t6].getD (100 + i - 130) 0) = aK i := by rw [if_pos (by omega), show 100 + i - 100 = i by omega]
      have e2 : (if 112 + i < 112 then aK (112 + i - 100) else if 112 + i < 130 then aV (112 + i - 112) else [t0, t1, t2, t3, t4, t5, t6].getD (112 + i - 130) 0) = aV i := by rw [if_neg (by omega), if_pos (by omega), show 112 + i - 112 = i by omega]
      dsimp only
      rw [e1, e2]
      exact hS.1 i hi
    · dsimp only at e
      rw [if_pos (by omega), if_pos (by omega), show 100 + i - 100 = i by omega, show 100 + j - 100 = j by omega] at e
      exact e
  · exact va_Zof (hts _ (lw_u2 152 rfl)) (hts _ (lw_u1 16 rfl)) (va_eqt (hs (Cond.eq (.static "java/lang/String" "COMPACT_STRINGS" "Z") (.int 1)) (by decide +kernel))) hA
  · exact va_Zqof (hts _ (lw_u2 195 rfl)) (hts _ (lw_u1 20 rfl)) (hs (Cond.isRef (.static "jdk/internal/util/Preconditions" "SIOOBE_FORMATTER" "Ljava/util/function/BiFunction;")) (by decide +kernel)) hA
  · exact vx_Zqof (hts _ (lw_u5 183 rfl)) (hts _ (lw_u1 22 rfl)) (hs (Cond.isRef (.static "java/lang/Throwable" "UNASSIGNED_STACK" "[Ljava/lang/StackTraceElement;")) (by decide +kernel)) hA
  · exact vx_Zqof (hts _ (lw_u5 185 rfl)) (hts _ (lw_u1 22 rfl)) (hs (Cond.isRef (.static "java/lang/Throwable" "SUPPRESSED_SENTINEL" "Ljava/util/List;")) (by decide +kernel)) hA
  · exact hts _ (lw_u1 112 rfl)
