/-! arraycopy out of a static row of ints; Arrays.fill; the class's reader of a kingdom -/
theorem ax_nn {z : Int32} (hz : ¬ z < 0) : z.toInt = (z.toNatClampNeg : Int) := by
  have h0 : (0 : Int) ≤ z.toInt := by
    have := Int32.not_lt.mp hz
    simpa using Int32.le_iff_toInt_le.mp this
  show z.toInt = ((z.toInt.toNat : Nat) : Int)
  omega
section AwXc
variable {l : Launch} {g : ag_G} {M : ag_M} {R : Room} {Z : ag_Z} {cells slots : Nat} {ws ws2 : va_W} {pc : Nat} {L : List (Option Value)} {st : List Value}
theorem aw_xcopy {index q1 a t n0 n1 : Nat} {f h : Nat → Int32} {sp dp n : Int32} (hd : m_at M pc = some (.invokestatic index, 3)) (hl : Cond.methodLink (m_y M).cls index arraycopyName ∈ aw_tbl) (hna : Cond.native arraycopyName ∈ aw_tbl) (hs : Cond.static arraycopyName ∈ aw_tbl) (hi : Cond.initialized "java/lang/System" ∈ aw_tbl) (hr : ∀ U, g_X g U → va_T .int t n0 (fun j => .int (f j)) (aw_A g) U U.heap) (ha1 : ws[q1]? = some (a, .inl (g_ca g 0, n1, .inl h))) (h1 : ¬ sp < 0) (h2 : ¬ dp < 0) (h3 : ¬ n < 0) (h4 : sp.toNatClampNeg + n.toNatClampNeg ≤ n0) (h5 : dp.toNatClampNeg + n.toNatClampNeg ≤ n1) (hf : 1 ≤ R.frames) (hlo : (st.map fun v => v.category).sum + (nativeFrameWords "java/lang/System" "arraycopy" 5 + 11) ≤ R.locals) (hw : ws.set q1 (a, .inl (g_ca g 0, n1, .inl (va_cpy f h sp.toNatClampNeg dp.toNatClampNeg n.toNatClampNeg))) = ws2) (kk : aw_W l g M R Z cells slots ws2 (pc + 3) L st) : aw_W l g M R Z cells slots ws pc L (.int n :: .int dp :: .ref a :: .int sp :: .ref t :: st) := by
  subst hw
  intro p e s m args below meth c H locs ls hC hH hL T hT X
  have hK : va_K (g_D g) aw_cl (aw_tys g) s := hC.2.2.2.2.2.2.2.1
  obtain ⟨hP, hD, hS⟩ := hH
  obtain ⟨scr, hs1, hs2, hs3, hs4, -, hs5, hs7⟩ := hr s hC.2.2.2.2.2.2.2.2.1
  have hc0 : H[t]? = some scr := by rw [hS.2.1 t (Array.getElem?_eq_some_iff.mp hs1).1 hs7]; exact hs1
  have hc1 : H[a]? = some (vp_cell (g_ca g 0) (n1, .inl h)) := hP q1 _ ha1
  obtain ⟨hs6, k0, hk0, cm0, hkk0⟩ := hs2
  obtain ⟨-, k1, hk1, cm1, hkk1⟩ := (hK.2 0 (g_ca g 0, .int) rfl).1 n1 (fun j => .int (h j))
  obtain ⟨vm', X', step⟩ := X.arraycopy hC.1 hC.2.2.2.1 (hC.2.2.2.2.1 _ hl) (hC.2.2.2.2.1 _ hna) (hC.2.2.2.2.1 _ hs) (hC.2.2.2.2.1 _ hi) (src := t) (dst := a) (cs := scr) (cd := vp_cell (g_ca g 0) (n1, .inl h)) (srcPos := sp) (destPos := dp) (n := n) (by rw [hT]; exact hc0) (by rw [hT]; exact hc1)
    hs6 (fun _ h => by cases h) hs3 (fun h => by cases h) hk0 hk1 hkk0 hkk1 (by simp [refKind]) h1 h2 h3
    (by rw [ax_nn h1, ax_nn h3]; omega)
    (by rw [ax_nn h2, ax_nn h3]; show ¬ _ > ((arrV (g_ca g 0) n1 (fun j => .int (h j))).slots.size : Int); rw [arrV_size]; omega)
    (fun vm₁ _ i hi => by
      have e : scr.slots.getD (sp.toNatClampNeg + i) .null = .int (f (sp.toNatClampNeg + i)) := by
        rw [Array.getD_eq_getD_getElem?, hs5 _ (by omega)]
        rfl
      rw [e]
      exact ⟨rfl, trivial⟩)
    (g := F0 m pc ls (.int n :: .int dp :: .ref a :: .int sp :: .ref t :: st)) rfl (hL.1.trans hC.2.2.1.symm) (rest := st) rfl (by rw [hC.2.1]; exact hC.2.2.2.2.2.2.2.2.2.2.2.1 _ _ _ hd) hf (by show 2 * 0 + _ + _ ≤ _; omega)
  have e1 : copied scr (vp_cell (g_ca g 0) (n1, .inl h)) sp dp n = vp_cell (g_ca g 0) (n1, .inl (va_cpy f h sp.toNatClampNeg dp.toNatClampNeg n.toNatClampNeg)) := va_copiedX (fun z => .int z) scr (g_ca g 0) f h hs5 h4
  rw [e1] at X' step
  have hlt : a < H.size := (Array.getElem?_eq_some_iff.mp hc1).1
  generalize hcell : vp_cell (g_ca g 0) (n1, .inl (va_cpy f h sp.toNatClampNeg dp.toNatClampNeg n.toNatClampNeg)) = cell at X' step
  have hheap : ((T.setVm vm').setCell a cell).heap = H.setIfInBounds a cell := by rw [← hT]; rfl
  have oq : ∀ q : Nat, q ≠ a → (H.setIfInBounds a cell)[q]? = H[q]? := fun q hq => by simp [Array.getElem?_setIfInBounds, Ne.symm hq]
  have hA : aw_A g a := hD.2 q1 _ ha1
  obtain ⟨t1, a1, b1⟩ := kk p e s m args below meth c _ _ ls hC ⟨hP.set hD ha1 (show (H.setIfInBounds a cell)[a]? = some (vp_cell _ _) by rw [hcell]; simp [Array.getElem?_setIfInBounds, hlt]) oq, hD.set ha1, by simp; exact hS.1, fun q g1 g2 => by
      rw [oq q (fun e => g2 (by rw [e]; exact hA))]
      exact hS.2.1 q g1 g2, fun q hq => by
      rcases List.mem_append.mp hq with h | h
      · exact hS.2.2 q h
      · obtain ⟨z, -, hz⟩ := List.mem_map.mp h
        rw [← hz]
        exact hA⟩ hL _ hheap X'
  exact ⟨t1, step t1 a1, b1⟩
end AwXc
set_option maxRecDepth 4000 in
theorem c_fill_5 {l : Launch} {g : ag_G} {s : am_S} {n : am_N} : aw_V l g mi_J7_fill_53178 0 [.ref (g_ad g 5), .int 0] (hp g s n) (hp g (upR s 5 (zf 3 (s 5))) n) := by
  have loop : ∀ (d i : Nat), i + d = 3 → aw_W l g mi_J7_fill_53178 (aw_rm 0 0 0) (aw_Z g (fun r w => r = none ∧ w = hp g (upR s 5 (zf 3 (s 5))) n) 0 0) 0 0 (hp g (upR s 5 (zf i (s 5))) n) 5 [some (.ref (g_ad g 5)), some (.int 0), some (.int (nI i)), some (.int 3)] [] := by
    intro d
    induction d with
    | zero =>
      intro i hi
      obtain rfl : i = 3 := by omega
      refine aw_iload_n rfl rfl ?_
      refine aw_iload_n rfl rfl ?_
      refine aw_icmp_ge (tgt := 20) rfl (by decide) (fun h7 => ?_) (fun h7 => absurd (by decide) h7)
      exact aw_fv rfl rfl rfl
    | succ d ih =>
      intro i hi
      refine aw_iload_n rfl rfl ?_
      refine aw_iload_n rfl rfl ?_
      refine aw_icmp_ge (tgt := 20) rfl (by decide) (fun h7 => absurd h7 (nI_ge (a := i) (b := 3) (by omega) (by decide))) (fun h7 => ?_)
      refine aw_aload_n rfl rfl ?_
      refine aw_iload_n rfl rfl ?_
      refine aw_iload_n rfl rfl ?_
      refine ps_5 (j := i) rfl rfl (by omega) ?_
      refine aw_eqs (ws' := hp g (upR s 5 (zf (i + 1) (s 5))) n) ?_ rfl rfl (congrArg (fun z => hp g z n) (by rw [upR_up, zf_s]))
      refine aw_inc1 rfl rfl (by decide) ?_
      refine aw_goto (tgt := 5) rfl (by decide) ?_
      exact aw_wk (ih (i + 1) (by omega)) (And.intro rfl (And.intro rfl (And.intro (congrArg (fun x => some (Value.int x)) (nI_1 i)) (And.intro rfl True.intro))))
  refine aw_V_of mo_J7_fill_53178 (by decide) (Nat.le_of_ble_eq_true rfl) ?_
  refine aw_iconst (v := 0) rfl (by decide) ?_
  refine aw_istore_n rfl (by decide) ?_
  refine aw_aload_n rfl rfl ?_
  refine pn_5 (v := 3) rfl (by decide) ?_
  refine aw_istore_n rfl (by decide) ?_
  have h0 := loop 3 0 (by omega)
  rw [show zf 0 (s 5) = s 5 from by (funext j; unfold zf; rw [if_neg (by omega)]), upR_rf] at h0
  exact aw_wk h0 (And.intro rfl (And.intro rfl (And.intro rfl (And.intro rfl True.intro))))
set_option maxRecDepth 4000 in
theorem c_fill_16 {l : Launch} {g : ag_G} {s : am_S} {n : am_N} : aw_V l g mi_J7_fill_53178 0 [.ref (g_ad g 16), .int 0] (hp g s n) (hp g (upR s 16 (zf 36 (s 16))) n) := by
  have loop : ∀ (d i : Nat), i + d = 36 → aw_W l g mi_J7_fill_53178 (aw_rm 0 0 0) (aw_Z g (fun r w => r = none ∧ w = hp g (upR s 16 (zf 36 (s 16))) n) 0 0) 0 0 (hp g (upR s 16 (zf i (s 16))) n) 5 [some (.ref (g_ad g 16)), some (.int 0), some (.int (nI i)), some (.int 36)] [] := by
    intro d
    induction d with
    | zero =>
      intro i hi
      obtain rfl : i = 36 := by omega
      refine aw_iload_n rfl rfl ?_
      refine aw_iload_n rfl rfl ?_
      refine aw_icmp_ge (tgt := 20) rfl (by decide) (fun h7 => ?_) (fun h7 => absurd (by decide) h7)
      exact aw_fv rfl rfl rfl
    | succ d ih =>
      intro i hi
      refine aw_iload_n rfl rfl ?_
      refine aw_iload_n rfl rfl ?_
      refine aw_icmp_ge (tgt := 20) rfl (by decide) (fun h7 => absurd h7 (nI_ge (a := i) (b := 36) (by omega) (by decide))) (fun h7 => ?_)
      refine aw_aload_n rfl rfl ?_
      refine aw_iload_n rfl rfl ?_
      refine aw_iload_n rfl rfl ?_
      refine ps_16 (j := i) rfl rfl (by omega) ?_
      refine aw_eqs (ws' := hp g (upR s 16 (zf (i + 1) (s 16))) n) ?_ rfl rfl (congrArg (fun z => hp g z n) (by rw [upR_up, zf_s]))
      refine aw_inc1 rfl rfl (by decide) ?_
      refine aw_goto (tgt := 5) rfl (by decide) ?_
      exact aw_wk (ih (i + 1) (by omega)) (And.intro rfl (And.intro rfl (And.intro (congrArg (fun x => some (Value.int x)) (nI_1 i)) (And.intro rfl True.intro))))
  refine aw_V_of mo_J7_fill_53178 (by decide) (Nat.le_of_ble_eq_true rfl) ?_
  refine aw_iconst (v := 0) rfl (by decide) ?_
  refine aw_istore_n rfl (by decide) ?_
  refine aw_aload_n rfl rfl ?_
  refine pn_16 (v := 36) rfl (by decide) ?_
  refine aw_istore_n rfl (by decide) ?_
  have h0 := loop 36 0 (by omega)
  rw [show zf 0 (s 16) = s 16 from by (funext j; unfold zf; rw [if_neg (by omega)]), upR_rf] at h0
  exact aw_wk h0 (And.intro rfl (And.intro rfl (And.intro rfl (And.intro rfl True.intro))))
/-- kinds of clauses: letter, items, first row, most, first item -/
def kD (k : Nat) : Nat := [115, 116, 114].getD k 0
def kI (k : Nat) : Nat := [3, 5, 1].getD k 0
def kF (k : Nat) : Nat := [0, 3, 38].getD k 0
def kM (k : Nat) : Nat := [1, 7, 5].getD k 0
def kA (k : Nat) : Nat := [0, 3, 8].getD k 0
theorem xa_0 : ∀ k, k < 3 → (xArr.getD 0 []).getD k 0 = nI (kF k) := by decide +kernel
theorem xa_1 : ∀ k, k < 3 → (xArr.getD 1 []).getD k 0 = nI (kI k) := by decide +kernel
theorem xa_3 : ∀ k, k < 3 → (xArr.getD 3 []).getD k 0 = nI (kA k) := by decide +kernel
theorem xa_4 : ∀ k, k < 3 → (xArr.getD 4 []).getD k 0 = nI (kM k) := by decide +kernel
theorem xa_5 : ∀ k, k < 3 → ∀ i, i < kI k → (xArr.getD 5 []).getD (kA k + i) 0 = nI (msN (kD k) i) ∧ msN (kD k) i ≤ 99 := by decide +kernel
theorem xa_2 : ∀ k, k < 3 → ∀ i, i < kI k → (xArr.getD 2 []).getD (kA k + i) 0 = usV (nI (kD k)) i := by decide +kernel
theorem k_b : ∀ k, k < 3 → kI k ≤ 5 ∧ kA k + kI k ≤ 9 ∧ kF k + kM k * kI k ≤ 43 ∧ kM k ≤ 7 ∧ 0 < kI k := by decide +kernel
def kRow (k c : Nat) : Nat := kF k + c * kI k
theorem kRow_b {k c : Nat} (hk : k < 3) (hc : c < kM k) : kRow k c + kI k ≤ 43 := by
  have h := k_b k hk
  unfold kRow
  have : c * kI k + kI k ≤ kM k * kI k := by rw [← Nat.succ_mul]; exact Nat.mul_le_mul_right _ hc
  omega
theorem kRow_e {k c : Nat} : nI (kF k) + nI c * nI (kI k) = nI (kRow k c) := by rw [pk_mul, nI_add]; rfl
def km (s : am_S) (a : Nat) (R C : Nat → Int32) : am_S := up (upR (upR s 4 R) 5 C) 1 2 (nI a)
theorem km_1 {s : am_S} {a b : Nat} {R C : Nat → Int32} : up (km s a R C) 1 2 (nI b) = km s b R C := by unfold km; rw [up_up]
theorem km_in {s : am_S} {a : Nat} {R C : Nat → Int32} : up (km s a R C) 1 2 (nI a + 1) = km s (a + 1) R C := by rw [nI_1, km_1]
theorem km_tA {s : am_S} {a b : Nat} {R C : Nat → Int32} : tA (km s a R C) b = km s b R C := km_1
theorem upR_sw {s : am_S} {k k' : Nat} {f h : Nat → Int32} (e : Nat.beq k k' = false) (e' : Nat.beq k' k = false) : upR (upR s k f) k' h = upR (upR s k' h) k f := by
  funext q
  cases h1 : Nat.beq q k with
  | true => have e1 := Nat.eq_of_beq_eq_true h1; subst e1; simp only [upR, e, e', h1, cond_true, cond_false]
  | false =>
    cases h2 : Nat.beq q k' with
    | true => have e2 := Nat.eq_of_beq_eq_true h2; subst e2; simp only [upR, e, e', h2, cond_true, cond_false]
    | false => simp only [upR, h1, h2, cond_false]
theorem km_4 {s : am_S} {a j : Nat} {R C : Nat → Int32} {v : Int32} : up (km s a R C) 4 j v = km s a (upd R j v) C := by
  unfold km
  rw [up_comm (k := 1) (k' := 4) rfl rfl, show up (upR (upR s 4 R) 5 C) 4 j v = upR (upR (upR s 4 R) 5 C) 4 (upd R j v) from rfl, upR_sw (k := 5) (k' := 4) rfl rfl, upR_upR]
theorem km_R {s : am_S} {a : Nat} {R C f : Nat → Int32} : upR (km s a R C) 4 f = km s a f C := by
  unfold km
  rw [← upR_comm (k := 4) (k' := 1) rfl rfl, upR_sw (k := 5) (k' := 4) rfl rfl, upR_upR]
theorem km_5 {s : am_S} {a j : Nat} {R C : Nat → Int32} {v : Int32} : up (km s a R C) 5 j v = km s a R (upd C j v) := by
  unfold km
  rw [up_comm (k := 1) (k' := 5) rfl rfl, upR_up]
section AwKr
variable {l : Launch} {g : ag_G} {s : am_S} {n : am_N} {E p : Nat} {tx : Nat → Nat} {R C : Nat → Int32}
theorem c_signK (hT : CT s E tx) (hp1 : p ≤ E) : aw_F l g mi_X10_sign 0 [.ref (g_ad g 1)] (hp g (km s p R C) n) (.int (cst tx E p)) (hp g (km s (skw tx E p) R C) n) := by
  have h := c_X10_sign (l := l) (g := g) (n := n) (s := km s p R C) (m := E) (a := p) hT.1 hT.2.1 rfl hp1
  rw [km_tA, show (km s p R C) 2 = s 2 from rfl, CT_sA hT hp1, CT_sgn hT] at h
  exact h
theorem c_passK {x : Int32} (hT : CT s E tx) (hp1 : p ≤ E) : aw_F l g mi_X10_passes 1 [.ref (g_ad g 1), .int x] (hp g (km s p R C) n) (.int (bB (decide (cst tx E p = x)))) (hp g (if cst tx E p = x then km s (skw tx E p + 1) R C else km s (skw tx E p) R C) n) := by
  have h := c_X10_passes (l := l) (g := g) (n := n) (s := km s p R C) (m := E) (a := p) (x := x) hT.1 hT.2.1 rfl hp1
  rw [km_tA, km_tA, show (km s p R C) 2 = s 2 from rfl, CT_sA hT hp1, CT_sgn hT] at h
  exact h
theorem c_passKY {x : Int32} (hT : CT s E tx) (hp1 : p ≤ E) (hc : cst tx E p = x) : aw_F l g mi_X10_passes 1 [.ref (g_ad g 1), .int x] (hp g (km s p R C) n) (.int 1) (hp g (km s (skw tx E p + 1) R C) n) := by
  have h := c_passK (l := l) (g := g) (n := n) (R := R) (C := C) (x := x) hT hp1
  rw [if_pos hc, decide_eq_true hc] at h
  exact h
theorem c_passKX {x : Int32} (hT : CT s E tx) (hp1 : p ≤ E) (hc : cst tx E p ≠ x) : aw_F l g mi_X10_passes 1 [.ref (g_ad g 1), .int x] (hp g (km s p R C) n) (.int 0) (hp g (km s (skw tx E p) R C) n) := by
  have h := c_passK (l := l) (g := g) (n := n) (R := R) (C := C) (x := x) hT hp1
  rw [if_neg hc, decide_eq_false hc] at h
  exact h
end AwKr
theorem nmE_2 {M v : Nat} {a : Nat} {t : Int32} (ht : ¬ t = 0) (hM : M ≤ 99) (hv : v < 1000) : nmE (nI M) (nI v) t a = if v ≤ M then (nI v, a) else (-1, a - 1) := by
  unfold nmE
  rw [if_neg ht]
  by_cases h : v ≤ M
  · rw [if_pos h, if_pos (nI_le h (by omega))]
  · rw [if_neg h, if_neg (nI_ge (by omega) (by omega))]
theorem nmb2_f {s : am_S} {E : Nat} {tx : Nat → Nat} (hT : CT s E tx) {a : Nat} (hg : dg tx E a = false) (mo v t : Int32) : nmb (s 2) 2 mo (E - a) a v t = nmE mo v t a := by
  by_cases hq : a < E
  · obtain ⟨d, hd⟩ : ∃ d, E - a = d + 1 := ⟨E - a - 1, by omega⟩
    rw [hd]
    simp only [nmb]
    have hn : ¬ (¬ s 2 a < 48 ∧ ¬ 57 < s 2 a) := fun e => absurd ((dg_f hT hq).mpr e) (by rw [hg]; exact Bool.false_ne_true)
    by_cases h1 : s 2 a < 48
    · rw [if_pos h1]
    · rw [if_neg h1, if_pos (Decidable.of_not_not (fun e => hn ⟨h1, e⟩))]
  · rw [show E - a = 0 by omega]; rfl
theorem nmb2_t {s : am_S} {E : Nat} {tx : Nat → Nat} (hT : CT s E tx) {a v : Nat} {mo t : Int32} (hg : dg tx E a = true) : nmb (s 2) 2 mo (E - a) a (nI v) t = if t = 2 then (-1, a) else nmb (s 2) 2 mo (E - (a + 1)) (a + 1) (nI (10 * v + (tx a - 48))) (t + 1) := by
  have hc := dg_c hg
  have h1 := (dg_f hT hc.1).mp hg
  obtain ⟨d, hd⟩ : ∃ d, E - a = d + 1 := ⟨E - a - 1, by omega⟩
  rw [hd, show E - (a + 1) = d by omega]
  simp only [nmb]
  rw [if_neg h1.1, if_neg h1.2, (hT.2.2 a hc.1).2.2, nm_ad2 hc.2.1]
def exN : Except Nat (Nat × Nat) → Int32 × Nat
  | .ok z => (nI z.2, z.1)
  | .error e => (-1, e)
theorem nmb_nm2 {s : am_S} {E p M : Nat} {tx : Nat → Nat} (hT : CT s E tx) (hM : M ≤ 99) : nmb (s 2) 2 (nI M) (E - skw tx E p) (skw tx E p) 0 0 = exN (nm2 tx E p M) := by
  unfold nm2
  by_cases h1 : dg tx E (skw tx E p) = true
  · have c1 := dg_c h1
    rw [if_pos h1, show nmb (s 2) 2 (nI M) (E - skw tx E p) (skw tx E p) 0 0 = nmb (s 2) 2 (nI M) (E - skw tx E p) (skw tx E p) (nI 0) 0 from rfl, nmb2_t hT h1, if_neg (by decide)]
    by_cases h2 : dg tx E (skw tx E p + 1) = true
    · have c2 := dg_c h2
      rw [if_pos h2, nmb2_t hT h2, if_neg (by decide)]
      by_cases h3 : dg tx E (skw tx E p + 2) = true
      · rw [if_pos h3, nmb2_t hT h3, if_pos (by decide)]
        rfl
      · rw [if_neg h3, nmb2_f hT (by simpa using h3), nmE_2 (by decide) hM (by omega)]
        rw [show 10 * (10 * 0 + (tx (skw tx E p) - 48)) + (tx (skw tx E p + 1) - 48) = 10 * (tx (skw tx E p) - 48) + (tx (skw tx E p + 1) - 48) by omega]
        by_cases h4 : 10 * (tx (skw tx E p) - 48) + (tx (skw tx E p + 1) - 48) ≤ M
        · rw [if_pos h4, if_pos h4]; rfl
        · rw [if_neg h4, if_neg h4]; rfl
    · rw [if_neg h2, nmb2_f hT (by simpa using h2), nmE_2 (by decide) hM (by omega)]
      rw [show 10 * 0 + (tx (skw tx E p) - 48) = tx (skw tx E p) - 48 by omega]
      by_cases h4 : tx (skw tx E p) - 48 ≤ M
      · rw [if_pos h4, if_pos h4]; rfl
      · rw [if_neg h4, if_neg h4]; rfl
  · rw [if_neg h1, nmb2_f hT (by simpa using h1)]
    rfl
theorem c_numK {l : Launch} {g : ag_G} {s : am_S} {n : am_N} {E p M : Nat} {tx : Nat → Nat} {R C : Nat → Int32} (hT : CT s E tx) (hp1 : p ≤ E) (hM : M ≤ 99) : aw_F l g mi_X10_number 0 [.ref (g_ad g 1), .int 2, .int (nI M)] (hp g (km s (skw tx E p) R C) n) (.int (exN (nm2 tx E p M)).1) (hp g (km s (exN (nm2 tx E p M)).2 R C) n) := by
  have hk := skw_b (tx := tx) hp1
  have h := c_X10_number (l := l) (g := g) (n := n) (s := km s (skw tx E p) R C) (dg := 2) (mo := nI M) (m := E) (a := skw tx E p) hT.1 hT.2.1 rfl hk.2.1
  rw [km_tA, show (km s (skw tx E p) R C) 2 = s 2 from rfl, nmb_nm2 hT hM] at h
  exact h
