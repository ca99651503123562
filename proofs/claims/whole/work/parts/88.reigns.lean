/-! the class's reigns: their rows, step, run -/
def RGs (g : ag_G) (s : am_S) (n : am_N) (P : Nat) (pL : Nat → Nat) (pF : Nat → Nat → Int32) : Prop := s 0 6 = nI P ∧ P ≤ 4 ∧ ∀ q, q < P → pL q ≤ 16 ∧ ∃ (j a : Nat) (f : Nat → Int32), n.2.1 14 q = some a ∧ n.2.2.2[j]? = some (a, Sum.inl (g_ca g 0, 3 * pL q, Sum.inl f)) ∧ ∀ i, i < 3 * pL q → f i = pF q i
def isPc (s : am_S) (t : Int32) : Bool := decide (0 ≤ t) && decide (t < s 0 6)
theorem isPc_nI {g : ag_G} {s : am_S} {n : am_N} {P : Nat} {pL : Nat → Nat} {pF : Nat → Nat → Int32} {t : Int32} (h : RGs g s n P pL pF) (ht : isPc s t = true) : ∃ q, q < P ∧ t = nI q := by
  unfold isPc at ht
  simp only [Bool.and_eq_true, decide_eq_true_eq] at ht
  rw [h.1] at ht
  exact nI_lt7 (by have := h.2.1; omega) ht.1 ht.2
theorem RGs_mv {g : ag_G} {s s' : am_S} {n n' : am_N} {P : Nat} {pL : Nat → Nat} {pF : Nat → Nat → Int32} (h : RGs g s n P pL pF) (h1 : s' 0 6 = s 0 6) (h2 : n'.2.1 14 = n.2.1 14) (h3 : n'.2.2.2 = n.2.2.2) : RGs g s' n' P pL pF := by
  unfold RGs at h ⊢
  rw [h1, h2, h3]
  exact h
set_option maxRecDepth 4000 in
theorem c_X11_isReign {l : Launch} {g : ag_G} {s : am_S} {n : am_N} {P : Nat} {pL : Nat → Nat} {pF : Nat → Nat → Int32} (hg : RGs g s n P pL pF) {t : Int32} : aw_F l g mi_X11_isReign 0 [.ref (g_ad g 0), .int t] (hp g s n) (.int (bB (isPc s t))) (hp g s n) := by
  refine aw_F_of mo_X11_isReign (by decide) (Nat.le_of_ble_eq_true rfl) ?_
  refine aw_iload_n rfl rfl ?_
  refine aw_if_lt (tgt := 25) rfl (by decide) (fun h1 => ?_) (fun h1 => ?_)
  · refine aw_iconst (v := 0) rfl (by decide) ?_
    exact aw_fz rfl rfl (Or.inl rfl) (by unfold isPc; first | (rw [decide_eq_false (Int32.not_le.mpr h1)]; rfl) | (rw [decide_eq_false (Int32.not_lt.mpr h9)]; cases decide (0 ≤ t) <;> rfl)) rfl
  · refine aw_iload_n rfl rfl ?_
    refine aw_aload_n rfl rfl ?_
    refine pg_0_6 rfl kl_X11_131 ?_
    refine aw_icmp_ge (tgt := 25) rfl (by decide) (fun h9 => ?_) (fun h9 => ?_)
    · refine aw_iconst (v := 0) rfl (by decide) ?_
      exact aw_fz rfl rfl (Or.inl rfl) (by unfold isPc; first | (rw [decide_eq_false (Int32.not_le.mpr h1)]; rfl) | (rw [decide_eq_false (Int32.not_lt.mpr h9)]; cases decide (0 ≤ t) <;> rfl)) rfl
    · have ht : isPc s t = true := by (unfold isPc; rw [decide_eq_true (Int32.not_lt.mp h1), decide_eq_true (Int32.not_le.mp h9)]; rfl)
      obtain ⟨q, hq, rfl⟩ := isPc_nI hg ht
      obtain ⟨-, j, a, f, ha, -, -⟩ := hg.2.2 q hq
      have hP := hg.2.1
      refine aw_aload_n rfl rfl ?_
      refine pg_0_5 rfl kl_X11_48 ?_
      refine aw_iload_n rfl rfl ?_
      refine pl_14 (j := q) rfl rfl (by omega) ?_
      rw [ha]
      refine aw_ifnull rfl ?_
      refine aw_iconst (v := 1) rfl (by decide) ?_
      refine aw_goto (tgt := 26) rfl (by decide) ?_
      exact aw_fz rfl rfl (Or.inr rfl) (by rw [ht]; rfl) rfl
set_option maxRecDepth 4000 in
theorem c_X11_stepsOf {l : Launch} {g : ag_G} {s : am_S} {n : am_N} {P : Nat} {pL : Nat → Nat} {pF : Nat → Nat → Int32} (hg : RGs g s n P pL pF) {q : Nat} (hq : q < P) : aw_F l g mi_X11_stepsOf 0 [.ref (g_ad g 0), .int (nI q)] (hp g s n) (.int (nI (pL q))) (hp g s n) := by
  obtain ⟨h16, j, a, f, ha, hb, hc⟩ := hg.2.2 q hq
  have hP := hg.2.1
  refine aw_F_of mo_X11_stepsOf (by decide) (Nat.le_of_ble_eq_true rfl) ?_
  refine aw_aload_n rfl rfl ?_
  refine pg_0_5 rfl kl_X11_48 ?_
  refine aw_iload_n rfl rfl ?_
  refine pl_14 (j := q) rfl rfl (by omega) ?_
  rw [ha]
  refine pn_X rfl hb rfl ?_
  refine aw_iconst (v := 3) rfl (by decide) ?_
  refine aw_idiv rfl (by decide) ?_
  exact aw_fi rfl rfl (by rw [show Int32.ofNat (3 * pL q) / 3 = nI (3 * pL q / 3) from pk_div (d := 3) (by omega) (by decide) (by decide), Nat.mul_div_cancel_left _ (by decide)]) rfl
set_option maxRecDepth 4000 in
theorem c_X11_part {l : Launch} {g : ag_G} {s : am_S} {n : am_N} {P : Nat} {pL : Nat → Nat} {pF : Nat → Nat → Int32} (hg : RGs g s n P pL pF) {q i x : Nat} (hq : q < P) (hi : i < pL q) (hx3 : x < 3) : aw_F l g mi_X11_part 0 [.ref (g_ad g 0), .int (nI q), .int (nI i), .int (nI x)] (hp g s n) (.int (pF q (3 * i + x))) (hp g s n) := by
  obtain ⟨h16, j, a, f, ha, hb, hc⟩ := hg.2.2 q hq
  have hP := hg.2.1
  refine aw_F_of mo_X11_part (by decide) (Nat.le_of_ble_eq_true rfl) ?_
  refine aw_aload_n rfl rfl ?_
  refine pg_0_5 rfl kl_X11_48 ?_
  refine aw_iload_n rfl rfl ?_
  refine pl_14 (j := q) rfl rfl (by omega) ?_
  rw [ha]
  refine aw_iload_n rfl rfl ?_
  refine aw_iconst (v := 3) rfl (by decide) ?_
  refine aw_imul rfl ?_
  refine aw_iload_n rfl rfl ?_
  refine aw_iadd rfl ?_
  refine pl_X (q := 3 * i + x) rfl hb (by rw [show nI i * 3 = nI (i * 3) from pk_mul i 3, nI_add, Nat.mul_comm]) (by omega) (by omega) ?_
  exact aw_fi rfl rfl (hc _ (by omega)) rfl
def q_step (s : am_S) (pL : Nat → Nat) (pF : Nat → Nat → Int32) (k i x : Int32) : Int32 := if isPc s k = true then (if i < 0 then -1000000 else if nI (pL (cl k)) ≤ i then -1000000 else if x < 0 then -1000000 else if x < 3 then pF (cl k) (3 * cl i + cl x) else -1000000) else -1000000
set_option maxRecDepth 4000 in
theorem c_X11_step {l : Launch} {g : ag_G} {s : am_S} {n : am_N} {P : Nat} {pL : Nat → Nat} {pF : Nat → Nat → Int32} (hg : RGs g s n P pL pF) {k i x : Int32} : aw_F l g mi_X11_step 1 [.ref (g_ad g 0), .int k, .int i, .int x] (hp g s n) (.int (q_step s pL pF k i x)) (hp g s n) := by
  refine aw_F_of mo_X11_step (by decide) (Nat.le_of_ble_eq_true rfl) ?_
  have hP := hg.2.1
  refine aw_aload_n rfl rfl ?_
  refine aw_iload_n rfl rfl ?_
  refine aw_iV (q0 := 0) (ci := 11) rfl cw_X11_251 rfl rfl rfl (c_X11_isReign hg) rfl rfl (Nat.le_of_ble_eq_true rfl) (by decide) (by decide) (by decide) (by decide) ?_
  refine aw_if_eq (tgt := 30) rfl (by decide) (fun h5 => ?_) (fun h5 => ?_)
  · refine aw_ldcw (v := -1000000) rfl (aw_t4 89 rfl rfl) ?_
    exact aw_fi rfl rfl (by unfold q_step; first | (rw [if_neg (by rw [bB_0.mp h5]; decide)]; done) | (rw [if_pos hk, if_pos h9]; done) | (rw [if_pos hk, if_neg h9, cl_nI (by omega), if_pos h18]; done) | (rw [if_pos hk, if_neg h9, cl_nI (by omega), if_neg h18, if_pos h22]; done) | (rw [if_pos hk, if_neg h9, cl_nI (by omega), if_neg h18, if_neg h22, if_neg h27]; done)) rfl
  · have hk : isPc s k = true := bB_n0.mp h5
    obtain ⟨q, hq, rfl⟩ := isPc_nI hg hk
    have h16 := (hg.2.2 q hq).1
    refine aw_iload_n rfl rfl ?_
    refine aw_if_lt (tgt := 30) rfl (by decide) (fun h9 => ?_) (fun h9 => ?_)
    · refine aw_ldcw (v := -1000000) rfl (aw_t4 89 rfl rfl) ?_
      exact aw_fi rfl rfl (by unfold q_step; first | (rw [if_neg (by rw [bB_0.mp h5]; decide)]; done) | (rw [if_pos hk, if_pos h9]; done) | (rw [if_pos hk, if_neg h9, cl_nI (by omega), if_pos h18]; done) | (rw [if_pos hk, if_neg h9, cl_nI (by omega), if_neg h18, if_pos h22]; done) | (rw [if_pos hk, if_neg h9, cl_nI (by omega), if_neg h18, if_neg h22, if_neg h27]; done)) rfl
    · refine aw_iload_n rfl rfl ?_
      refine aw_aload_n rfl rfl ?_
      refine aw_iload_n rfl rfl ?_
      refine aw_iV (q0 := 0) (ci := 11) rfl cw_X11_254 rfl rfl rfl (c_X11_stepsOf hg hq) rfl rfl (Nat.le_of_ble_eq_true rfl) (by decide) (by decide) (by decide) (by decide) ?_
      refine aw_icmp_ge (tgt := 30) rfl (by decide) (fun h18 => ?_) (fun h18 => ?_)
      · refine aw_ldcw (v := -1000000) rfl (aw_t4 89 rfl rfl) ?_
        exact aw_fi rfl rfl (by unfold q_step; first | (rw [if_neg (by rw [bB_0.mp h5]; decide)]; done) | (rw [if_pos hk, if_pos h9]; done) | (rw [if_pos hk, if_neg h9, cl_nI (by omega), if_pos h18]; done) | (rw [if_pos hk, if_neg h9, cl_nI (by omega), if_neg h18, if_pos h22]; done) | (rw [if_pos hk, if_neg h9, cl_nI (by omega), if_neg h18, if_neg h22, if_neg h27]; done)) rfl
      · refine aw_iload_n rfl rfl ?_
        refine aw_if_lt (tgt := 30) rfl (by decide) (fun h22 => ?_) (fun h22 => ?_)
        · refine aw_ldcw (v := -1000000) rfl (aw_t4 89 rfl rfl) ?_
          exact aw_fi rfl rfl (by unfold q_step; first | (rw [if_neg (by rw [bB_0.mp h5]; decide)]; done) | (rw [if_pos hk, if_pos h9]; done) | (rw [if_pos hk, if_neg h9, cl_nI (by omega), if_pos h18]; done) | (rw [if_pos hk, if_neg h9, cl_nI (by omega), if_neg h18, if_pos h22]; done) | (rw [if_pos hk, if_neg h9, cl_nI (by omega), if_neg h18, if_neg h22, if_neg h27]; done)) rfl
        · refine aw_iload_n rfl rfl ?_
          refine aw_iconst (v := 3) rfl (by decide) ?_
          refine aw_icmp_lt (tgt := 34) rfl (by decide) (fun h27 => ?_) (fun h27 => ?_)
          · obtain ⟨i0, hi0, rfl⟩ := nI_lt7 (T := pL q) (by omega) (Int32.not_lt.mp h9) (Int32.not_le.mp h18)
            obtain ⟨x0, hx0, rfl⟩ := x3_idx h22 h27
            refine aw_aload_n rfl rfl ?_
            refine aw_iload_n rfl rfl ?_
            refine aw_iload_n rfl rfl ?_
            refine aw_iload_n rfl rfl ?_
            refine aw_iV (q0 := 0) (ci := 11) rfl cw_X11_258 rfl rfl rfl (c_X11_part hg hq hi0 hx0) rfl rfl (Nat.le_of_ble_eq_true rfl) (by decide) (by decide) (by decide) (by decide) ?_
            exact aw_fi rfl rfl (by unfold q_step; rw [if_pos hk, if_neg h9, cl_nI (by omega), if_neg h18, if_neg h22, if_pos h27, cl_nI (by omega), cl_nI (by omega)]) rfl
          · refine aw_ldcw (v := -1000000) rfl (aw_t4 89 rfl rfl) ?_
            exact aw_fi rfl rfl (by unfold q_step; first | (rw [if_neg (by rw [bB_0.mp h5]; decide)]; done) | (rw [if_pos hk, if_pos h9]; done) | (rw [if_pos hk, if_neg h9, cl_nI (by omega), if_pos h18]; done) | (rw [if_pos hk, if_neg h9, cl_nI (by omega), if_neg h18, if_pos h22]; done) | (rw [if_pos hk, if_neg h9, cl_nI (by omega), if_neg h18, if_neg h22, if_neg h27]; done)) rfl
theorem kMelt_hi {s : am_S} {f : Nat → Int32} {ev : Int32} {i j : Nat} (hi : i < 7) (hj : 36 ≤ j ∨ j = 4) : kMelt s f ev i j = f j := by
  unfold kMelt
  split
  · rw [upd_n (by omega)]
  · rw [upd_n (by omega), upd_n (by omega), upd_n (by omega)]
theorem kPF_hi {V : (Nat → Int32) → Int32} {s : am_S} {wm ev : Int32} {j : Nat} (hj : 36 ≤ j ∨ j = 4) : ∀ (d i : Nat) (a : Int32 × (Nat → Int32)), i + d ≤ 7 → (fd (kPF V s wm ev) i d a).2 j = a.2 j
  | 0, _, _, _ => rfl
  | d + 1, i, a, h => by
    simp only [fd]
    rw [kPF_hi hj d (i + 1) _ (by omega)]
    unfold kPF
    split
    · split
      · rfl
      · exact kMelt_hi (by omega) hj
    · rfl
theorem isT_cl {s : am_S} {T Q : Nat} {t : Int32} (hb : kb s T Q) (h : ¬ isT s t = false) : cl t < 7 ∧ cl t < T := by
  obtain ⟨j, hj, rfl⟩ := isT_nI hb (by simpa using h)
  have := hb.2.1
  rw [cl_nI (by omega)]
  omega
theorem slF_cl {s : am_S} {f : Nat → Int32} {T Q : Nat} {t : Int32} (hb : kb s T Q) (h : ¬ slF s f t = false) : cl t < 7 ∧ cl t < T := isT_cl hb (fun e => h (by unfold slF; rw [e]; rfl))
theorem isR_cl {s : am_S} {T Q : Nat} {t : Int32} (hb : kb s T Q) (h : ¬ isR s t = false) : cl t < 5 ∧ cl t < Q := by
  obtain ⟨j, hj, rfl⟩ := isR_nI hb (by simpa using h)
  have := hb.2.2.2.1
  rw [cl_nI (by omega)]
  omega
theorem kAct_hi {V : (Nat → Int32) → Int32} {s : am_S} {f : Nat → Int32} {T Q : Nat} {a b c : Int32} (hb : kb s T Q) {j : Nat} (hj : 36 ≤ j) : (kAct V s T f a b c).2 j = f j := by
  have hT := hb.2.1
  unfold kAct
  split
  · unfold kMonth
    split
    · split
      · unfold kPass
        show upd (upd (kPA V s T f).2 0 _) 4 _ j = f j
        rw [upd_n (by omega), upd_n (by omega)]
        exact kPF_hi (Or.inl hj) T 0 (0, f) (by omega)
      · rfl
    · rfl
  · split
    · unfold kSeal
      split
      · rfl
      · rename_i h1
        have := isT_cl hb h1
        (repeat' split) <;> first | rfl | (show upd (upd f _ _) _ _ j = f j; rw [upd_n (by omega), upd_n (by omega)])
    · split
      · unfold kPry
        split
        · rfl
        · rename_i h1
          have := slF_cl hb h1
          split
          · rfl
          · rename_i h2
            have := isR_cl hb h2
            (repeat' split) <;> first | rfl | (show upd (upd f _ _) _ _ j = f j; rw [upd_n (by omega), upd_n (by omega)]; done) | (show upd (upd (upd (upd f _ _) _ _) _ _) _ _ j = f j; rw [upd_n (by omega), upd_n (by omega), upd_n (by omega), upd_n (by omega)])
      · split
        · unfold kOpen
          split
          · rfl
          · rename_i h1
            have := slF_cl hb h1
            show upd (upd f _ _) _ _ j = f j
            rw [upd_n (by omega), upd_n (by omega)]
        · split
          · unfold kCarry
            split
            · rfl
            · rename_i h1
              have := isT_cl hb h1
              (repeat' split) <;> first | rfl | (show upd f _ _ j = f j; rw [upd_n (by omega)])
          · split
            · unfold kHeat
              (repeat' split) <;> first | rfl | (show upd f _ _ j = f j; rw [upd_n (by omega)])
            · rfl
def rcL (V : (Nat → Int32) → Int32) (s : am_S) (T : Nat) (F : Nat → Int32) : Nat → Nat → (Nat → Int32) → Nat × (Nat → Int32)
  | 0, i, f => (i, f)
  | d + 1, i, f => if (kAct V s T f (F (3 * i)) (F (3 * i + 1)) (F (3 * i + 2))).1 = -1 then (i, (kAct V s T f (F (3 * i)) (F (3 * i + 1)) (F (3 * i + 2))).2) else rcL V s T F d (i + 1) (kAct V s T f (F (3 * i)) (F (3 * i + 1)) (F (3 * i + 2))).2
def q_run (V : (Nat → Int32) → Int32) (s : am_S) (T : Nat) (pL : Nat → Nat) (pF : Nat → Nat → Int32) (k x : Int32) : Int32 := if isPc s k = true then (if 0 < s 15 6 then (if x < 0 then -1000000 else if x ≤ 1 then (fun z : Nat × (Nat → Int32) => if x = 1 then z.2 2 - s 16 2 else if z.1 = pL (cl k) then -1 else nI z.1) (rcL V s T (pF (cl k)) (pL (cl k)) 0 (s 16)) else -1000000) else -1000000) else -1000000
def skH : Nat → Nat → Bool := fun k _ => [12, 13, 17].contains k
theorem rcL_le {V : (Nat → Int32) → Int32} {s : am_S} {T : Nat} {F : Nat → Int32} : ∀ (d i : Nat) (f : Nat → Int32), (rcL V s T F d i f).1 ≤ i + d
  | 0, _, _ => Nat.le_refl _
  | d + 1, i, f => by
    simp only [rcL]
    split
    · show i ≤ _; omega
    · have := rcL_le (V := V) (s := s) (T := T) (F := F) d (i + 1) (kAct V s T f (F (3 * i)) (F (3 * i + 1)) (F (3 * i + 2))).2
      omega
theorem kb_c {s s' : am_S} {T Q : Nat} (h : kb s T Q) (e : eqS s s') : kb s' T Q := by
  unfold kb at h ⊢
  rw [e.1 6, e.1 7, e.2.1]
  exact h
set_option maxRecDepth 4000 in
theorem c_X11_run {l : Launch} {g : ag_G} {s : am_S} {n : am_N} {P : Nat} {pL : Nat → Nat} {pF : Nat → Nat → Int32} (hg : RGs g s n P pL pF) {T Q : Nat} (hb : kb s T Q) {V : (Nat → Int32) → Int32} (hV : LawIs l g s n V) {k x : Int32} : aw_M l g mi_X11_run 7 0 0 [.ref (g_ad g 0), .int k, .int x] (hp g s n) (fun r z => ∃ s', r = some (.int (q_run V s T pL pF k x)) ∧ z = hp g s' n ∧ eo skH s s') := by
  have hP := hg.2.1
  refine aw_M_of mo_X11_run (by decide) (Nat.le_of_ble_eq_true rfl) ?_
  refine aw_aload_n rfl rfl ?_
  refine aw_iload_n rfl rfl ?_
  refine aw_iV (q0 := 0) (ci := 11) rfl cw_X11_251 rfl rfl rfl (c_X11_isReign hg) rfl rfl (Nat.le_of_ble_eq_true rfl) (by decide) (by decide) (by decide) (by decide) ?_
  refine aw_if_eq (tgt := 27) rfl (by decide) (fun h5 => ?_) (fun h5 => ?_)
  · refine aw_ldcw (v := -1000000) rfl (aw_t4 89 rfl rfl) ?_
    exact aw_iret rfl rfl ⟨s, congrArg (fun x => some (Value.int x)) (by unfold q_run; first | (rw [if_neg (by rw [bB_0.mp h5]; decide)]; done) | (rw [if_pos hk, if_neg (of_decide_eq_false (bB_0.mp h15))]; done) | (rw [if_pos hk, if_pos hT0, if_pos h19]; done) | (rw [if_pos hk, if_pos hT0, if_neg h19, if_neg h24]; done)), rfl, eo_rf⟩
  · have hk : isPc s k = true := bB_n0.mp h5
    obtain ⟨q, hq, rfl⟩ := isPc_nI hg hk
    have h16 := (hg.2.2 q hq).1
    have hclq : cl (nI q) = q := cl_nI (by omega)
    refine aw_aload_n rfl rfl ?_
    refine pg_0_8 rfl kl_X11_57 ?_
    refine aw_iV (q0 := 15) (ci := 8) rfl cw_X11_146 rfl rfl rfl (c_X8_isTold) rfl rfl (Nat.le_of_ble_eq_true rfl) (by decide) (by decide) (by decide) (by decide) ?_
    refine aw_if_eq (tgt := 27) rfl (by decide) (fun h15 => ?_) (fun h15 => ?_)
    · refine aw_ldcw (v := -1000000) rfl (aw_t4 89 rfl rfl) ?_
      exact aw_iret rfl rfl ⟨s, congrArg (fun x => some (Value.int x)) (by unfold q_run; first | (rw [if_neg (by rw [bB_0.mp h5]; decide)]; done) | (rw [if_pos hk, if_neg (of_decide_eq_false (bB_0.mp h15))]; done) | (rw [if_pos hk, if_pos hT0, if_pos h19]; done) | (rw [if_pos hk, if_pos hT0, if_neg h19, if_neg h24]; done)), rfl, eo_rf⟩
    · have hT0 : 0 < s 15 6 := of_decide_eq_true (bB_n0.mp h15)
      refine aw_iload_n rfl rfl ?_
      refine aw_if_lt (tgt := 27) rfl (by decide) (fun h19 => ?_) (fun h19 => ?_)
      · refine aw_ldcw (v := -1000000) rfl (aw_t4 89 rfl rfl) ?_
        exact aw_iret rfl rfl ⟨s, congrArg (fun x => some (Value.int x)) (by unfold q_run; first | (rw [if_neg (by rw [bB_0.mp h5]; decide)]; done) | (rw [if_pos hk, if_neg (of_decide_eq_false (bB_0.mp h15))]; done) | (rw [if_pos hk, if_pos hT0, if_pos h19]; done) | (rw [if_pos hk, if_pos hT0, if_neg h19, if_neg h24]; done)), rfl, eo_rf⟩
      · refine aw_iload_n rfl rfl ?_
        refine aw_iconst (v := 1) rfl (by decide) ?_
        refine aw_icmp_le (tgt := 31) rfl (by decide) (fun h24 => ?_) (fun h24 => ?_)
        · refine aw_aload_n rfl rfl ?_
          refine pg_0_8 rfl kl_X11_57 ?_
          refine aw_vV (q0 := 15) (ci := 8) rfl cw_X11_261 rfl rfl rfl (c_X8_setsAside) rfl rfl (Nat.le_of_ble_eq_true rfl) (by decide) (by decide) (by decide) (by decide) ?_
          refine aw_aload_n rfl rfl ?_
          refine pg_0_8 rfl kl_X11_57 ?_
          refine pg_15_1 rfl kl_X11_149 ?_
          refine aw_iconst (v := 2) rfl (by decide) ?_
          refine pl_16 (j := 2) rfl rfl (by decide) ?_
          refine aw_istore_n rfl (by decide) ?_
          refine aw_aload_n rfl rfl ?_
          refine aw_iload_n rfl rfl ?_
          refine aw_iV (q0 := 0) (ci := 11) rfl cw_X11_254 rfl rfl rfl (c_X11_stepsOf (RGs_mv (s' := cp s 16 17 0 0 36) (n' := n) hg rfl rfl rfl) hq) rfl rfl (Nat.le_of_ble_eq_true rfl) (by decide) (by decide) (by decide) (by decide) ?_
          refine aw_istore rfl (by decide) ?_
          refine aw_iconst (v := 0) rfl (by decide) ?_
          refine aw_istore rfl (by decide) ?_
          have hsv : ∀ s1 : am_S, ∀ f : Nat → Int32, eo skC (upR (cp s 16 17 0 0 36) 16 f) s1 → (∀ j, 36 ≤ j → f j = s 16 j) → eo skH s (cp s1 17 16 0 0 36) := by
            intro s1 f he hf k2 j hkj
            by_cases e16 : k2 = 16
            · subst e16
              show va_cpy (s1 17) (s1 16) 0 0 36 j = s 16 j
              have h17 : s1 17 = va_cpy (s 16) (s 17) 0 0 36 := eo_cell he 17 (fun _ => rfl)
              have h6 : s1 16 = f := eo_cell he 16 (fun _ => rfl)
              by_cases hj : j < 36
              · rw [pk_cpy_in (by omega) (by omega), h17, pk_cpy_in (by omega) (by omega)]; exact congrArg (s 16) (by omega)
              · rw [pk_cpy_out (by omega), h6]; exact hf j (by omega)
            · have hn16 : Nat.beq k2 16 = false := nbeq e16
              have h1 : cp s1 17 16 0 0 36 k2 j = s1 k2 j := by (unfold cp upR; simp only [hn16, cond_false])
              have hn17 : Nat.beq k2 17 = false := by
                cases hz : Nat.beq k2 17 with
                | false => rfl
                | true => rw [Nat.eq_of_beq_eq_true hz] at hkj; exact absurd (show true = false from hkj) Bool.noConfusion
              have hC : skC k2 j = false := by
                unfold skH at hkj
                unfold skC
                simp only [List.contains_cons, List.contains_nil, Bool.or_eq_false_iff] at hkj ⊢
                exact ⟨hkj.1, hkj.2.1, trivial⟩
              rw [h1, he k2 j hC]
              unfold upR cp upR
              simp only [hn16, hn17, cond_false]
          have loop : ∀ (d i : Nat) (f : Nat → Int32) (s1 : am_S), i + d = pL q → eo skC (upR (cp s 16 17 0 0 36) 16 f) s1 → (∀ j, 36 ≤ j → f j = s 16 j) → rcL V s T (pF q) d i f = rcL V s T (pF q) (pL q) 0 (s 16) → aw_W l g mi_X11_run (aw_rm 7 0 0) (aw_Z g (fun r z => ∃ s', r = some (.int (q_run V s T pL pF (nI q) x)) ∧ z = hp g s' n ∧ eo skH s s') 0 0) 0 0 (hp g s1 n) 58 [some (.ref (g_ad g 0)), some (.int (nI q)), some (.int x), some (.int (s 16 2)), some (.int (nI (pL q))), some (.int (nI i)), none] [] := by
            have hend : ∀ (i : Nat) (f : Nat → Int32) (s1 : am_S), i ≤ pL q → eo skC (upR (cp s 16 17 0 0 36) 16 f) s1 → (∀ j, 36 ≤ j → f j = s 16 j) → (i, f) = rcL V s T (pF q) (pL q) 0 (s 16) → aw_W l g mi_X11_run (aw_rm 7 0 0) (aw_Z g (fun r z => ∃ s', r = some (.int (q_run V s T pL pF (nI q) x)) ∧ z = hp g s' n ∧ eo skH s s') 0 0) 0 0 (hp g s1 n) 106 [some (.ref (g_ad g 0)), some (.int (nI q)), some (.int x), some (.int (s 16 2)), some (.int (nI (pL q))), some (.int (nI i)), none] [] := by
              intro i f s1 hi he hf hR
              have h2 : s1 16 2 = f 2 := he 16 2 rfl
              refine aw_aload_n rfl rfl ?_
              refine pg_0_8 rfl kl_X11_57 ?_
              refine pg_15_1 rfl kl_X11_149 ?_
              refine aw_iconst (v := 2) rfl (by decide) ?_
              refine pl_16 (j := 2) rfl rfl (by decide) ?_
              refine aw_iload_n rfl rfl ?_
              refine aw_isub rfl ?_
              refine aw_istore rfl (by decide) ?_
              refine aw_aload_n rfl rfl ?_
              refine pg_0_8 rfl kl_X11_57 ?_
              refine aw_vV (q0 := 15) (ci := 8) rfl cw_X11_264 rfl rfl rfl (c_X8_bringsBack) rfl rfl (Nat.le_of_ble_eq_true rfl) (by decide) (by decide) (by decide) (by decide) ?_
              refine aw_iload_n rfl rfl ?_
              refine aw_iconst (v := 1) rfl (by decide) ?_
              refine aw_icmp_ne (tgt := 134) rfl (by decide) (fun h128 => ?_) (fun h128 => ?_)
              · refine aw_iload rfl rfl ?_
                refine aw_iload rfl rfl ?_
                refine aw_icmp_ne (tgt := 145) rfl (by decide) (fun h138 => ?_) (fun h138 => ?_)
                · refine aw_iload rfl rfl ?_
                  exact aw_iret rfl rfl ⟨_, congrArg (fun x => some (Value.int x)) (by unfold q_run; rw [if_pos hk, if_pos hT0, if_neg h19, if_pos h24, hclq, ← hR]; first | (show _ = if x = 1 then f 2 - s 16 2 else if i = pL q then -1 else nI i; rw [if_pos h128, h2]; done) | (show _ = if x = 1 then f 2 - s 16 2 else if i = pL q then -1 else nI i; rw [if_neg h128, if_pos ((nI_eq (a := i) (b := pL q) (by omega) (by omega)).mp h138)]; done) | (show _ = if x = 1 then f 2 - s 16 2 else if i = pL q then -1 else nI i; rw [if_neg h128, if_neg (fun e => h138 (by rw [e]))]; done)), rfl, hsv s1 f he hf⟩
                · refine aw_iconst (v := -1) rfl (by decide) ?_
                  refine aw_goto (tgt := 147) rfl (by decide) ?_
                  exact aw_iret rfl rfl ⟨_, congrArg (fun x => some (Value.int x)) (by unfold q_run; rw [if_pos hk, if_pos hT0, if_neg h19, if_pos h24, hclq, ← hR]; first | (show _ = if x = 1 then f 2 - s 16 2 else if i = pL q then -1 else nI i; rw [if_pos h128, h2]; done) | (show _ = if x = 1 then f 2 - s 16 2 else if i = pL q then -1 else nI i; rw [if_neg h128, if_pos ((nI_eq (a := i) (b := pL q) (by omega) (by omega)).mp h138)]; done) | (show _ = if x = 1 then f 2 - s 16 2 else if i = pL q then -1 else nI i; rw [if_neg h128, if_neg (fun e => h138 (by rw [e]))]; done)), rfl, hsv s1 f he hf⟩
              · refine aw_iload rfl rfl ?_
                exact aw_iret rfl rfl ⟨_, congrArg (fun x => some (Value.int x)) (by unfold q_run; rw [if_pos hk, if_pos hT0, if_neg h19, if_pos h24, hclq, ← hR]; first | (show _ = if x = 1 then f 2 - s 16 2 else if i = pL q then -1 else nI i; rw [if_pos h128, h2]; done) | (show _ = if x = 1 then f 2 - s 16 2 else if i = pL q then -1 else nI i; rw [if_neg h128, if_pos ((nI_eq (a := i) (b := pL q) (by omega) (by omega)).mp h138)]; done) | (show _ = if x = 1 then f 2 - s 16 2 else if i = pL q then -1 else nI i; rw [if_neg h128, if_neg (fun e => h138 (by rw [e]))]; done)), rfl, hsv s1 f he hf⟩
            intro d
            induction d with
            | zero =>
              intro i f s1 hi he hf hR
              refine aw_iload rfl rfl ?_
              refine aw_iload rfl rfl ?_
              refine aw_icmp_ge (tgt := 106) rfl (by decide) (fun h62 => ?_) (fun h62 => absurd (by rw [show i = pL q by omega]; exact nI_le (Nat.le_refl _) (by omega)) h62)
              exact hend i f s1 (by omega) he hf hR
            | succ d ih =>
              intro i f s1 hi he hf hR
              have heq : eqS s s1 := ⟨fun j => he 15 j rfl, eo_cell he 18 (fun _ => rfl), eo_cell he 19 (fun _ => rfl), eo_cell he 20 (fun _ => rfl)⟩
              have h6 : s1 16 = f := eo_cell he 16 (fun _ => rfl)
              have hb1 : kb s1 T Q := kb_c hb heq
              have hV1 : LawIs l g s1 n V := hV.mv (fun j => he 10 j rfl)
              have hg1 : RGs g s1 n P pL pF := RGs_mv hg (he 0 6 rfl) rfl rfl
              simp only [rcL] at hR
              refine aw_iload rfl rfl ?_
              refine aw_iload rfl rfl ?_
              refine aw_icmp_ge (tgt := 106) rfl (by decide) (fun h62 => absurd h62 (nI_ge (a := i) (b := pL q) (by omega) (by omega))) (fun h62 => ?_)
              refine aw_aload_n rfl rfl ?_
              refine pg_0_8 rfl kl_X11_57 ?_
              refine aw_aload_n rfl rfl ?_
              refine aw_iload_n rfl rfl ?_
              refine aw_iload rfl rfl ?_
              refine aw_iconst (v := 0) rfl (by decide) ?_
              refine aw_iV (q0 := 0) (ci := 11) rfl cw_X11_258 rfl rfl rfl (c_X11_part hg1 (q := q) (i := i) (x := 0) hq (by omega) (by decide)) rfl rfl (Nat.le_of_ble_eq_true rfl) (by decide) (by decide) (by decide) (by decide) ?_
              refine aw_aload_n rfl rfl ?_
              refine aw_iload_n rfl rfl ?_
              refine aw_iload rfl rfl ?_
              refine aw_iconst (v := 1) rfl (by decide) ?_
              refine aw_iV (q0 := 0) (ci := 11) rfl cw_X11_258 rfl rfl rfl (c_X11_part hg1 (q := q) (i := i) (x := 1) hq (by omega) (by decide)) rfl rfl (Nat.le_of_ble_eq_true rfl) (by decide) (by decide) (by decide) (by decide) ?_
              refine aw_aload_n rfl rfl ?_
              refine aw_iload_n rfl rfl ?_
              refine aw_iload rfl rfl ?_
              refine aw_iconst (v := 2) rfl (by decide) ?_
              refine aw_iV (q0 := 0) (ci := 11) rfl cw_X11_258 rfl rfl rfl (c_X11_part hg1 (q := q) (i := i) (x := 2) hq (by omega) (by decide)) rfl rfl (Nat.le_of_ble_eq_true rfl) (by decide) (by decide) (by decide) (by decide) ?_
              refine aw_gV (q0 := 15) (ci := 8) rfl cw_X11_205 rfl rfl rfl (c_X8_acts hb1 hV1) rfl rfl (Nat.le_of_ble_eq_true rfl) (by decide) (by decide) (by decide) (by decide) (fun s2 e2 => ?_)
              have hA : aAct V s1 T (pF q (3 * i + 0)) (pF q (3 * i + 1)) (pF q (3 * i + 2)) = r16 s1 (kAct V s T f (pF q (3 * i)) (pF q (3 * i + 1)) (pF q (3 * i + 2))) := by (rw [aAct_r, kAct_c heq, h6]; rfl)
              rw [hA] at e2 ⊢
              have he2 : eo skC (upR (cp s 16 17 0 0 36) 16 (kAct V s T f (pF q (3 * i)) (pF q (3 * i + 1)) (pF q (3 * i + 2))).2) s2 := eo_16 he e2
              have hf2 : ∀ j, 36 ≤ j → (kAct V s T f (pF q (3 * i)) (pF q (3 * i + 1)) (pF q (3 * i + 2))).2 j = s 16 j := fun j hj => (kAct_hi hb hj).trans (hf j hj)
              refine aw_iconst (v := -1) rfl (by decide) ?_
              refine aw_icmp_eq (tgt := 106) rfl (by decide) (fun h97 => ?_) (fun h97 => ?_)
              · rw [if_pos (show (kAct V s T f (pF q (3 * i)) (pF q (3 * i + 1)) (pF q (3 * i + 2))).1 = -1 from h97)] at hR
                exact hend i _ s2 (by omega) he2 hf2 hR
              · refine aw_inc1 rfl rfl (by decide) ?_
                refine aw_goto (tgt := 58) rfl (by decide) ?_
                rw [if_neg (show ¬ (kAct V s T f (pF q (3 * i)) (pF q (3 * i + 1)) (pF q (3 * i + 2))).1 = -1 from h97)] at hR
                exact aw_wk (ih (i + 1) _ s2 (by omega) he2 hf2 hR) (And.intro rfl (And.intro rfl (And.intro rfl (And.intro rfl (And.intro rfl (And.intro (congrArg (fun x => some (Value.int x)) (nI_1 i)) True.intro))))))
          have h0 := loop (pL q) 0 (s 16) (cp s 16 17 0 0 36) (by omega) (by rw [show upR (cp s 16 17 0 0 36) 16 (s 16) = cp s 16 17 0 0 36 from upR_rf]; exact eo_rf) (fun j _ => rfl) rfl
          exact aw_wk h0 (And.intro rfl (And.intro rfl (And.intro rfl (And.intro rfl (And.intro rfl (And.intro rfl True.intro))))))
        · refine aw_ldcw (v := -1000000) rfl (aw_t4 89 rfl rfl) ?_
          exact aw_iret rfl rfl ⟨s, congrArg (fun x => some (Value.int x)) (by unfold q_run; first | (rw [if_neg (by rw [bB_0.mp h5]; decide)]; done) | (rw [if_pos hk, if_neg (of_decide_eq_false (bB_0.mp h15))]; done) | (rw [if_pos hk, if_pos hT0, if_pos h19]; done) | (rw [if_pos hk, if_pos hT0, if_neg h19, if_neg h24]; done)), rfl, eo_rf⟩
