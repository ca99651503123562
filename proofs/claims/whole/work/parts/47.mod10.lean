/-! the reference: month, lasts, least, spare, harden, thing -/
theorem MC.z0 {l : Launch} {g : ag_G} {MI : am_S → am_N → Prop} {V : (Nat → Int32) → Int32} {s : am_S} {n : am_N} {T Q : Nat} (h : MC l g MI V s n T Q) : MC l g MI V (up s 39 0 0) n T Q :=
  ⟨h.1, h.2.1, h.2.1.2.2.1 s _ n n h.2.2.1 rfl rfl rfl rfl rfl rfl, h.2.2.2⟩
theorem MC.th {l : Launch} {g : ag_G} {MI : am_S → am_N → Prop} {V : (Nat → Int32) → Int32} {s : am_S} {n : am_N} {T Q : Nat} (h : MC l g MI V s n T Q) (v : Int32) : MC l g MI V (up s 39 0 v) n T Q :=
  ⟨h.1, h.2.1, h.2.1.2.2.1 s _ n n h.2.2.1 rfl rfl rfl rfl rfl rfl, h.2.2.2⟩
theorem MC.rem {l : Launch} {g : ag_G} {MI : am_S → am_N → Prop} {V : (Nat → Int32) → Int32} {s : am_S} {n : am_N} {T Q : Nat} (h : MC l g MI V s n T Q) (a : Nat) : MC l g MI V (mRem s a) n T Q :=
  ⟨h.1, h.2.1, h.2.1.2.2.1 s _ n n h.2.2.1 rfl rfl rfl rfl rfl rfl, h.2.2.2⟩
theorem mm_in {x : Int32} {M : Nat} (hM : M < 2 ^ 31) {b : Int64} (hb : b.toInt = M) (h : inn x.toInt64 1 b = true) : ∃ j, j ≤ M ∧ x = nI j := by
  refine inn_nI hM hb ?_
  rw [inn_i (A := 0) (B := M) (by decide) hb]
  rw [inn_i (A := 1) (B := M) (by decide) hb] at h
  simp only [Bool.and_eq_true, decide_eq_true_eq] at h ⊢
  omega
def oM : Option Nat → Int32
  | none => -1
  | some i => nI i
def m_month (V : (Nat → Int32) → Int32) (s : am_S) (T Q G a : Nat) : Int32 × am_S := if s 39 26 = 0 then (-1, s) else if s 52 35 = 9999 then (-1, s) else (bitc (goM V s T Q G (s 52)).1, upR (mRem s a) 52 (goM V s T Q G (s 52)).2)
def m_lasts (V : (Nat → Int32) → Int32) (s : am_S) (t : Int32) : Int32 := if isTm s t = true then (if s 52 (3 * cl t + 1) = 0 then 0 else mnm V s (cl t) 0 0 60) else -1
def ndm (V : (Nat → Int32) → Int32) (s : am_S) (j M : Nat) : Int32 := oM (fs (fun e => decide (mnm V s j 0 (nI e) M = -1)) 0 (10 - cl (s 52 (3 * j + 1))))
def lsL (P : Nat → Bool) (N : Nat → Int32) (th : Int32) : Nat → Nat → Int32 → Int32 → Int32
  | _, 0, a, b => if th = -1 then a else b
  | i, d + 1, a, b => if P i = true then (if N i = -1 then -1 else lsL P N th (i + 1) d (a + N i) (if nI i = th then N i else b)) else lsL P N th (i + 1) d a b
def lsP (s : am_S) (x : Int32) (i : Nat) : Bool := hs x (nI i) && !decide (s 52 (3 * i + 1) = 0)
def m_least (V : (Nat → Int32) → Int32) (s : am_S) (T : Nat) (x m th : Int32) : Int32 := if s 39 26 = 0 then -1 else if inn x.toInt64 1 (bt T - 1).toInt64 = true then (if inn m.toInt64 1 24 = true then (if th = -1 then lsL (lsP s x) (fun i => ndm V s i (cl m)) th 0 T 0 0 else if isTm s th = true then (if hs x th = true then lsL (lsP s x) (fun i => ndm V s i (cl m)) th 0 T 0 0 else -1) else -1) else -1) else -1
def m_spare (V : (Nat → Int32) → Int32) (s : am_S) (t : Int32) : Int32 := if shm s (s 52) t = true then hnm V s (s 52) (cl t) - warm (s 52 32) (s 52 35) else -1000000
def m_harden (V : (Nat → Int32) → Int32) (s : am_S) (t m : Int32) : Int32 := if shm s (s 52) t = true then (if inn m.toInt64 1 24 = true then oM (fs (fun e => decide (mnm V s (cl t) (nI e) 0 (cl m) = -1)) 0 41) else -1) else -1
theorem mnm_m {V : (Nat → Int32) → Int32} {s s' : am_S} (e : eo skM s s') : mnm V s' = mnm V s := by
  funext j h w m
  unfold mnm
  rw [mtm_m e, eo_cell e 46 (fun _ => rfl), eo_cell e 52 (fun _ => rfl)]
theorem ndm_m {V : (Nat → Int32) → Int32} {s s' : am_S} (e : eo skM s s') : ndm V s' = ndm V s := by
  funext j m
  unfold ndm
  rw [mnm_m e, eo_cell e 52 (fun _ => rfl)]
theorem hnm_m {V : (Nat → Int32) → Int32} {s s' : am_S} (e : eo skM s s') : hnm V s' = hnm V s := by
  funext f j
  unfold hnm
  rw [hbm_m e, eo_cell e 46 (fun _ => rfl)]
set_option maxRecDepth 4000 in
theorem c_m_month {l : Launch} {g : ag_G} {s : am_S} {n : am_N} {MI : am_S → am_N → Prop} {V : (Nat → Int32) → Int32} {T Q : Nat} (hC : MC l g MI V s n T Q) (hr : rwb (s 52) T Q) {G a : Nat} (hG : G ≤ 60) (hGe : s 52 36 = nI G) (ha : s 39 39 = nI a) (ha4 : a ≤ 40) : aw_R l g mi_X12_month 103 skM [.ref (g_ad g 39)] s n MI (.int (m_month V (up s 39 0 0) T Q G a).1) ((m_month V (up s 39 0 0) T Q G a).2) := by
  refine aw_R_of mo_X12_month (by decide) (Nat.le_of_ble_eq_true rfl) ?_
  refine aw_aload_n rfl rfl ?_
  refine aw_iconst (v := 0) rfl (by decide) ?_
  refine pp_39_0 rfl kl_X12_96 ?_
  have hC : MC l g MI V (up s 39 0 0) n T Q := hC.z0
  have hr : rwb ((up s 39 0 0) 52) T Q := hr
  have hGe : (up s 39 0 0) 52 36 = nI G := hGe
  have ha : (up s 39 0 0) 39 39 = nI a := ha
  generalize up s 39 0 0 = S at *
  refine aw_aload_n rfl rfl ?_
  refine pg_39_26 rfl kl_X12_291 ?_
  refine aw_if_eq (tgt := 25) rfl (by decide) (fun h9 => ?_) (fun h9 => ?_)
  · refine aw_iconst (v := -1) rfl (by decide) ?_
    rw [show m_month V S T Q G a = (-1, S) from by (unfold m_month; first | (rw [if_pos h9]; done) | (rw [if_neg h9, if_pos h22]; done) | (fail "x"))]
    exact aw_ri rfl rfl rfl eo_rf en_rf hC.2.2.1
  · refine aw_aload_n rfl rfl ?_
    refine pg_39_32 rfl kl_X12_61 ?_
    refine aw_bipush (v := 35) rfl (by decide) ?_
    refine pl_52 (j := 35) rfl rfl (by decide) ?_
    refine aw_sipush (v := 9999) rfl (by decide) ?_
    refine aw_icmp_ne (tgt := 27) rfl (by decide) (fun h22 => ?_) (fun h22 => ?_)
    · refine aw_aload_n rfl rfl ?_
      refine aw_vV (q0 := 39) (ci := 12) rfl cw_X12_359 rfl rfl rfl (c_m_remember ha ha4) rfl rfl (Nat.le_of_ble_eq_true rfl) (by decide) (by decide) (by decide) (by decide) ?_
      refine aw_aload_n rfl rfl ?_
      refine aw_aload_n rfl rfl ?_
      refine pg_39_32 rfl kl_X12_61 ?_
      refine aw_rV (q0 := 39) (ci := 12) rfl cw_X12_362 rfl rfl rfl (c_m_goMonth_52 (s := mRem S a) (G := G) (hC.rem a) hr hG hGe) rfl rfl (Nat.le_of_ble_eq_true rfl) (by decide) (by decide) (by decide) (by decide) (fun s1 n1 e1 f1 m1 => ?_)
      refine aw_iS rfl cw_X12_366 (c_bitCount) rfl rfl (Nat.le_of_ble_eq_true rfl) (by decide) (by decide) (by decide) (by decide) ?_
      rw [show m_month V S T Q G a = (bitc (goM V S T Q G (S 52)).1, upR (mRem S a) 52 (goM V S T Q G (S 52)).2) from by (unfold m_month; rw [if_neg h9, if_neg h22])]
      exact aw_ri rfl rfl rfl e1 f1 m1
    · refine aw_iconst (v := -1) rfl (by decide) ?_
      rw [show m_month V S T Q G a = (-1, S) from by (unfold m_month; first | (rw [if_pos h9]; done) | (rw [if_neg h9, if_pos h22]; done) | (fail "x"))]
      exact aw_ri rfl rfl rfl eo_rf en_rf hC.2.2.1
set_option maxRecDepth 4000 in
theorem c_m_lasts {l : Launch} {g : ag_G} {s : am_S} {n : am_N} {MI : am_S → am_N → Prop} {V : (Nat → Int32) → Int32} {T Q : Nat} (hC : MC l g MI V s n T Q) (hr : rwb (s 52) T Q) {t : Int32} : aw_R l g mi_X12_lasts 104 skM [.ref (g_ad g 39), .int t] s n MI (.int (m_lasts V (up s 39 0 0) t)) ((up s 39 0 0)) := by
  refine aw_R_of mo_X12_lasts (by decide) (Nat.le_of_ble_eq_true rfl) ?_
  refine aw_aload_n rfl rfl ?_
  refine aw_iconst (v := 0) rfl (by decide) ?_
  refine pp_39_0 rfl kl_X12_96 ?_
  have hC : MC l g MI V (up s 39 0 0) n T Q := hC.z0
  have hr : rwb ((up s 39 0 0) 52) T Q := hr
  generalize up s 39 0 0 = S at *
  have hT := hC.1.2.1
  refine aw_aload_n rfl rfl ?_
  refine aw_iload_n rfl rfl ?_
  refine aw_iV (q0 := 39) (ci := 12) rfl cw_X12_346 rfl rfl rfl (c_m_isThing) rfl rfl (Nat.le_of_ble_eq_true rfl) (by decide) (by decide) (by decide) (by decide) ?_
  refine aw_if_ne (tgt := 15) rfl (by decide) (fun h10 => ?_) (fun h10 => ?_)
  · obtain ⟨j, hj, rfl⟩ := isTm_nI hC.1 (bB_n0.mp h10)
    have hcj : cl (nI j) = j := cl_nI (by omega)
    refine aw_aload_n rfl rfl ?_
    refine pg_39_32 rfl kl_X12_61 ?_
    refine aw_iload_n rfl rfl ?_
    refine aw_iS rfl cw_X12_338 (c_m_isOpen_52 (by omega)) rfl rfl (Nat.le_of_ble_eq_true rfl) (by decide) (by decide) (by decide) (by decide) ?_
    refine aw_if_eq (tgt := 30) rfl (by decide) (fun h23 => ?_) (fun h23 => ?_)
    · refine aw_aload_n rfl rfl ?_
      refine aw_iload_n rfl rfl ?_
      refine aw_bipush (v := 60) rfl (by decide) ?_
      refine aw_rV (q0 := 39) (ci := 12) rfl cw_X12_424 rfl rfl rfl (c_m_meltsNow (M := 60) hC hr hj (by decide)) rfl rfl (Nat.le_of_ble_eq_true rfl) (by decide) (by decide) (by decide) (by decide) (fun s1 n1 e1 f1 m1 => ?_)
      first
      | exact aw_ri rfl rfl (by unfold m_lasts; rw [if_pos (bB_n0.mp h10), hcj, if_pos (of_decide_eq_true (bB_n0.mp h23))]) eo_rf en_rf hC.2.2.1
      | exact aw_ri rfl rfl (by unfold m_lasts; rw [if_pos (bB_n0.mp h10), hcj, if_neg (of_decide_eq_false (bB_0.mp h23))]) e1 f1 m1
    · refine aw_iconst (v := 0) rfl (by decide) ?_
      refine aw_goto (tgt := 37) rfl (by decide) ?_
      first
      | exact aw_ri rfl rfl (by unfold m_lasts; rw [if_pos (bB_n0.mp h10), hcj, if_pos (of_decide_eq_true (bB_n0.mp h23))]) eo_rf en_rf hC.2.2.1
      | exact aw_ri rfl rfl (by unfold m_lasts; rw [if_pos (bB_n0.mp h10), hcj, if_neg (of_decide_eq_false (bB_0.mp h23))]) e1 f1 m1
  · refine aw_iconst (v := -1) rfl (by decide) ?_
    rw [show m_lasts V S t = -1 from by (unfold m_lasts; rw [bB_0.mp h10]; rfl)]
    exact aw_ri rfl rfl rfl eo_rf en_rf hC.2.2.1
set_option maxRecDepth 4000 in
theorem c_m_needs {l : Launch} {g : ag_G} {s : am_S} {n : am_N} {MI : am_S → am_N → Prop} {V : (Nat → Int32) → Int32} {T Q : Nat} (hC : MC l g MI V s n T Q) (hr : rwb (s 52) T Q) {j M : Nat} (hj : j < T) (hM : M ≤ 60) : aw_R l g mi_X12_needs 103 skM [.ref (g_ad g 39), .int (nI j), .int (nI M)] s n MI (.int (ndm V s j M)) s := by
  have hT := hC.1.2.1
  obtain ⟨⟨hh, hhl, hhe⟩, dd, hdl, hde⟩ := hC.2.2.2 j hj
  obtain ⟨⟨u, hul, hue⟩, D, hDl, hDe⟩ := hr.1 j hj
  have hcD : cl (s 52 (3 * j + 1)) = D := by rw [hDe]; exact cl_nI (by omega)
  have hXX : oM (fs (fun e => decide (mnm V s j 0 (nI e) M = -1)) 0 (10 - D)) = ndm V s j M := by unfold ndm; rw [hcD]
  generalize ndm V s j M = X at hXX ⊢
  have loop : ∀ (d i : Nat) (s1 : am_S) (n1 : am_N), i + d = 10 - D → eo skM s s1 → en n n1 → MI s1 n1 → oM (fs (fun e => decide (mnm V s j 0 (nI e) M = -1)) i d) = X → aw_W l g mi_X12_needs (aw_rm 103 0 0) (aw_Z g (fun r w => ∃ s' n', r = some (.int X) ∧ w = hp g s' n' ∧ eo skM s s' ∧ en n n' ∧ MI s' n') 0 0) 0 0 (hp g s1 n1) 2 [some (.ref (g_ad g 39)), some (.int (nI j)), some (.int (nI M)), some (.int (nI i))] [] := by
    intro d
    induction d with
    | zero =>
      intro i s1 n1 hi e1 f1 m1 hX
      have hDe1 : s1 52 (3 * j + 1) = nI D := by rw [eo_cell e1 52 (fun _ => rfl)]; exact hDe
      refine aw_aload_n rfl rfl ?_
      refine pg_39_32 rfl kl_X12_61 ?_
      refine aw_iconst (v := 3) rfl (by decide) ?_
      refine aw_iload_n rfl rfl ?_
      refine aw_imul rfl ?_
      refine aw_iconst (v := 1) rfl (by decide) ?_
      refine aw_iadd rfl ?_
      refine pl_52 rfl (i3 j 1) (by omega) ?_
      refine aw_iload_n rfl rfl ?_
      refine aw_iadd rfl ?_
      refine aw_bipush (v := 9) rfl (by decide) ?_
      refine aw_icmp_gt (tgt := 65) rfl (by decide) (fun h16 => ?_) (fun h16 => absurd (by rw [hDe1, nI_add]; exact (nI_ltI (a := 9) (by decide) (by omega)).mpr (by omega)) h16)
      refine aw_iconst (v := -1) rfl (by decide) ?_
      exact aw_ri rfl rfl hX e1 f1 m1
    | succ d ih =>
      intro i s1 n1 hi e1 f1 m1 hX
      have hC1 := hC.eo e1 m1
      have e52 : s1 52 = s 52 := eo_cell e1 52 (fun _ => rfl)
      have hr1 : rwb (s1 52) T Q := by rw [e52]; exact hr
      have hDe1 : s1 52 (3 * j + 1) = nI D := by rw [e52]; exact hDe
      have hue1 : s1 52 (3 * j) = nI u := by rw [e52]; exact hue
      have hhe1 : s1 46 (5 * j + 1) = nI hh := by rw [eo_cell e1 46 (fun _ => rfl)]; exact hhe
      have hmm : mnm V s1 j 0 (nI i) M = mnm V s j 0 (nI i) M := by rw [mnm_m e1]
      refine aw_aload_n rfl rfl ?_
      refine pg_39_32 rfl kl_X12_61 ?_
      refine aw_iconst (v := 3) rfl (by decide) ?_
      refine aw_iload_n rfl rfl ?_
      refine aw_imul rfl ?_
      refine aw_iconst (v := 1) rfl (by decide) ?_
      refine aw_iadd rfl ?_
      refine pl_52 rfl (i3 j 1) (by omega) ?_
      refine aw_iload_n rfl rfl ?_
      refine aw_iadd rfl ?_
      refine aw_bipush (v := 9) rfl (by decide) ?_
      refine aw_icmp_gt (tgt := 65) rfl (by decide) (fun h16 => absurd h16 (by rw [hDe1, nI_add]; exact Int32.not_lt.mpr (nI_le (b := 9) (by omega) (by decide)))) (fun h16 => ?_)
      refine aw_aload_n rfl rfl ?_
      refine aw_iload_n rfl rfl ?_
      refine aw_aload_n rfl rfl ?_
      refine aw_iload_n rfl rfl ?_
      refine aw_iconst (v := 1) rfl (by decide) ?_
      refine aw_iV (q0 := 39) (ci := 12) rfl cw_X12_319 rfl rfl rfl (c_m_of (j := j) (c := 1) (by omega) (by decide)) rfl rfl (Nat.le_of_ble_eq_true rfl) (by decide) (by decide) (by decide) (by decide) ?_
      refine aw_aload_n rfl rfl ?_
      refine pg_39_32 rfl kl_X12_61 ?_
      refine aw_iconst (v := 3) rfl (by decide) ?_
      refine aw_iload_n rfl rfl ?_
      refine aw_imul rfl ?_
      refine aw_iconst (v := 1) rfl (by decide) ?_
      refine aw_iadd rfl ?_
      refine pl_52 rfl (i3 j 1) (by omega) ?_
      refine aw_iload_n rfl rfl ?_
      refine aw_iadd rfl ?_
      refine aw_aload_n rfl rfl ?_
      refine pg_39_32 rfl kl_X12_61 ?_
      refine aw_iconst (v := 3) rfl (by decide) ?_
      refine aw_iload_n rfl rfl ?_
      refine aw_imul rfl ?_
      refine aw_iconst (v := 0) rfl (by decide) ?_
      refine aw_iadd rfl ?_
      refine pl_52 rfl (i3 j 0) (by omega) ?_
      refine aw_iload_n rfl rfl ?_
      refine aw_rV (q0 := 39) (ci := 12) rfl cw_X12_335 rfl rfl rfl ((show aw_R l g mi_X12_meltsIn 102 skM [.ref (g_ad g 39), .int (nI j), .int (s1 46 (5 * j + 1)), .int (s1 52 (3 * j + 1) + nI i), .int (s1 52 (3 * j)), .int (nI M)] s1 n1 MI (.int (mnm V s1 j 0 (nI i) M)) s1 from by (unfold mnm; rw [hhe1, hue1, hDe1, Int32.add_zero, nI_add]; exact c_m_meltsIn hC1 hr1 hj (by omega) (by omega) (by omega) hM))) rfl rfl (Nat.le_of_ble_eq_true rfl) (by decide) (by decide) (by decide) (by decide) (fun s2 n2 e2 f2 m2 => ?_)
      refine aw_iconst (v := -1) rfl (by decide) ?_
      refine aw_icmp_ne (tgt := 59) rfl (by decide) (fun h54 => ?_) (fun h54 => ?_)
      · refine aw_inc1 rfl rfl (by decide) ?_
        refine aw_goto (tgt := 2) rfl (by decide) ?_
        exact aw_wk (ih (i + 1) s2 n2 (by omega) (eo_tr e1 e2) (en_tr f1 f2) m2 (by rw [← hX]; simp only [fs]; rw [if_neg (fun z => h54 (hmm.trans (of_decide_eq_true z)))])) (And.intro rfl (And.intro rfl (And.intro rfl (And.intro (congrArg (fun x => some (Value.int x)) (nI_1 i)) True.intro))))
      · refine aw_iload_n rfl rfl ?_
        exact aw_ri rfl rfl (by rw [← hX]; simp only [fs]; rw [if_pos (decide_eq_true (hmm.symm.trans h54))]; rfl) (eo_tr e1 e2) (en_tr f1 f2) m2
  refine aw_R_of mo_X12_needs (by decide) (Nat.le_of_ble_eq_true rfl) ?_
  refine aw_iconst (v := 0) rfl (by decide) ?_
  refine aw_istore_n rfl (by decide) ?_
  exact aw_wk (loop (10 - D) 0 s n (by omega) eo_rf en_rf hC.2.2.1 hXX) (And.intro rfl (And.intro rfl (And.intro rfl (And.intro rfl True.intro))))
set_option maxRecDepth 4000 in
theorem c_m_isMonths {l : Launch} {g : ag_G} {s : am_S} {n : am_N} {t : Int32} : aw_F l g mi_X12_isMonths 1 [.int t] (hp g s n) (.int (bB (inn t.toInt64 1 24))) (hp g s n) := by
  refine aw_F_of mo_X12_isMonths (by decide) (Nat.le_of_ble_eq_true rfl) ?_
  refine aw_iload_n rfl rfl ?_
  refine aw_i2l rfl ?_
  refine aw_lconst (v := 1) rfl (by decide) ?_
  refine aw_ldc2 (v := 24) rfl (aw_t8 34 rfl rfl) ?_
  refine aw_iS rfl cw_X12_217 (c_m_isIn) rfl rfl (Nat.le_of_ble_eq_true rfl) (by decide) (by decide) (by decide) (by decide) ?_
  exact aw_fz rfl rfl (by first | exact Or.inl rfl | exact Or.inr rfl | exact bB_01) rfl rfl
set_option maxRecDepth 4000 in
theorem c_m_least {l : Launch} {g : ag_G} {s : am_S} {n : am_N} {MI : am_S → am_N → Prop} {V : (Nat → Int32) → Int32} {T Q : Nat} (hC : MC l g MI V s n T Q) (hr : rwb (s 52) T Q) {x m th : Int32} : aw_R l g mi_X12_least 104 skM [.ref (g_ad g 39), .int x, .int m, .int th] s n MI (.int (m_least V (up s 39 0 0) T x m th)) ((up s 39 0 0)) := by
  refine aw_R_of mo_X12_least (by decide) (Nat.le_of_ble_eq_true rfl) ?_
  refine aw_aload_n rfl rfl ?_
  refine aw_iconst (v := 0) rfl (by decide) ?_
  refine pp_39_0 rfl kl_X12_96 ?_
  have hC : MC l g MI V (up s 39 0 0) n T Q := hC.z0
  have hr : rwb ((up s 39 0 0) 52) T Q := hr
  generalize up s 39 0 0 = S at *
  have hT := hC.1.2.1
  have hTe := hC.1.1
  have loop : ∀ (X : Int32) (M : Nat), M ≤ 24 → m = nI M → ∀ (d i : Nat) (s1 : am_S) (n1 : am_N) (a b : Int32), i + d = T → eo skM S s1 → en n n1 → MI s1 n1 → lsL (lsP S x) (fun i => ndm V S i M) th i d a b = X → aw_W l g mi_X12_least (aw_rm 104 0 0) (aw_Z g (fun r w => ∃ s' n', r = some (.int X) ∧ w = hp g s' n' ∧ eo skM S s' ∧ en n n' ∧ MI s' n') 0 0) 0 0 (hp g s1 n1) 69 [some (.ref (g_ad g 39)), some (.int x), some (.int m), some (.int th), some (.int a), some (.int b), some (.int (nI i)), none] [] := by
    intro X M hM hm d
    induction d with
    | zero =>
      intro i s1 n1 a b hi e1 f1 m1 hX
      have hT1 : s1 39 26 = nI T := (e1 39 26 rfl).trans hTe
      refine aw_iload rfl rfl ?_
      refine aw_aload_n rfl rfl ?_
      refine pg_39_26 rfl kl_X12_291 ?_
      refine aw_icmp_ge (tgt := 142) rfl (by decide) (fun h75 => ?_) (fun h75 => absurd (by rw [hT1]; exact nI_le (by omega) (by omega)) h75)
      refine aw_iload_n rfl rfl ?_
      refine aw_iconst (v := -1) rfl (by decide) ?_
      refine aw_icmp_ne (tgt := 152) rfl (by decide) (fun h144 => ?_) (fun h144 => ?_)
      · refine aw_iload rfl rfl ?_
        first
        | exact aw_ri rfl rfl (by rw [← hX]; simp only [lsL]; rw [if_pos h144]) e1 f1 m1
        | exact aw_ri rfl rfl (by rw [← hX]; simp only [lsL]; rw [if_neg h144]) e1 f1 m1
      · refine aw_iload rfl rfl ?_
        refine aw_goto (tgt := 154) rfl (by decide) ?_
        first
        | exact aw_ri rfl rfl (by rw [← hX]; simp only [lsL]; rw [if_pos h144]) e1 f1 m1
        | exact aw_ri rfl rfl (by rw [← hX]; simp only [lsL]; rw [if_neg h144]) e1 f1 m1
    | succ d ih =>
      intro i s1 n1 a b hi e1 f1 m1 hX
      have hT1 : s1 39 26 = nI T := (e1 39 26 rfl).trans hTe
      have hC1 := hC.eo e1 m1
      have e52 : s1 52 = S 52 := eo_cell e1 52 (fun _ => rfl)
      have hr1 : rwb (s1 52) T Q := by rw [e52]; exact hr
      have hN : ndm V s1 i M = ndm V S i M := by rw [ndm_m e1]
      simp only [lsL] at hX
      refine aw_iload rfl rfl ?_
      refine aw_aload_n rfl rfl ?_
      refine pg_39_26 rfl kl_X12_291 ?_
      refine aw_icmp_ge (tgt := 142) rfl (by decide) (fun h75 => absurd h75 (by rw [hT1]; exact nI_ge (by omega) (by omega))) (fun h75 => ?_)
      refine aw_iload_n rfl rfl ?_
      refine aw_iload rfl rfl ?_
      refine aw_iS rfl cw_X12_229 (c_m_has) rfl rfl (Nat.le_of_ble_eq_true rfl) (by decide) (by decide) (by decide) (by decide) ?_
      refine aw_if_eq (tgt := 136) rfl (by decide) (fun h84 => ?_) (fun h84 => ?_)
      · refine aw_inc1 rfl rfl (by decide) ?_
        refine aw_goto (tgt := 69) rfl (by decide) ?_
        first
        | exact aw_wk (ih (i + 1) s1 n1 a b (by omega) e1 f1 m1 (by have hpp : lsP S x i = false := (by unfold lsP; first | (rw [bB_0.mp h84]; rfl) | (rw [bB_n0.mp h84]; have := bB_n0.mp h96; rw [e52] at this; exact congrArg (fun z => true && !z) this)); rw [hpp] at hX; exact hX)) (And.intro rfl (And.intro rfl (And.intro rfl (And.intro rfl (And.intro rfl (And.intro rfl (And.intro (congrArg (fun x => some (Value.int x)) (nI_1 i)) True.intro)))))))
        | exact aw_wk (ih (i + 1) s2 n2 _ _ (by omega) (eo_tr e1 e2) (en_tr f1 f2) m2 (by rw [if_neg h114, if_pos h129] at hX; exact hX)) (And.intro rfl (And.intro rfl (And.intro rfl (And.intro rfl (And.intro rfl (And.intro rfl (And.intro (congrArg (fun x => some (Value.int x)) (nI_1 i)) True.intro)))))))
        | exact aw_wk (ih (i + 1) s2 n2 _ _ (by omega) (eo_tr e1 e2) (en_tr f1 f2) m2 (by rw [if_neg h114, if_neg h129] at hX; exact hX)) (And.intro rfl (And.intro rfl (And.intro rfl (And.intro rfl (And.intro rfl (And.intro rfl (And.intro (congrArg (fun x => some (Value.int x)) (nI_1 i)) True.intro)))))))
        | fail "x"
      · refine aw_aload_n rfl rfl ?_
        refine pg_39_32 rfl kl_X12_61 ?_
        refine aw_iload rfl rfl ?_
        refine aw_iS rfl cw_X12_338 (c_m_isOpen_52 (j := i) (by omega)) rfl rfl (Nat.le_of_ble_eq_true rfl) (by decide) (by decide) (by decide) (by decide) ?_
        refine aw_if_eq (tgt := 102) rfl (by decide) (fun h96 => ?_) (fun h96 => ?_)
        · have hpp : lsP S x i = true := by (unfold lsP; rw [bB_n0.mp h84]; have := bB_0.mp h96; rw [e52] at this; exact congrArg (fun z => true && !z) this)
          rw [if_pos hpp] at hX
          refine aw_aload_n rfl rfl ?_
          refine aw_iload rfl rfl ?_
          refine aw_iload_n rfl rfl ?_
          refine aw_rV (q0 := 39) (ci := 12) rfl cw_X12_432 rfl rfl rfl ((show aw_R l g mi_X12_needs 103 skM [.ref (g_ad g 39), .int (nI i), .int m] s1 n1 MI (.int (ndm V S i M)) s1 from by (rw [← hN, hm]; exact c_m_needs hC1 hr1 (by omega) (by omega)))) rfl rfl (Nat.le_of_ble_eq_true rfl) (by decide) (by decide) (by decide) (by decide) (fun s2 n2 e2 f2 m2 => ?_)
          refine aw_istore rfl (by decide) ?_
          refine aw_iload rfl rfl ?_
          refine aw_iconst (v := -1) rfl (by decide) ?_
          refine aw_icmp_ne (tgt := 119) rfl (by decide) (fun h114 => ?_) (fun h114 => ?_)
          · refine aw_iload rfl rfl ?_
            refine aw_iload rfl rfl ?_
            refine aw_iadd rfl ?_
            refine aw_istore rfl (by decide) ?_
            refine aw_iload rfl rfl ?_
            refine aw_iload_n rfl rfl ?_
            refine aw_icmp_ne (tgt := 136) rfl (by decide) (fun h129 => ?_) (fun h129 => ?_)
            · refine aw_inc1 rfl rfl (by decide) ?_
              refine aw_goto (tgt := 69) rfl (by decide) ?_
              first
              | exact aw_wk (ih (i + 1) s1 n1 a b (by omega) e1 f1 m1 (by have hpp : lsP S x i = false := (by unfold lsP; first | (rw [bB_0.mp h84]; rfl) | (rw [bB_n0.mp h84]; have := bB_n0.mp h96; rw [e52] at this; exact congrArg (fun z => true && !z) this)); rw [hpp] at hX; exact hX)) (And.intro rfl (And.intro rfl (And.intro rfl (And.intro rfl (And.intro rfl (And.intro rfl (And.intro (congrArg (fun x => some (Value.int x)) (nI_1 i)) True.intro)))))))
              | exact aw_wk (ih (i + 1) s2 n2 _ _ (by omega) (eo_tr e1 e2) (en_tr f1 f2) m2 (by rw [if_neg h114, if_pos h129] at hX; exact hX)) (And.intro rfl (And.intro rfl (And.intro rfl (And.intro rfl (And.intro rfl (And.intro rfl (And.intro (congrArg (fun x => some (Value.int x)) (nI_1 i)) True.intro)))))))
              | exact aw_wk (ih (i + 1) s2 n2 _ _ (by omega) (eo_tr e1 e2) (en_tr f1 f2) m2 (by rw [if_neg h114, if_neg h129] at hX; exact hX)) (And.intro rfl (And.intro rfl (And.intro rfl (And.intro rfl (And.intro rfl (And.intro rfl (And.intro (congrArg (fun x => some (Value.int x)) (nI_1 i)) True.intro)))))))
              | fail "x"
            · refine aw_iload rfl rfl ?_
              refine aw_istore rfl (by decide) ?_
              refine aw_inc1 rfl rfl (by decide) ?_
              refine aw_goto (tgt := 69) rfl (by decide) ?_
              first
              | exact aw_wk (ih (i + 1) s1 n1 a b (by omega) e1 f1 m1 (by have hpp : lsP S x i = false := (by unfold lsP; first | (rw [bB_0.mp h84]; rfl) | (rw [bB_n0.mp h84]; have := bB_n0.mp h96; rw [e52] at this; exact congrArg (fun z => true && !z) this)); rw [hpp] at hX; exact hX)) (And.intro rfl (And.intro rfl (And.intro rfl (And.intro rfl (And.intro rfl (And.intro rfl (And.intro (congrArg (fun x => some (Value.int x)) (nI_1 i)) True.intro)))))))
              | exact aw_wk (ih (i + 1) s2 n2 _ _ (by omega) (eo_tr e1 e2) (en_tr f1 f2) m2 (by rw [if_neg h114, if_pos h129] at hX; exact hX)) (And.intro rfl (And.intro rfl (And.intro rfl (And.intro rfl (And.intro rfl (And.intro rfl (And.intro (congrArg (fun x => some (Value.int x)) (nI_1 i)) True.intro)))))))
              | exact aw_wk (ih (i + 1) s2 n2 _ _ (by omega) (eo_tr e1 e2) (en_tr f1 f2) m2 (by rw [if_neg h114, if_neg h129] at hX; exact hX)) (And.intro rfl (And.intro rfl (And.intro rfl (And.intro rfl (And.intro rfl (And.intro rfl (And.intro (congrArg (fun x => some (Value.int x)) (nI_1 i)) True.intro)))))))
              | fail "x"
          · refine aw_iconst (v := -1) rfl (by decide) ?_
            exact aw_ri rfl rfl (by rw [if_pos h114] at hX; exact hX) (eo_tr e1 e2) (en_tr f1 f2) m2
        · refine aw_goto (tgt := 136) rfl (by decide) ?_
          refine aw_inc1 rfl rfl (by decide) ?_
          refine aw_goto (tgt := 69) rfl (by decide) ?_
          first
          | exact aw_wk (ih (i + 1) s1 n1 a b (by omega) e1 f1 m1 (by have hpp : lsP S x i = false := (by unfold lsP; first | (rw [bB_0.mp h84]; rfl) | (rw [bB_n0.mp h84]; have := bB_n0.mp h96; rw [e52] at this; exact congrArg (fun z => true && !z) this)); rw [hpp] at hX; exact hX)) (And.intro rfl (And.intro rfl (And.intro rfl (And.intro rfl (And.intro rfl (And.intro rfl (And.intro (congrArg (fun x => some (Value.int x)) (nI_1 i)) True.intro)))))))
          | exact aw_wk (ih (i + 1) s2 n2 _ _ (by omega) (eo_tr e1 e2) (en_tr f1 f2) m2 (by rw [if_neg h114, if_pos h129] at hX; exact hX)) (And.intro rfl (And.intro rfl (And.intro rfl (And.intro rfl (And.intro rfl (And.intro rfl (And.intro (congrArg (fun x => some (Value.int x)) (nI_1 i)) True.intro)))))))
          | exact aw_wk (ih (i + 1) s2 n2 _ _ (by omega) (eo_tr e1 e2) (en_tr f1 f2) m2 (by rw [if_neg h114, if_neg h129] at hX; exact hX)) (And.intro rfl (And.intro rfl (And.intro rfl (And.intro rfl (And.intro rfl (And.intro rfl (And.intro (congrArg (fun x => some (Value.int x)) (nI_1 i)) True.intro)))))))
          | fail "x"
  refine aw_aload_n rfl rfl ?_
  refine pg_39_26 rfl kl_X12_291 ?_
  refine aw_if_eq (tgt := 58) rfl (by decide) (fun h9 => ?_) (fun h9 => ?_)
  · refine aw_iconst (v := -1) rfl (by decide) ?_
    refine aw_ri rfl rfl ?_ eo_rf en_rf hC.2.2.1
    unfold m_least
    first
      | (rw [if_pos h9]; done)
      | (rw [if_neg h9, if_neg (by have := bB_0.mp h27; rw [hTe] at this; rw [show inn x.toInt64 1 (bt T - 1).toInt64 = false from this]; exact Bool.false_ne_true)]; done)
      | (rw [if_neg h9, if_pos q1, if_neg (by rw [bB_0.mp h34]; exact Bool.false_ne_true)]; done)
      | (rw [if_neg h9, if_pos q1, if_pos (bB_n0.mp h34), if_neg h39, if_neg (by rw [bB_0.mp h47]; exact Bool.false_ne_true)]; done)
      | (rw [if_neg h9, if_pos q1, if_pos (bB_n0.mp h34), if_neg h39, if_pos (bB_n0.mp h47), if_neg (by rw [bB_0.mp h55]; exact Bool.false_ne_true)]; done)
      | fail "x"
  · refine aw_iload_n rfl rfl ?_
    refine aw_i2l rfl ?_
    refine aw_lconst (v := 1) rfl (by decide) ?_
    refine aw_iconst (v := 1) rfl (by decide) ?_
    refine aw_aload_n rfl rfl ?_
    refine pg_39_26 rfl kl_X12_291 ?_
    refine aw_ishl rfl ?_
    refine aw_iconst (v := 1) rfl (by decide) ?_
    refine aw_isub rfl ?_
    refine aw_i2l rfl ?_
    refine aw_iS rfl cw_X12_217 (c_m_isIn) rfl rfl (Nat.le_of_ble_eq_true rfl) (by decide) (by decide) (by decide) (by decide) ?_
    refine aw_if_eq (tgt := 58) rfl (by decide) (fun h27 => ?_) (fun h27 => ?_)
    · refine aw_iconst (v := -1) rfl (by decide) ?_
      refine aw_ri rfl rfl ?_ eo_rf en_rf hC.2.2.1
      unfold m_least
      first
        | (rw [if_pos h9]; done)
        | (rw [if_neg h9, if_neg (by have := bB_0.mp h27; rw [hTe] at this; rw [show inn x.toInt64 1 (bt T - 1).toInt64 = false from this]; exact Bool.false_ne_true)]; done)
        | (rw [if_neg h9, if_pos q1, if_neg (by rw [bB_0.mp h34]; exact Bool.false_ne_true)]; done)
        | (rw [if_neg h9, if_pos q1, if_pos (bB_n0.mp h34), if_neg h39, if_neg (by rw [bB_0.mp h47]; exact Bool.false_ne_true)]; done)
        | (rw [if_neg h9, if_pos q1, if_pos (bB_n0.mp h34), if_neg h39, if_pos (bB_n0.mp h47), if_neg (by rw [bB_0.mp h55]; exact Bool.false_ne_true)]; done)
        | fail "x"
    · have q1 : inn x.toInt64 1 (bt T - 1).toInt64 = true := by (have := bB_n0.mp h27; rw [hTe] at this; exact this)
      refine aw_iload_n rfl rfl ?_
      refine aw_iS rfl cw_X12_429 (c_m_isMonths) rfl rfl (Nat.le_of_ble_eq_true rfl) (by decide) (by decide) (by decide) (by decide) ?_
      refine aw_if_eq (tgt := 58) rfl (by decide) (fun h34 => ?_) (fun h34 => ?_)
      · refine aw_iconst (v := -1) rfl (by decide) ?_
        refine aw_ri rfl rfl ?_ eo_rf en_rf hC.2.2.1
        unfold m_least
        first
          | (rw [if_pos h9]; done)
          | (rw [if_neg h9, if_neg (by have := bB_0.mp h27; rw [hTe] at this; rw [show inn x.toInt64 1 (bt T - 1).toInt64 = false from this]; exact Bool.false_ne_true)]; done)
          | (rw [if_neg h9, if_pos q1, if_neg (by rw [bB_0.mp h34]; exact Bool.false_ne_true)]; done)
          | (rw [if_neg h9, if_pos q1, if_pos (bB_n0.mp h34), if_neg h39, if_neg (by rw [bB_0.mp h47]; exact Bool.false_ne_true)]; done)
          | (rw [if_neg h9, if_pos q1, if_pos (bB_n0.mp h34), if_neg h39, if_pos (bB_n0.mp h47), if_neg (by rw [bB_0.mp h55]; exact Bool.false_ne_true)]; done)
          | fail "x"
      · obtain ⟨M, hM, hm⟩ := mm_in (M := 24) (by decide) (by decide) (bB_n0.mp h34)
        have hcm : cl m = M := by rw [hm]; exact cl_nI (by omega)
        refine aw_iload_n rfl rfl ?_
        refine aw_iconst (v := -1) rfl (by decide) ?_
        refine aw_icmp_eq (tgt := 60) rfl (by decide) (fun h39 => ?_) (fun h39 => ?_)
        · refine aw_iconst (v := 0) rfl (by decide) ?_
          refine aw_istore rfl (by decide) ?_
          refine aw_iconst (v := 0) rfl (by decide) ?_
          refine aw_istore rfl (by decide) ?_
          refine aw_iconst (v := 0) rfl (by decide) ?_
          refine aw_istore rfl (by decide) ?_
          refine aw_wk (loop _ M hM hm T 0 S n 0 0 (by omega) eo_rf en_rf hC.2.2.1 ?_) (And.intro rfl (And.intro rfl (And.intro rfl (And.intro rfl (And.intro rfl (And.intro rfl (And.intro rfl True.intro)))))))
          unfold m_least
          rw [if_neg h9, if_pos q1, if_pos (bB_n0.mp h34), hcm]
          first | (rw [if_pos h39]; done) | (rw [if_neg h39, if_pos (bB_n0.mp h47), if_pos (bB_n0.mp h55)]; done) | fail "x"
        · refine aw_aload_n rfl rfl ?_
          refine aw_iload_n rfl rfl ?_
          refine aw_iV (q0 := 39) (ci := 12) rfl cw_X12_346 rfl rfl rfl (c_m_isThing) rfl rfl (Nat.le_of_ble_eq_true rfl) (by decide) (by decide) (by decide) (by decide) ?_
          refine aw_if_eq (tgt := 58) rfl (by decide) (fun h47 => ?_) (fun h47 => ?_)
          · refine aw_iconst (v := -1) rfl (by decide) ?_
            refine aw_ri rfl rfl ?_ eo_rf en_rf hC.2.2.1
            unfold m_least
            first
              | (rw [if_pos h9]; done)
              | (rw [if_neg h9, if_neg (by have := bB_0.mp h27; rw [hTe] at this; rw [show inn x.toInt64 1 (bt T - 1).toInt64 = false from this]; exact Bool.false_ne_true)]; done)
              | (rw [if_neg h9, if_pos q1, if_neg (by rw [bB_0.mp h34]; exact Bool.false_ne_true)]; done)
              | (rw [if_neg h9, if_pos q1, if_pos (bB_n0.mp h34), if_neg h39, if_neg (by rw [bB_0.mp h47]; exact Bool.false_ne_true)]; done)
              | (rw [if_neg h9, if_pos q1, if_pos (bB_n0.mp h34), if_neg h39, if_pos (bB_n0.mp h47), if_neg (by rw [bB_0.mp h55]; exact Bool.false_ne_true)]; done)
              | fail "x"
          · refine aw_iload_n rfl rfl ?_
            refine aw_iload_n rfl rfl ?_
            refine aw_iS rfl cw_X12_229 (c_m_has) rfl rfl (Nat.le_of_ble_eq_true rfl) (by decide) (by decide) (by decide) (by decide) ?_
            refine aw_if_ne (tgt := 60) rfl (by decide) (fun h55 => ?_) (fun h55 => ?_)
            · refine aw_iconst (v := 0) rfl (by decide) ?_
              refine aw_istore rfl (by decide) ?_
              refine aw_iconst (v := 0) rfl (by decide) ?_
              refine aw_istore rfl (by decide) ?_
              refine aw_iconst (v := 0) rfl (by decide) ?_
              refine aw_istore rfl (by decide) ?_
              refine aw_wk (loop _ M hM hm T 0 S n 0 0 (by omega) eo_rf en_rf hC.2.2.1 ?_) (And.intro rfl (And.intro rfl (And.intro rfl (And.intro rfl (And.intro rfl (And.intro rfl (And.intro rfl True.intro)))))))
              unfold m_least
              rw [if_neg h9, if_pos q1, if_pos (bB_n0.mp h34), hcm]
              first | (rw [if_pos h39]; done) | (rw [if_neg h39, if_pos (bB_n0.mp h47), if_pos (bB_n0.mp h55)]; done) | fail "x"
            · refine aw_iconst (v := -1) rfl (by decide) ?_
              refine aw_ri rfl rfl ?_ eo_rf en_rf hC.2.2.1
              unfold m_least
              first
                | (rw [if_pos h9]; done)
                | (rw [if_neg h9, if_neg (by have := bB_0.mp h27; rw [hTe] at this; rw [show inn x.toInt64 1 (bt T - 1).toInt64 = false from this]; exact Bool.false_ne_true)]; done)
                | (rw [if_neg h9, if_pos q1, if_neg (by rw [bB_0.mp h34]; exact Bool.false_ne_true)]; done)
                | (rw [if_neg h9, if_pos q1, if_pos (bB_n0.mp h34), if_neg h39, if_neg (by rw [bB_0.mp h47]; exact Bool.false_ne_true)]; done)
                | (rw [if_neg h9, if_pos q1, if_pos (bB_n0.mp h34), if_neg h39, if_pos (bB_n0.mp h47), if_neg (by rw [bB_0.mp h55]; exact Bool.false_ne_true)]; done)
                | fail "x"
set_option maxRecDepth 4000 in
theorem c_m_spare {l : Launch} {g : ag_G} {s : am_S} {n : am_N} {MI : am_S → am_N → Prop} {V : (Nat → Int32) → Int32} {T Q : Nat} (hC : MC l g MI V s n T Q) (hr : rwb (s 52) T Q) {t : Int32} : aw_R l g mi_X12_spare 104 skM [.ref (g_ad g 39), .int t] s n MI (.int (m_spare V (up s 39 0 0) t)) ((up s 39 0 0)) := by
  refine aw_R_of mo_X12_spare (by decide) (Nat.le_of_ble_eq_true rfl) ?_
  refine aw_aload_n rfl rfl ?_
  refine aw_iconst (v := 0) rfl (by decide) ?_
  refine pp_39_0 rfl kl_X12_96 ?_
  have hC : MC l g MI V (up s 39 0 0) n T Q := hC.z0
  have hr : rwb ((up s 39 0 0) 52) T Q := hr
  generalize up s 39 0 0 = S at *
  have hT := hC.1.2.1
  refine aw_aload_n rfl rfl ?_
  refine aw_aload_n rfl rfl ?_
  refine pg_39_32 rfl kl_X12_61 ?_
  refine aw_iload_n rfl rfl ?_
  refine aw_iV (q0 := 39) (ci := 12) rfl cw_X12_379 rfl rfl rfl (c_m_isShut_52 hC.1) rfl rfl (Nat.le_of_ble_eq_true rfl) (by decide) (by decide) (by decide) (by decide) ?_
  refine aw_if_eq (tgt := 47) rfl (by decide) (fun h14 => ?_) (fun h14 => ?_)
  · refine aw_ldcw (v := -1000000) rfl (aw_t7 227 rfl rfl) ?_
    first
    | exact aw_ri rfl rfl (by unfold m_spare; rw [if_neg (by rw [bB_0.mp h14]; exact Bool.false_ne_true)]) eo_rf en_rf hC.2.2.1
    | exact aw_ri rfl rfl (by unfold m_spare; rw [if_pos q, hcj, e1 52 32 rfl, e1 52 35 rfl]) e1 f1 m1
  · have q := bB_n0.mp h14
    obtain ⟨j, hj, rfl⟩ := isTm_nI hC.1 (Bool.and_eq_true_iff.mp q).1
    have hcj : cl (nI j) = j := cl_nI (by omega)
    refine aw_aload_n rfl rfl ?_
    refine aw_aload_n rfl rfl ?_
    refine pg_39_32 rfl kl_X12_61 ?_
    refine aw_iload_n rfl rfl ?_
    refine aw_rV (q0 := 39) (ci := 12) rfl cw_X12_342 rfl rfl rfl (c_m_holds_52 hC hr hj) rfl rfl (Nat.le_of_ble_eq_true rfl) (by decide) (by decide) (by decide) (by decide) (fun s1 n1 e1 f1 m1 => ?_)
    refine aw_aload_n rfl rfl ?_
    refine pg_39_32 rfl kl_X12_61 ?_
    refine aw_bipush (v := 32) rfl (by decide) ?_
    refine pl_52 (j := 32) rfl rfl (by decide) ?_
    refine aw_aload_n rfl rfl ?_
    refine pg_39_32 rfl kl_X12_61 ?_
    refine aw_bipush (v := 35) rfl (by decide) ?_
    refine pl_52 (j := 35) rfl rfl (by decide) ?_
    refine aw_iS rfl cw_X12_328 (c_m_warmthAt) rfl rfl (Nat.le_of_ble_eq_true rfl) (by decide) (by decide) (by decide) (by decide) ?_
    refine aw_isub rfl ?_
    refine aw_goto (tgt := 50) rfl (by decide) ?_
    first
    | exact aw_ri rfl rfl (by unfold m_spare; rw [if_neg (by rw [bB_0.mp h14]; exact Bool.false_ne_true)]) eo_rf en_rf hC.2.2.1
    | exact aw_ri rfl rfl (by unfold m_spare; rw [if_pos q, hcj, e1 52 32 rfl, e1 52 35 rfl]) e1 f1 m1
set_option maxRecDepth 4000 in
theorem c_m_harden {l : Launch} {g : ag_G} {s : am_S} {n : am_N} {MI : am_S → am_N → Prop} {V : (Nat → Int32) → Int32} {T Q : Nat} (hC : MC l g MI V s n T Q) (hr : rwb (s 52) T Q) {t m : Int32} : aw_R l g mi_X12_harden 104 skM [.ref (g_ad g 39), .int t, .int m] s n MI (.int (m_harden V (up s 39 0 0) t m)) ((up s 39 0 0)) := by
  refine aw_R_of mo_X12_harden (by decide) (Nat.le_of_ble_eq_true rfl) ?_
  refine aw_aload_n rfl rfl ?_
  refine aw_iconst (v := 0) rfl (by decide) ?_
  refine pp_39_0 rfl kl_X12_96 ?_
  have hC : MC l g MI V (up s 39 0 0) n T Q := hC.z0
  have hr : rwb ((up s 39 0 0) 52) T Q := hr
  generalize up s 39 0 0 = S at *
  have hT := hC.1.2.1
  have loop : ∀ (X : Int32) (j M : Nat), j < T → M ≤ 24 → ∀ (d i : Nat) (s1 : am_S) (n1 : am_N), i + d = 41 → eo skM S s1 → en n n1 → MI s1 n1 → oM (fs (fun e => decide (mnm V S j (nI e) 0 M = -1)) i d) = X → aw_W l g mi_X12_harden (aw_rm 104 0 0) (aw_Z g (fun r w => ∃ s' n', r = some (.int X) ∧ w = hp g s' n' ∧ eo skM S s' ∧ en n n' ∧ MI s' n') 0 0) 0 0 (hp g s1 n1) 28 [some (.ref (g_ad g 39)), some (.int (nI j)), some (.int (nI M)), some (.int (nI i))] [] := by
    intro X j M hj hM d
    obtain ⟨⟨hh, hhl, hhe⟩, dd, hdl, hde⟩ := hC.2.2.2 j hj
    obtain ⟨⟨u, hul, hue⟩, D, hDl, hDe⟩ := hr.1 j hj
    induction d with
    | zero =>
      intro i s1 n1 hi e1 f1 m1 hX
      obtain rfl : i = 41 := by omega
      refine aw_iload_n rfl rfl ?_
      refine aw_bipush (v := 40) rfl (by decide) ?_
      refine aw_icmp_gt (tgt := 80) rfl (by decide) (fun h31 => ?_) (fun h31 => absurd (by decide) h31)
      refine aw_iconst (v := -1) rfl (by decide) ?_
      exact aw_ri rfl rfl hX e1 f1 m1
    | succ d ih =>
      intro i s1 n1 hi e1 f1 m1 hX
      have hC1 := hC.eo e1 m1
      have e52 : s1 52 = S 52 := eo_cell e1 52 (fun _ => rfl)
      have hr1 : rwb (s1 52) T Q := by rw [e52]; exact hr
      have hDe1 : s1 52 (3 * j + 1) = nI D := by rw [e52]; exact hDe
      have hue1 : s1 52 (3 * j) = nI u := by rw [e52]; exact hue
      have hhe1 : s1 46 (5 * j + 1) = nI hh := by rw [eo_cell e1 46 (fun _ => rfl)]; exact hhe
      have hmm : mnm V s1 j (nI i) 0 M = mnm V S j (nI i) 0 M := by rw [mnm_m e1]
      refine aw_iload_n rfl rfl ?_
      refine aw_bipush (v := 40) rfl (by decide) ?_
      refine aw_icmp_gt (tgt := 80) rfl (by decide) (fun h31 => absurd h31 (Int32.not_lt.mpr (nI_le (b := 40) (by omega) (by decide)))) (fun h31 => ?_)
      refine aw_aload_n rfl rfl ?_
      refine aw_iload_n rfl rfl ?_
      refine aw_aload_n rfl rfl ?_
      refine aw_iload_n rfl rfl ?_
      refine aw_iconst (v := 1) rfl (by decide) ?_
      refine aw_iV (q0 := 39) (ci := 12) rfl cw_X12_319 rfl rfl rfl (c_m_of (j := j) (c := 1) (by omega) (by decide)) rfl rfl (Nat.le_of_ble_eq_true rfl) (by decide) (by decide) (by decide) (by decide) ?_
      refine aw_iload_n rfl rfl ?_
      refine aw_iadd rfl ?_
      refine aw_aload_n rfl rfl ?_
      refine pg_39_32 rfl kl_X12_61 ?_
      refine aw_iconst (v := 3) rfl (by decide) ?_
      refine aw_iload_n rfl rfl ?_
      refine aw_imul rfl ?_
      refine aw_iconst (v := 1) rfl (by decide) ?_
      refine aw_iadd rfl ?_
      refine pl_52 rfl (i3 j 1) (by omega) ?_
      refine aw_aload_n rfl rfl ?_
      refine pg_39_32 rfl kl_X12_61 ?_
      refine aw_iconst (v := 3) rfl (by decide) ?_
      refine aw_iload_n rfl rfl ?_
      refine aw_imul rfl ?_
      refine aw_iconst (v := 0) rfl (by decide) ?_
      refine aw_iadd rfl ?_
      refine pl_52 rfl (i3 j 0) (by omega) ?_
      refine aw_iload_n rfl rfl ?_
      refine aw_rV (q0 := 39) (ci := 12) rfl cw_X12_335 rfl rfl rfl ((show aw_R l g mi_X12_meltsIn 102 skM [.ref (g_ad g 39), .int (nI j), .int (s1 46 (5 * j + 1) + nI i), .int (s1 52 (3 * j + 1)), .int (s1 52 (3 * j)), .int (nI M)] s1 n1 MI (.int (mnm V s1 j (nI i) 0 M)) s1 from by (unfold mnm; rw [hhe1, hue1, hDe1, Int32.add_zero, nI_add]; exact c_m_meltsIn hC1 hr1 hj (by omega) (by omega) (by omega) (by omega)))) rfl rfl (Nat.le_of_ble_eq_true rfl) (by decide) (by decide) (by decide) (by decide) (fun s2 n2 e2 f2 m2 => ?_)
      refine aw_iconst (v := -1) rfl (by decide) ?_
      refine aw_icmp_ne (tgt := 74) rfl (by decide) (fun h69 => ?_) (fun h69 => ?_)
      · refine aw_inc1 rfl rfl (by decide) ?_
        refine aw_goto (tgt := 28) rfl (by decide) ?_
        exact aw_wk (ih (i + 1) s2 n2 (by omega) (eo_tr e1 e2) (en_tr f1 f2) m2 (by rw [← hX]; simp only [fs]; rw [if_neg (fun z => h69 (hmm.trans (of_decide_eq_true z)))])) (And.intro rfl (And.intro rfl (And.intro rfl (And.intro (congrArg (fun x => some (Value.int x)) (nI_1 i)) True.intro))))
      · refine aw_iload_n rfl rfl ?_
        exact aw_ri rfl rfl (by rw [← hX]; simp only [fs]; rw [if_pos (decide_eq_true (hmm.symm.trans h69))]; rfl) (eo_tr e1 e2) (en_tr f1 f2) m2
  refine aw_aload_n rfl rfl ?_
  refine aw_aload_n rfl rfl ?_
  refine pg_39_32 rfl kl_X12_61 ?_
  refine aw_iload_n rfl rfl ?_
  refine aw_iV (q0 := 39) (ci := 12) rfl cw_X12_379 rfl rfl rfl (c_m_isShut_52 hC.1) rfl rfl (Nat.le_of_ble_eq_true rfl) (by decide) (by decide) (by decide) (by decide) ?_
  refine aw_if_eq (tgt := 24) rfl (by decide) (fun h14 => ?_) (fun h14 => ?_)
  · refine aw_iconst (v := -1) rfl (by decide) ?_
    first
    | exact aw_ri rfl rfl (by unfold m_harden; rw [if_neg (by rw [bB_0.mp h14]; exact Bool.false_ne_true)]) eo_rf en_rf hC.2.2.1
    | exact aw_ri rfl rfl (by unfold m_harden; rw [if_pos q, if_neg (by rw [bB_0.mp h21]; exact Bool.false_ne_true)]) eo_rf en_rf hC.2.2.1
  · have q := bB_n0.mp h14
    obtain ⟨j, hj, rfl⟩ := isTm_nI hC.1 (Bool.and_eq_true_iff.mp q).1
    have hcj : cl (nI j) = j := cl_nI (by omega)
    refine aw_iload_n rfl rfl ?_
    refine aw_iS rfl cw_X12_429 (c_m_isMonths) rfl rfl (Nat.le_of_ble_eq_true rfl) (by decide) (by decide) (by decide) (by decide) ?_
    refine aw_if_ne (tgt := 26) rfl (by decide) (fun h21 => ?_) (fun h21 => ?_)
    · have q2 := bB_n0.mp h21
      obtain ⟨M, hM, rfl⟩ := mm_in (M := 24) (by decide) (by decide) q2
      have hcm : cl (nI M) = M := cl_nI (by omega)
      refine aw_iconst (v := 0) rfl (by decide) ?_
      refine aw_istore_n rfl (by decide) ?_
      exact aw_wk (loop _ j M hj hM 41 0 S n (by omega) eo_rf en_rf hC.2.2.1 (by unfold m_harden; rw [if_pos q, if_pos q2, hcj, hcm])) (And.intro rfl (And.intro rfl (And.intro rfl (And.intro rfl True.intro))))
    · refine aw_iconst (v := -1) rfl (by decide) ?_
      first
      | exact aw_ri rfl rfl (by unfold m_harden; rw [if_neg (by rw [bB_0.mp h14]; exact Bool.false_ne_true)]) eo_rf en_rf hC.2.2.1
      | exact aw_ri rfl rfl (by unfold m_harden; rw [if_pos q, if_neg (by rw [bB_0.mp h21]; exact Bool.false_ne_true)]) eo_rf en_rf hC.2.2.1
