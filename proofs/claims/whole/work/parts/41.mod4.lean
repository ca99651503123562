set_option maxRecDepth 4000 in
theorem c_m_rule {l : Launch} {g : ag_G} {s : am_S} {n : am_N} {x : Int32} : aw_F l g mi_X12_rule 1 [.ref (g_ad g 39), .int x] (hp g s n) (.int (m_rule s x)) (hp g (z0 s) n) := by
  refine aw_F_of mo_X12_rule (by decide) (Nat.le_of_ble_eq_true rfl) ?_
  refine aw_aload_n rfl rfl ?_
  refine aw_iconst (v := 0) rfl (by decide) ?_
  refine pp_39_0 rfl kl_X12_96 ?_
  refine aw_aload_n rfl rfl ?_
  refine pg_39_26 rfl kl_X12_291 ?_
  refine aw_if_eq (tgt := 24) rfl (by decide) (fun h9 => ?_) (fun h9 => ?_)
  · refine aw_iconst (v := -1) rfl (by decide) ?_
    exact aw_fi rfl rfl (by first | (simp [m_rule, (show s 39 26 = 0 from h9)]; done) | (simp [m_rule, bB_0.mp (by simpa using h21)]; done)) rfl
  · refine aw_iload_n rfl rfl ?_
    refine aw_i2l rfl ?_
    refine aw_lconst (v := 0) rfl (by decide) ?_
    refine aw_ldc2 (v := 2) rfl (aw_t6 165 rfl rfl) ?_
    refine aw_iS rfl cw_X12_217 (c_m_isIn) rfl rfl (Nat.le_of_ble_eq_true rfl) (by decide) (by decide) (by decide) (by decide) ?_
    refine aw_if_ne (tgt := 26) rfl (by decide) (fun h21 => ?_) (fun h21 => ?_)
    · refine aw_iload_n rfl rfl ?_
      refine aw_if_ne (tgt := 40) rfl (by decide) (fun h27 => ?_) (fun h27 => ?_)
      · refine aw_iload_n rfl rfl ?_
        refine aw_iconst (v := 1) rfl (by decide) ?_
        refine aw_icmp_ne (tgt := 55) rfl (by decide) (fun h42 => ?_) (fun h42 => ?_)
        · refine aw_aload_n rfl rfl ?_
          refine pg_39_18 rfl kl_X12_37 ?_
          refine aw_iconst (v := 2) rfl (by decide) ?_
          refine pl_44 (j := 2) rfl rfl (by decide) ?_
          exact aw_fi rfl rfl (by have z9 : ¬ s 39 26 = 0 := h9; have z := bB_n0.mp h21; first | (have e : x = 0 := (by simpa using h27); subst e; simp only [m_rule, if_neg z9, if_pos z]; rfl) | (have e : x = 1 := (by simpa using h42); subst e; simp only [m_rule, if_neg z9, if_pos z]; rfl) | (simp only [m_rule, if_neg z9, if_pos z, if_neg h27, if_neg h42]; rfl)) rfl
        · refine aw_aload_n rfl rfl ?_
          refine pg_39_32 rfl kl_X12_61 ?_
          refine aw_bipush (v := 32) rfl (by decide) ?_
          refine pl_52 (j := 32) rfl rfl (by decide) ?_
          refine aw_goto (tgt := 61) rfl (by decide) ?_
          exact aw_fi rfl rfl (by have z9 : ¬ s 39 26 = 0 := h9; have z := bB_n0.mp h21; first | (have e : x = 0 := (by simpa using h27); subst e; simp only [m_rule, if_neg z9, if_pos z]; rfl) | (have e : x = 1 := (by simpa using h42); subst e; simp only [m_rule, if_neg z9, if_pos z]; rfl) | (simp only [m_rule, if_neg z9, if_pos z, if_neg h27, if_neg h42]; rfl)) rfl
      · refine aw_aload_n rfl rfl ?_
        refine pg_39_32 rfl kl_X12_61 ?_
        refine aw_bipush (v := 31) rfl (by decide) ?_
        refine pl_52 (j := 31) rfl rfl (by decide) ?_
        refine aw_goto (tgt := 61) rfl (by decide) ?_
        exact aw_fi rfl rfl (by have z9 : ¬ s 39 26 = 0 := h9; have z := bB_n0.mp h21; first | (have e : x = 0 := (by simpa using h27); subst e; simp only [m_rule, if_neg z9, if_pos z]; rfl) | (have e : x = 1 := (by simpa using h42); subst e; simp only [m_rule, if_neg z9, if_pos z]; rfl) | (simp only [m_rule, if_neg z9, if_pos z, if_neg h27, if_neg h42]; rfl)) rfl
    · refine aw_iconst (v := -1) rfl (by decide) ?_
      exact aw_fi rfl rfl (by first | (simp [m_rule, (show s 39 26 = 0 from h9)]; done) | (simp [m_rule, bB_0.mp (by simpa using h21)]; done)) rfl
set_option maxRecDepth 4000 in
theorem c_m_ring {l : Launch} {g : ag_G} {s : am_S} {n : am_N} {r x : Int32} {T Q : Nat} (hb : mb s T Q) : aw_F l g mi_X12_ring 1 [.ref (g_ad g 39), .int r, .int x] (hp g s n) (.int (m_ring s r x)) (hp g (z0 s) n) := by
  refine aw_F_of mo_X12_ring (by decide) (Nat.le_of_ble_eq_true rfl) ?_
  refine aw_aload_n rfl rfl ?_
  refine aw_iconst (v := 0) rfl (by decide) ?_
  refine pp_39_0 rfl kl_X12_96 ?_
  refine aw_aload_n rfl rfl ?_
  refine aw_iload_n rfl rfl ?_
  refine aw_iV (q0 := 39) (ci := 12) rfl cw_X12_351 rfl rfl rfl (c_m_isRing) rfl rfl (Nat.le_of_ble_eq_true rfl) (by decide) (by decide) (by decide) (by decide) ?_
  refine aw_if_eq (tgt := 39) rfl (by decide) (fun h10 => ?_) (fun h10 => ?_)
  · refine aw_iconst (v := -1) rfl (by decide) ?_
    exact aw_fi rfl rfl (by first | (simp [m_ring, (show isRm s r = false from bB_0.mp h10)]; done) | (simp [m_ring, q10, bB_0.mp h20]; done) | (simp only [m_ring, if_pos q10, if_pos (bB_n0.mp h20), hcj, hcc]; rfl)) rfl
  · have q10 : isRm s r = true := bB_n0.mp h10
    obtain ⟨j, hj, rfl⟩ := isRm_nI hb q10
    have hQ := hb.2.2.2.1
    have hcj : cl (nI j) = j := cl_nI (by omega)
    refine aw_iload_n rfl rfl ?_
    refine aw_i2l rfl ?_
    refine aw_lconst (v := 0) rfl (by decide) ?_
    refine aw_lconst (v := 1) rfl (by decide) ?_
    refine aw_iS rfl cw_X12_217 (c_m_isIn) rfl rfl (Nat.le_of_ble_eq_true rfl) (by decide) (by decide) (by decide) (by decide) ?_
    refine aw_if_eq (tgt := 39) rfl (by decide) (fun h20 => ?_) (fun h20 => ?_)
    · refine aw_iconst (v := -1) rfl (by decide) ?_
      exact aw_fi rfl rfl (by first | (simp [m_ring, (show isRm s r = false from bB_0.mp h10)]; done) | (simp [m_ring, q10, bB_0.mp h20]; done) | (simp only [m_ring, if_pos q10, if_pos (bB_n0.mp h20), hcj, hcc]; rfl)) rfl
    · obtain ⟨c, hc, rfl⟩ := inn_nI (M := 1) (by decide) (by decide) (bB_n0.mp h20)
      have hcc : cl (nI c) = c := cl_nI (by omega)
      refine aw_aload_n rfl rfl ?_
      refine pg_39_32 rfl kl_X12_61 ?_
      refine aw_bipush (v := 21) rfl (by decide) ?_
      refine aw_iconst (v := 2) rfl (by decide) ?_
      refine aw_iload_n rfl rfl ?_
      refine aw_imul rfl ?_
      refine aw_iadd rfl ?_
      refine aw_iload_n rfl rfl ?_
      refine aw_iadd rfl ?_
      refine pl_52 rfl (i21c j c) (by omega) ?_
      refine aw_goto (tgt := 40) rfl (by decide) ?_
      exact aw_fi rfl rfl (by first | (simp [m_ring, (show isRm s r = false from bB_0.mp h10)]; done) | (simp [m_ring, q10, bB_0.mp h20]; done) | (simp only [m_ring, if_pos q10, if_pos (bB_n0.mp h20), hcj, hcc]; rfl)) rfl
set_option maxRecDepth 4000 in
theorem c_m_warmth {l : Launch} {g : ag_G} {s : am_S} {n : am_N} {k : Int32} : aw_F l g mi_X12_warmth 2 [.ref (g_ad g 39), .int k] (hp g s n) (.int (m_warmth s k)) (hp g (z0 s) n) := by
  refine aw_F_of mo_X12_warmth (by decide) (Nat.le_of_ble_eq_true rfl) ?_
  refine aw_aload_n rfl rfl ?_
  refine aw_iconst (v := 0) rfl (by decide) ?_
  refine pp_39_0 rfl kl_X12_96 ?_
  refine aw_aload_n rfl rfl ?_
  refine pg_39_26 rfl kl_X12_291 ?_
  refine aw_if_le (tgt := 46) rfl (by decide) (fun h9 => ?_) (fun h9 => ?_)
  · refine aw_iconst (v := -1) rfl (by decide) ?_
    exact aw_fi rfl rfl (by first | (simp [m_warmth, (show s 39 26 ≤ 0 from h9)]; done) | (simp [m_warmth, (show ¬ s 39 26 ≤ 0 from h9), bB_0.mp h21]; done) | (simp only [m_warmth, if_neg (show ¬ s 39 26 ≤ 0 from h9), if_pos (bB_n0.mp h21)]; rfl)) rfl
  · refine aw_iload_n rfl rfl ?_
    refine aw_i2l rfl ?_
    refine aw_lconst (v := 0) rfl (by decide) ?_
    refine aw_ldc2 (v := 60) rfl (aw_t7 204 rfl rfl) ?_
    refine aw_iS rfl cw_X12_217 (c_m_isIn) rfl rfl (Nat.le_of_ble_eq_true rfl) (by decide) (by decide) (by decide) (by decide) ?_
    refine aw_if_eq (tgt := 46) rfl (by decide) (fun h21 => ?_) (fun h21 => ?_)
    · refine aw_iconst (v := -1) rfl (by decide) ?_
      exact aw_fi rfl rfl (by first | (simp [m_warmth, (show s 39 26 ≤ 0 from h9)]; done) | (simp [m_warmth, (show ¬ s 39 26 ≤ 0 from h9), bB_0.mp h21]; done) | (simp only [m_warmth, if_neg (show ¬ s 39 26 ≤ 0 from h9), if_pos (bB_n0.mp h21)]; rfl)) rfl
    · refine aw_aload_n rfl rfl ?_
      refine pg_39_32 rfl kl_X12_61 ?_
      refine aw_bipush (v := 32) rfl (by decide) ?_
      refine pl_52 (j := 32) rfl rfl (by decide) ?_
      refine aw_aload_n rfl rfl ?_
      refine pg_39_32 rfl kl_X12_61 ?_
      refine aw_bipush (v := 35) rfl (by decide) ?_
      refine pl_52 (j := 35) rfl rfl (by decide) ?_
      refine aw_iload_n rfl rfl ?_
      refine aw_iadd rfl ?_
      refine aw_iS rfl cw_X12_328 (c_m_warmthAt) rfl rfl (Nat.le_of_ble_eq_true rfl) (by decide) (by decide) (by decide) (by decide) ?_
      refine aw_goto (tgt := 47) rfl (by decide) ?_
      exact aw_fi rfl rfl (by first | (simp [m_warmth, (show s 39 26 ≤ 0 from h9)]; done) | (simp [m_warmth, (show ¬ s 39 26 ≤ 0 from h9), bB_0.mp h21]; done) | (simp only [m_warmth, if_neg (show ¬ s 39 26 ≤ 0 from h9), if_pos (bB_n0.mp h21)]; rfl)) rfl
def m_image (s : am_S) : Int32 × am_S := if s 39 26 = 0 then (-1, z0 s) else (s 52 35, up (upR (z0 s) 61 (va_cpy (s 52) (s 61) 0 0 217)) 39 49 1)
def m_back (s : am_S) : Int32 × am_S := if s 39 49 = 0 then (-1, z0 s) else (s 61 35, up (upR (z0 s) 52 (va_cpy (s 61) (s 52) 0 0 217)) 39 39 0)
def m_undo (s : am_S) (a : Nat) : Int32 × am_S := if a = 0 then (-1, z0 s) else (nI (a - 1), upR (up (z0 s) 39 39 (nI (a - 1))) 52 (va_cpy (s 56) (s 52) (217 * (a - 1)) 0 217))
set_option maxRecDepth 4000 in
theorem c_m_image {l : Launch} {g : ag_G} {s : am_S} {n : am_N}  : aw_F l g mi_X12_image 0 [.ref (g_ad g 39)] (hp g s n) (.int (m_image s).1) (hp g (m_image s).2 n) := by
  have loop : ∀ (d i : Nat), i + d = 217 → aw_W l g mi_X12_image (aw_rm 0 0 0) (aw_Z g (fun r w => r = some (.int (s 52 35)) ∧ w = hp g (up (upR (z0 s) 61 (va_cpy (s 52) (s 61) 0 0 217)) 39 49 1) n) 0 0) 0 0 (hp g (upR (z0 s) 61 (va_cpy (s 52) (s 61) 0 0 i)) n) 16 [some (.ref (g_ad g 39)), some (.int (nI i))] [] := by
    intro d
    induction d with
    | zero =>
      intro i hi
      obtain rfl : i = 217 := by omega
      refine aw_iload_n rfl rfl ?_
      refine aw_sipush (v := 217) rfl (by decide) ?_
      refine aw_icmp_ge (tgt := 41) rfl (by decide) (fun h20 => ?_) (fun h20 => absurd (by decide) h20)
      refine aw_aload_n rfl rfl ?_
      refine aw_iconst (v := 1) rfl (by decide) ?_
      refine pp_39_49 rfl kl_X12_306 (by first | exact Or.inl rfl | exact Or.inr rfl | exact bB_01) ?_
      refine aw_aload_n rfl rfl ?_
      refine pg_39_32 rfl kl_X12_61 ?_
      refine aw_bipush (v := 35) rfl (by decide) ?_
      refine pl_52 (j := 35) rfl rfl (by decide) ?_
      exact aw_fi rfl rfl (by first | rfl | (show va_cpy (s 52) (s 61) 0 0 217 35 = _; rw [pk_cpy_in (by decide) (by decide)])) rfl
    | succ d ih =>
      intro i hi
      refine aw_iload_n rfl rfl ?_
      refine aw_sipush (v := 217) rfl (by decide) ?_
      refine aw_icmp_ge (tgt := 41) rfl (by decide) (fun h20 => absurd h20 (nI_ge (b := 217) (by omega) (by decide))) (fun h20 => ?_)
      refine aw_aload_n rfl rfl ?_
      refine pg_39_48 rfl kl_X12_93 ?_
      refine aw_iload_n rfl rfl ?_
      refine aw_aload_n rfl rfl ?_
      refine pg_39_32 rfl kl_X12_61 ?_
      refine aw_iload_n rfl rfl ?_
      refine pl_52 rfl rfl (by omega) ?_
      refine ps_61 rfl rfl (by omega) ?_
      refine aw_inc1 rfl rfl (by decide) ?_
      refine aw_goto (tgt := 16) rfl (by decide) ?_
      refine aw_wk (aw_eqs (ih (i + 1) (by omega)) rfl rfl (congrArg (fun z => hp g z n) ?_)) (And.intro rfl (And.intro (congrArg (fun x => some (Value.int x)) (nI_1 i)) True.intro))
      rw [upR_up, ← cpy_s, Nat.zero_add]; rfl
  refine aw_F_of mo_X12_image (by decide) (Nat.le_of_ble_eq_true rfl) ?_
  refine aw_aload_n rfl rfl ?_
  refine aw_iconst (v := 0) rfl (by decide) ?_
  refine pp_39_0 rfl kl_X12_96 ?_
  refine aw_aload_n rfl rfl ?_
  refine pg_39_26 rfl kl_X12_291 ?_
  refine aw_if_ne (tgt := 14) rfl (by decide) (fun h9 => ?_) (fun h9 => ?_)
  · have q9 : ¬ s 39 26 = 0 := h9
    unfold m_image
    rw [if_neg q9]
    refine aw_iconst (v := 0) rfl (by decide) ?_
    refine aw_istore_n rfl (by decide) ?_
    refine aw_wk (aw_eqs (loop 217 0 (by decide)) rfl rfl (congrArg (fun z => hp g z n) ?_)) (And.intro rfl (And.intro rfl True.intro))
    rw [cpy_0]; exact (upR_rf (s := z0 s) (k := 61)).symm
  · refine aw_iconst (v := -1) rfl (by decide) ?_
    exact aw_fi rfl rfl (by simp [m_image, (show s 39 26 = 0 from h9)]) (by simp [m_image, (show s 39 26 = 0 from h9)])
set_option maxRecDepth 4000 in
theorem c_m_back {l : Launch} {g : ag_G} {s : am_S} {n : am_N}  : aw_F l g mi_X12_back 0 [.ref (g_ad g 39)] (hp g s n) (.int (m_back s).1) (hp g (m_back s).2 n) := by
  have loop : ∀ (d i : Nat), i + d = 217 → aw_W l g mi_X12_back (aw_rm 0 0 0) (aw_Z g (fun r w => r = some (.int (s 61 35)) ∧ w = hp g (up (upR (z0 s) 52 (va_cpy (s 61) (s 52) 0 0 217)) 39 39 0) n) 0 0) 0 0 (hp g (upR (z0 s) 52 (va_cpy (s 61) (s 52) 0 0 i)) n) 16 [some (.ref (g_ad g 39)), some (.int (nI i))] [] := by
    intro d
    induction d with
    | zero =>
      intro i hi
      obtain rfl : i = 217 := by omega
      refine aw_iload_n rfl rfl ?_
      refine aw_sipush (v := 217) rfl (by decide) ?_
      refine aw_icmp_ge (tgt := 41) rfl (by decide) (fun h20 => ?_) (fun h20 => absurd (by decide) h20)
      refine aw_aload_n rfl rfl ?_
      refine aw_iconst (v := 0) rfl (by decide) ?_
      refine pp_39_39 rfl kl_X12_303 ?_
      refine aw_aload_n rfl rfl ?_
      refine pg_39_32 rfl kl_X12_61 ?_
      refine aw_bipush (v := 35) rfl (by decide) ?_
      refine pl_52 (j := 35) rfl rfl (by decide) ?_
      exact aw_fi rfl rfl (by first | rfl | (show va_cpy (s 61) (s 52) 0 0 217 35 = _; rw [pk_cpy_in (by decide) (by decide)])) rfl
    | succ d ih =>
      intro i hi
      refine aw_iload_n rfl rfl ?_
      refine aw_sipush (v := 217) rfl (by decide) ?_
      refine aw_icmp_ge (tgt := 41) rfl (by decide) (fun h20 => absurd h20 (nI_ge (b := 217) (by omega) (by decide))) (fun h20 => ?_)
      refine aw_aload_n rfl rfl ?_
      refine pg_39_32 rfl kl_X12_61 ?_
      refine aw_iload_n rfl rfl ?_
      refine aw_aload_n rfl rfl ?_
      refine pg_39_48 rfl kl_X12_93 ?_
      refine aw_iload_n rfl rfl ?_
      refine pl_61 rfl rfl (by omega) ?_
      refine ps_52 rfl rfl (by omega) ?_
      refine aw_inc1 rfl rfl (by decide) ?_
      refine aw_goto (tgt := 16) rfl (by decide) ?_
      refine aw_wk (aw_eqs (ih (i + 1) (by omega)) rfl rfl (congrArg (fun z => hp g z n) ?_)) (And.intro rfl (And.intro (congrArg (fun x => some (Value.int x)) (nI_1 i)) True.intro))
      rw [upR_up, ← cpy_s, Nat.zero_add]; rfl
  refine aw_F_of mo_X12_back (by decide) (Nat.le_of_ble_eq_true rfl) ?_
  refine aw_aload_n rfl rfl ?_
  refine aw_iconst (v := 0) rfl (by decide) ?_
  refine pp_39_0 rfl kl_X12_96 ?_
  refine aw_aload_n rfl rfl ?_
  refine pg_39_49 rfl kl_X12_306 ?_
  refine aw_if_ne (tgt := 14) rfl (by decide) (fun h9 => ?_) (fun h9 => ?_)
  · have q9 : ¬ s 39 49 = 0 := h9
    unfold m_back
    rw [if_neg q9]
    refine aw_iconst (v := 0) rfl (by decide) ?_
    refine aw_istore_n rfl (by decide) ?_
    refine aw_wk (aw_eqs (loop 217 0 (by decide)) rfl rfl (congrArg (fun z => hp g z n) ?_)) (And.intro rfl (And.intro rfl True.intro))
    rw [cpy_0]; exact (upR_rf (s := z0 s) (k := 52)).symm
  · refine aw_iconst (v := -1) rfl (by decide) ?_
    exact aw_fi rfl rfl (by simp [m_back, (show s 39 49 = 0 from h9)]) (by simp [m_back, (show s 39 49 = 0 from h9)])
set_option maxRecDepth 4000 in
theorem c_m_undo {l : Launch} {g : ag_G} {s : am_S} {n : am_N} {a : Nat} (ha : s 39 39 = nI a) (ha4 : a ≤ 40) : aw_F l g mi_X12_undo 0 [.ref (g_ad g 39)] (hp g s n) (.int (m_undo s a).1) (hp g (m_undo s a).2 n) := by
  have loop : 0 < a → ∀ (d i : Nat), i + d = 217 → aw_W l g mi_X12_undo (aw_rm 0 0 0) (aw_Z g (fun r w => r = some (.int (nI (a - 1))) ∧ w = hp g (upR (up (z0 s) 39 39 (nI (a - 1))) 52 (va_cpy (s 56) (s 52) (217 * (a - 1)) 0 217)) n) 0 0) 0 0 (hp g (upR (up (z0 s) 39 39 (nI (a - 1))) 52 (va_cpy (s 56) (s 52) (217 * (a - 1)) 0 i)) n) 26 [some (.ref (g_ad g 39)), some (.int (nI i))] [] := by
    intro h0 d
    induction d with
    | zero =>
      intro i hi
      obtain rfl : i = 217 := by omega
      refine aw_iload_n rfl rfl ?_
      refine aw_sipush (v := 217) rfl (by decide) ?_
      refine aw_icmp_ge (tgt := 60) rfl (by decide) (fun h30 => ?_) (fun h30 => absurd (by decide) h30)
      refine aw_aload_n rfl rfl ?_
      refine pg_39_39 rfl kl_X12_303 ?_
      exact aw_fi rfl rfl rfl rfl
    | succ d ih =>
      intro i hi
      refine aw_iload_n rfl rfl ?_
      refine aw_sipush (v := 217) rfl (by decide) ?_
      refine aw_icmp_ge (tgt := 60) rfl (by decide) (fun h30 => absurd h30 (nI_ge (b := 217) (by omega) (by decide))) (fun h30 => ?_)
      refine aw_aload_n rfl rfl ?_
      refine pg_39_32 rfl kl_X12_61 ?_
      refine aw_iload_n rfl rfl ?_
      refine aw_aload_n rfl rfl ?_
      refine pg_39_38 rfl kl_X12_78 ?_
      refine aw_sipush (v := 217) rfl (by decide) ?_
      refine aw_aload_n rfl rfl ?_
      refine pg_39_39 rfl kl_X12_303 ?_
      refine aw_imul rfl ?_
      refine aw_iload_n rfl rfl ?_
      refine aw_iadd rfl ?_
      refine pl_56 rfl (show (217 : Int32) * nI (a - 1) + nI i = nI (217 * (a - 1) + i) from by (rw [show (217 : Int32) * nI (a - 1) = nI (217 * (a - 1)) from pk_mul 217 (a - 1)]; exact nI_add _ _)) (by omega) ?_
      refine ps_52 rfl rfl (by omega) ?_
      refine aw_inc1 rfl rfl (by decide) ?_
      refine aw_goto (tgt := 26) rfl (by decide) ?_
      refine aw_wk (aw_eqs (ih (i + 1) (by omega)) rfl rfl (congrArg (fun z => hp g z n) ?_)) (And.intro rfl (And.intro (congrArg (fun x => some (Value.int x)) (nI_1 i)) True.intro))
      rw [upR_up, ← cpy_s, Nat.zero_add]; rfl
  refine aw_F_of mo_X12_undo (by decide) (Nat.le_of_ble_eq_true rfl) ?_
  refine aw_aload_n rfl rfl ?_
  refine aw_iconst (v := 0) rfl (by decide) ?_
  refine pp_39_0 rfl kl_X12_96 ?_
  refine aw_aload_n rfl rfl ?_
  refine pg_39_39 rfl kl_X12_303 ?_
  refine aw_if_ne (tgt := 14) rfl (by decide) (fun h9 => ?_) (fun h9 => ?_)
  · have q9 : ¬ a = 0 := fun z => h9 (show s 39 39 = 0 from by (rw [ha, z]; rfl))
    unfold m_undo
    rw [if_neg q9]
    refine aw_aload_n rfl rfl ?_
    refine aw_dup rfl rfl ?_
    refine pg_39_39 rfl kl_X12_303 ?_
    refine aw_iconst (v := 1) rfl (by decide) ?_
    refine aw_isub rfl ?_
    refine pp_39_39 rfl kl_X12_303 ?_
    refine aw_iconst (v := 0) rfl (by decide) ?_
    refine aw_istore_n rfl (by decide) ?_
    refine aw_wk (aw_eqs (loop (by omega) 217 0 (by decide)) rfl rfl (congrArg (fun z => hp g z n) ?_)) (And.intro rfl (And.intro rfl True.intro))
    rw [cpy_0, show z0 s 39 39 - 1 = nI (a - 1) from by (show s 39 39 - 1 = _; rw [ha]; exact nI_m1 (by omega))]; exact (upR_rf (s := up (z0 s) 39 39 (nI (a - 1))) (k := 52)).symm
  · have q9 : a = 0 := (nI_eq (b := 0) (by omega) (by decide)).mp (show nI a = nI 0 from by (rw [← ha]; exact h9))
    refine aw_iconst (v := -1) rfl (by decide) ?_
    exact aw_fi rfl rfl (by simp [m_undo, q9]) (by simp [m_undo, q9])
