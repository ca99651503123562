def m_seal (S : am_S) (a : Nat) (t v : Int32) : Int32 × am_S := if cSm S (S 52) t v = true then (S 52 (3 * cl t + 1) + v, upR (mRem S a) 52 (mSeal (S 52) (cl t) v)) else (-1, S)
def m_open (S : am_S) (a : Nat) (t : Int32) : Int32 × am_S := if shm S (S 52) t = true then (mn 999 (S 52 31 + S 52 (3 * cl t + 1)), upR (mRem S a) 52 (mOpen (S 52) (cl t))) else (-1, S)
def m_pry (S : am_S) (a : Nat) (t r : Int32) : Int32 × am_S := if cPm S (S 52) t r = true then (bB (mPry (S 52) (cl t) (cl r)).1, upR (mRem S a) 52 (mPry (S 52) (cl t) (cl r)).2) else (-1, S)
def m_carry (S : am_S) (a : Nat) (t v : Int32) : Int32 × am_S := if isTm S t = true then (if inn v.toInt64 0 9 = true then (if S 52 (3 * cl t) = v then (-1, S) else (S 52 (3 * cl t), upR (mRem S a) 52 (upd (S 52) (3 * cl t) v))) else (-1, S)) else (-1, S)
def m_heat (S : am_S) (a : Nat) (v : Int32) : Int32 × am_S := if S 39 26 = 0 then (-1, S) else if inn v.toInt64 0 40 = true then (if S 52 32 = v then (-1, S) else (S 52 32, upR (mRem S a) 52 (upd (S 52) 32 v))) else (-1, S)
set_option maxRecDepth 4000 in
theorem c_m_seal {l : Launch} {g : ag_G} {s : am_S} {n : am_N} {t v : Int32} {T Q a : Nat} (hb : mb s T Q) (ha : s 39 39 = nI a) (ha4 : a ≤ 40) : aw_F l g mi_X12_seal 2 [.ref (g_ad g 39), .int t, .int v] (hp g s n) (.int (m_seal (z0 s) a t v).1) (hp g (m_seal (z0 s) a t v).2 n) := by
  have hb0 : mb (z0 s) T Q := hb
  have ha0 : z0 s 39 39 = nI a := ha
  refine aw_F_of mo_X12_seal (by decide) (Nat.le_of_ble_eq_true rfl) ?_
  refine aw_aload_n rfl rfl ?_
  refine aw_iconst (v := 0) rfl (by decide) ?_
  refine pp_39_0 rfl kl_X12_96 ?_
  refine aw_aload_n rfl rfl ?_
  refine aw_aload_n rfl rfl ?_
  refine pg_39_32 rfl kl_X12_61 ?_
  refine aw_iload_n rfl rfl ?_
  refine aw_iload_n rfl rfl ?_
  refine aw_iV (q0 := 39) (ci := 12) rfl cw_X12_371 rfl rfl rfl (c_m_canSeal_52 hb0) rfl rfl (Nat.le_of_ble_eq_true rfl) (by decide) (by decide) (by decide) (by decide) ?_
  refine aw_if_ne (tgt := 20) rfl (by decide) (fun h15 => ?_) (fun h15 => ?_)
  · have q := bB_n0.mp h15
    obtain ⟨j, hj, rfl⟩ := isTm_nI hb0 ((Bool.and_eq_true_iff.mp q).1)
    have hT := hb.2.1
    have hcj : cl (nI j) = j := cl_nI (by omega)
    refine aw_aload_n rfl rfl ?_
    refine aw_vV (q0 := 39) (ci := 12) rfl cw_X12_359 rfl rfl rfl (c_m_remember ha0 ha4) rfl rfl (Nat.le_of_ble_eq_true rfl) (by decide) (by decide) (by decide) (by decide) ?_
    refine aw_aload_n rfl rfl ?_
    refine pg_39_32 rfl kl_X12_61 ?_
    refine aw_iload_n rfl rfl ?_
    refine aw_iload_n rfl rfl ?_
    refine aw_vS rfl cw_X12_375 (c_m_seals_52 (by omega)) rfl rfl (Nat.le_of_ble_eq_true rfl) (by decide) (by decide) (by decide) (by decide) ?_
    refine aw_aload_n rfl rfl ?_
    refine pg_39_32 rfl kl_X12_61 ?_
    refine aw_iconst (v := 3) rfl (by decide) ?_
    refine aw_iload_n rfl rfl ?_
    refine aw_imul rfl ?_
    refine aw_iconst (v := 1) rfl (by decide) ?_
    refine aw_iadd rfl ?_
    refine pl_52 rfl (i3 j 1) (by omega) ?_
    exact aw_fi rfl rfl (by unfold m_seal; rw [if_pos q, hcj]; show mSeal (s 52) j v (3 * j + 1) = s 52 (3 * j + 1) + v; unfold mSeal; rw [pk_un (by omega), pk_us]) (by unfold m_seal; rw [if_pos q, hcj]; rfl)
  · refine aw_iconst (v := -1) rfl (by decide) ?_
    exact aw_fi rfl rfl (by simp [m_seal, bB_0.mp (by simpa using h15)]) (by simp [m_seal, bB_0.mp (by simpa using h15)])
set_option maxRecDepth 4000 in
theorem c_m_open {l : Launch} {g : ag_G} {s : am_S} {n : am_N} {t : Int32} {T Q a : Nat} (hb : mb s T Q) (ha : s 39 39 = nI a) (ha4 : a ≤ 40) : aw_F l g mi_X12_open 2 [.ref (g_ad g 39), .int t] (hp g s n) (.int (m_open (z0 s) a t).1) (hp g (m_open (z0 s) a t).2 n) := by
  have hb0 : mb (z0 s) T Q := hb
  have ha0 : z0 s 39 39 = nI a := ha
  refine aw_F_of mo_X12_open (by decide) (Nat.le_of_ble_eq_true rfl) ?_
  refine aw_aload_n rfl rfl ?_
  refine aw_iconst (v := 0) rfl (by decide) ?_
  refine pp_39_0 rfl kl_X12_96 ?_
  refine aw_aload_n rfl rfl ?_
  refine aw_aload_n rfl rfl ?_
  refine pg_39_32 rfl kl_X12_61 ?_
  refine aw_iload_n rfl rfl ?_
  refine aw_iV (q0 := 39) (ci := 12) rfl cw_X12_379 rfl rfl rfl (c_m_isShut_52 hb0) rfl rfl (Nat.le_of_ble_eq_true rfl) (by decide) (by decide) (by decide) (by decide) ?_
  refine aw_if_ne (tgt := 19) rfl (by decide) (fun h14 => ?_) (fun h14 => ?_)
  · have q := bB_n0.mp h14
    obtain ⟨j, hj, rfl⟩ := isTm_nI hb0 ((Bool.and_eq_true_iff.mp q).1)
    have hT := hb.2.1
    have hcj : cl (nI j) = j := cl_nI (by omega)
    refine aw_aload_n rfl rfl ?_
    refine aw_vV (q0 := 39) (ci := 12) rfl cw_X12_359 rfl rfl rfl (c_m_remember ha0 ha4) rfl rfl (Nat.le_of_ble_eq_true rfl) (by decide) (by decide) (by decide) (by decide) ?_
    refine aw_aload_n rfl rfl ?_
    refine pg_39_32 rfl kl_X12_61 ?_
    refine aw_iload_n rfl rfl ?_
    refine aw_vS rfl cw_X12_382 (c_m_opens_52 (by omega)) rfl rfl (Nat.le_of_ble_eq_true rfl) (by decide) (by decide) (by decide) (by decide) ?_
    refine aw_aload_n rfl rfl ?_
    refine pg_39_32 rfl kl_X12_61 ?_
    refine aw_bipush (v := 31) rfl (by decide) ?_
    refine pl_52 (j := 31) rfl rfl (by decide) ?_
    exact aw_fi rfl rfl (by unfold m_open; rw [if_pos q, hcj]; show mOpen (s 52) j 31 = _; unfold mOpen; rw [pk_un (by omega), pk_us]; rfl) (by unfold m_open; rw [if_pos q, hcj]; rfl)
  · refine aw_iconst (v := -1) rfl (by decide) ?_
    exact aw_fi rfl rfl (by simp [m_open, bB_0.mp (by simpa using h14)]) (by simp [m_open, bB_0.mp (by simpa using h14)])
set_option maxRecDepth 4000 in
theorem c_m_pry {l : Launch} {g : ag_G} {s : am_S} {n : am_N} {t r : Int32} {T Q a : Nat} (hb : mb s T Q) (ha : s 39 39 = nI a) (ha4 : a ≤ 40) : aw_F l g mi_X12_pry 3 [.ref (g_ad g 39), .int t, .int r] (hp g s n) (.int (m_pry (z0 s) a t r).1) (hp g (m_pry (z0 s) a t r).2 n) := by
  have hb0 : mb (z0 s) T Q := hb
  have ha0 : z0 s 39 39 = nI a := ha
  refine aw_F_of mo_X12_pry (by decide) (Nat.le_of_ble_eq_true rfl) ?_
  refine aw_aload_n rfl rfl ?_
  refine aw_iconst (v := 0) rfl (by decide) ?_
  refine pp_39_0 rfl kl_X12_96 ?_
  refine aw_aload_n rfl rfl ?_
  refine aw_aload_n rfl rfl ?_
  refine pg_39_32 rfl kl_X12_61 ?_
  refine aw_iload_n rfl rfl ?_
  refine aw_iload_n rfl rfl ?_
  refine aw_iV (q0 := 39) (ci := 12) rfl cw_X12_389 rfl rfl rfl (c_m_canPry_52 hb0) rfl rfl (Nat.le_of_ble_eq_true rfl) (by decide) (by decide) (by decide) (by decide) ?_
  refine aw_if_ne (tgt := 20) rfl (by decide) (fun h15 => ?_) (fun h15 => ?_)
  · have q := bB_n0.mp h15
    have q2 := q
    unfold cPm shm at q2
    simp only [Bool.and_eq_true] at q2
    obtain ⟨j, hj, rfl⟩ := isTm_nI hb0 q2.1.1
    obtain ⟨k, hk, rfl⟩ := isRm_nI hb0 q2.2.1
    have hT := hb.2.1
    have hQ := hb.2.2.2.1
    have hcj : cl (nI j) = j := cl_nI (by omega)
    have hck : cl (nI k) = k := cl_nI (by omega)
    refine aw_aload_n rfl rfl ?_
    refine aw_vV (q0 := 39) (ci := 12) rfl cw_X12_359 rfl rfl rfl (c_m_remember ha0 ha4) rfl rfl (Nat.le_of_ble_eq_true rfl) (by decide) (by decide) (by decide) (by decide) ?_
    refine aw_aload_n rfl rfl ?_
    refine pg_39_32 rfl kl_X12_61 ?_
    refine aw_iload_n rfl rfl ?_
    refine aw_iload_n rfl rfl ?_
    refine aw_iS rfl cw_X12_392 (c_m_pries_52 (by omega) (by omega)) rfl rfl (Nat.le_of_ble_eq_true rfl) (by decide) (by decide) (by decide) (by decide) ?_
    refine aw_if_eq (tgt := 40) rfl (by decide) (fun h33 => ?_) (fun h33 => ?_)
    · refine aw_iconst (v := 0) rfl (by decide) ?_
      exact aw_fi rfl rfl (by unfold m_pry; rw [if_pos q, hcj, hck]; first | (have z : (mPry (z0 s 52) j k).1 = true := bB_n0.mp h33; rw [z]; rfl) | (have z : (mPry (z0 s 52) j k).1 = false := bB_0.mp h33; rw [z]; rfl)) (by unfold m_pry; rw [if_pos q, hcj, hck]; rfl)
    · refine aw_iconst (v := 1) rfl (by decide) ?_
      refine aw_goto (tgt := 41) rfl (by decide) ?_
      exact aw_fi rfl rfl (by unfold m_pry; rw [if_pos q, hcj, hck]; first | (have z : (mPry (z0 s 52) j k).1 = true := bB_n0.mp h33; rw [z]; rfl) | (have z : (mPry (z0 s 52) j k).1 = false := bB_0.mp h33; rw [z]; rfl)) (by unfold m_pry; rw [if_pos q, hcj, hck]; rfl)
  · refine aw_iconst (v := -1) rfl (by decide) ?_
    exact aw_fi rfl rfl (by simp [m_pry, bB_0.mp (by simpa using h15)]) (by simp [m_pry, bB_0.mp (by simpa using h15)])
set_option maxRecDepth 4000 in
theorem c_m_carry {l : Launch} {g : ag_G} {s : am_S} {n : am_N} {t v : Int32} {T Q a : Nat} (hb : mb s T Q) (ha : s 39 39 = nI a) (ha4 : a ≤ 40) : aw_F l g mi_X12_carry 2 [.ref (g_ad g 39), .int t, .int v] (hp g s n) (.int (m_carry (z0 s) a t v).1) (hp g (m_carry (z0 s) a t v).2 n) := by
  have hb0 : mb (z0 s) T Q := hb
  have ha0 : z0 s 39 39 = nI a := ha
  refine aw_F_of mo_X12_carry (by decide) (Nat.le_of_ble_eq_true rfl) ?_
  refine aw_aload_n rfl rfl ?_
  refine aw_iconst (v := 0) rfl (by decide) ?_
  refine pp_39_0 rfl kl_X12_96 ?_
  refine aw_aload_n rfl rfl ?_
  refine aw_iload_n rfl rfl ?_
  refine aw_iV (q0 := 39) (ci := 12) rfl cw_X12_346 rfl rfl rfl (c_m_isThing) rfl rfl (Nat.le_of_ble_eq_true rfl) (by decide) (by decide) (by decide) (by decide) ?_
  refine aw_if_eq (tgt := 39) rfl (by decide) (fun h10 => ?_) (fun h10 => ?_)
  · refine aw_iconst (v := -1) rfl (by decide) ?_
    exact aw_fi rfl rfl (by first | (simp [m_carry, bB_0.mp h10]; done) | (simp [m_carry, bB_0.mp h22]; done) | (unfold m_carry; rw [if_pos q, if_pos (bB_n0.mp h22), hcj, if_pos (show z0 s 52 (3 * j) = v from h36)]; done)) (by first | (simp [m_carry, bB_0.mp h10]; done) | (simp [m_carry, bB_0.mp h22]; done) | (unfold m_carry; rw [if_pos q, if_pos (bB_n0.mp h22), hcj, if_pos (show z0 s 52 (3 * j) = v from h36)]; done))
  · have q := bB_n0.mp h10
    obtain ⟨j, hj, rfl⟩ := isTm_nI hb0 (q)
    have hT := hb.2.1
    have hcj : cl (nI j) = j := cl_nI (by omega)
    refine aw_iload_n rfl rfl ?_
    refine aw_i2l rfl ?_
    refine aw_lconst (v := 0) rfl (by decide) ?_
    refine aw_ldc2 (v := 9) rfl (aw_t7 135 rfl rfl) ?_
    refine aw_iS rfl cw_X12_217 (c_m_isIn) rfl rfl (Nat.le_of_ble_eq_true rfl) (by decide) (by decide) (by decide) (by decide) ?_
    refine aw_if_eq (tgt := 39) rfl (by decide) (fun h22 => ?_) (fun h22 => ?_)
    · refine aw_iconst (v := -1) rfl (by decide) ?_
      exact aw_fi rfl rfl (by first | (simp [m_carry, bB_0.mp h10]; done) | (simp [m_carry, bB_0.mp h22]; done) | (unfold m_carry; rw [if_pos q, if_pos (bB_n0.mp h22), hcj, if_pos (show z0 s 52 (3 * j) = v from h36)]; done)) (by first | (simp [m_carry, bB_0.mp h10]; done) | (simp [m_carry, bB_0.mp h22]; done) | (unfold m_carry; rw [if_pos q, if_pos (bB_n0.mp h22), hcj, if_pos (show z0 s 52 (3 * j) = v from h36)]; done))
    · refine aw_aload_n rfl rfl ?_
      refine pg_39_32 rfl kl_X12_61 ?_
      refine aw_iconst (v := 3) rfl (by decide) ?_
      refine aw_iload_n rfl rfl ?_
      refine aw_imul rfl ?_
      refine aw_iconst (v := 0) rfl (by decide) ?_
      refine aw_iadd rfl ?_
      refine pl_52 rfl (i3 j 0) (by omega) ?_
      refine aw_iload_n rfl rfl ?_
      refine aw_icmp_ne (tgt := 41) rfl (by decide) (fun h36 => ?_) (fun h36 => ?_)
      · refine aw_aload_n rfl rfl ?_
        refine aw_vV (q0 := 39) (ci := 12) rfl cw_X12_359 rfl rfl rfl (c_m_remember ha0 ha4) rfl rfl (Nat.le_of_ble_eq_true rfl) (by decide) (by decide) (by decide) (by decide) ?_
        refine aw_aload_n rfl rfl ?_
        refine pg_39_32 rfl kl_X12_61 ?_
        refine aw_iconst (v := 3) rfl (by decide) ?_
        refine aw_iload_n rfl rfl ?_
        refine aw_imul rfl ?_
        refine aw_iconst (v := 0) rfl (by decide) ?_
        refine aw_iadd rfl ?_
        refine pl_52 rfl (i3 j 0) (by omega) ?_
        refine aw_istore_n rfl (by decide) ?_
        refine aw_aload_n rfl rfl ?_
        refine pg_39_32 rfl kl_X12_61 ?_
        refine aw_iconst (v := 3) rfl (by decide) ?_
        refine aw_iload_n rfl rfl ?_
        refine aw_imul rfl ?_
        refine aw_iconst (v := 0) rfl (by decide) ?_
        refine aw_iadd rfl ?_
        refine aw_iload_n rfl rfl ?_
        refine ps_52 rfl (i3 j 0) (by omega) ?_
        refine aw_iload_n rfl rfl ?_
        exact aw_fi rfl rfl (by unfold m_carry; rw [if_pos q, if_pos (bB_n0.mp h22), hcj, if_neg (show ¬ z0 s 52 (3 * j) = v from h36)]; rfl) (by unfold m_carry; rw [if_pos q, if_pos (bB_n0.mp h22), hcj, if_neg (show ¬ z0 s 52 (3 * j) = v from h36)]; rfl)
      · refine aw_iconst (v := -1) rfl (by decide) ?_
        exact aw_fi rfl rfl (by first | (simp [m_carry, bB_0.mp h10]; done) | (simp [m_carry, bB_0.mp h22]; done) | (unfold m_carry; rw [if_pos q, if_pos (bB_n0.mp h22), hcj, if_pos (show z0 s 52 (3 * j) = v from h36)]; done)) (by first | (simp [m_carry, bB_0.mp h10]; done) | (simp [m_carry, bB_0.mp h22]; done) | (unfold m_carry; rw [if_pos q, if_pos (bB_n0.mp h22), hcj, if_pos (show z0 s 52 (3 * j) = v from h36)]; done))
set_option maxRecDepth 4000 in
theorem c_m_heat {l : Launch} {g : ag_G} {s : am_S} {n : am_N} {v : Int32} {a : Nat} (ha : s 39 39 = nI a) (ha4 : a ≤ 40) : aw_F l g mi_X12_heat 2 [.ref (g_ad g 39), .int v] (hp g s n) (.int (m_heat (z0 s) a v).1) (hp g (m_heat (z0 s) a v).2 n) := by
  have ha0 : z0 s 39 39 = nI a := ha
  refine aw_F_of mo_X12_heat (by decide) (Nat.le_of_ble_eq_true rfl) ?_
  refine aw_aload_n rfl rfl ?_
  refine aw_iconst (v := 0) rfl (by decide) ?_
  refine pp_39_0 rfl kl_X12_96 ?_
  refine aw_aload_n rfl rfl ?_
  refine pg_39_26 rfl kl_X12_291 ?_
  refine aw_if_eq (tgt := 35) rfl (by decide) (fun h9 => ?_) (fun h9 => ?_)
  · refine aw_iconst (v := -1) rfl (by decide) ?_
    exact aw_fi rfl rfl (by first | (unfold m_heat; rw [if_pos (show z0 s 39 26 = 0 from h9)]; done) | (unfold m_heat; rw [if_neg (show ¬ z0 s 39 26 = 0 from h9), if_neg (by rw [bB_0.mp h21]; decide)]; done) | (unfold m_heat; rw [if_neg (show ¬ z0 s 39 26 = 0 from h9), if_pos (bB_n0.mp h21), if_pos (show z0 s 52 32 = v from h32)]; done)) (by first | (unfold m_heat; rw [if_pos (show z0 s 39 26 = 0 from h9)]; done) | (unfold m_heat; rw [if_neg (show ¬ z0 s 39 26 = 0 from h9), if_neg (by rw [bB_0.mp h21]; decide)]; done) | (unfold m_heat; rw [if_neg (show ¬ z0 s 39 26 = 0 from h9), if_pos (bB_n0.mp h21), if_pos (show z0 s 52 32 = v from h32)]; done))
  · refine aw_iload_n rfl rfl ?_
    refine aw_i2l rfl ?_
    refine aw_lconst (v := 0) rfl (by decide) ?_
    refine aw_ldc2 (v := 40) rfl (aw_t7 199 rfl rfl) ?_
    refine aw_iS rfl cw_X12_217 (c_m_isIn) rfl rfl (Nat.le_of_ble_eq_true rfl) (by decide) (by decide) (by decide) (by decide) ?_
    refine aw_if_eq (tgt := 35) rfl (by decide) (fun h21 => ?_) (fun h21 => ?_)
    · refine aw_iconst (v := -1) rfl (by decide) ?_
      exact aw_fi rfl rfl (by first | (unfold m_heat; rw [if_pos (show z0 s 39 26 = 0 from h9)]; done) | (unfold m_heat; rw [if_neg (show ¬ z0 s 39 26 = 0 from h9), if_neg (by rw [bB_0.mp h21]; decide)]; done) | (unfold m_heat; rw [if_neg (show ¬ z0 s 39 26 = 0 from h9), if_pos (bB_n0.mp h21), if_pos (show z0 s 52 32 = v from h32)]; done)) (by first | (unfold m_heat; rw [if_pos (show z0 s 39 26 = 0 from h9)]; done) | (unfold m_heat; rw [if_neg (show ¬ z0 s 39 26 = 0 from h9), if_neg (by rw [bB_0.mp h21]; decide)]; done) | (unfold m_heat; rw [if_neg (show ¬ z0 s 39 26 = 0 from h9), if_pos (bB_n0.mp h21), if_pos (show z0 s 52 32 = v from h32)]; done))
    · refine aw_aload_n rfl rfl ?_
      refine pg_39_32 rfl kl_X12_61 ?_
      refine aw_bipush (v := 32) rfl (by decide) ?_
      refine pl_52 (j := 32) rfl rfl (by decide) ?_
      refine aw_iload_n rfl rfl ?_
      refine aw_icmp_ne (tgt := 37) rfl (by decide) (fun h32 => ?_) (fun h32 => ?_)
      · refine aw_aload_n rfl rfl ?_
        refine aw_vV (q0 := 39) (ci := 12) rfl cw_X12_359 rfl rfl rfl (c_m_remember ha0 ha4) rfl rfl (Nat.le_of_ble_eq_true rfl) (by decide) (by decide) (by decide) (by decide) ?_
        refine aw_aload_n rfl rfl ?_
        refine pg_39_32 rfl kl_X12_61 ?_
        refine aw_bipush (v := 32) rfl (by decide) ?_
        refine pl_52 (j := 32) rfl rfl (by decide) ?_
        refine aw_istore_n rfl (by decide) ?_
        refine aw_aload_n rfl rfl ?_
        refine pg_39_32 rfl kl_X12_61 ?_
        refine aw_bipush (v := 32) rfl (by decide) ?_
        refine aw_iload_n rfl rfl ?_
        refine ps_52 (j := 32) rfl rfl (by decide) ?_
        refine aw_iload_n rfl rfl ?_
        exact aw_fi rfl rfl (by unfold m_heat; rw [if_neg (show ¬ z0 s 39 26 = 0 from h9), if_pos (bB_n0.mp h21), if_neg (show ¬ z0 s 52 32 = v from h32)]; rfl) (by unfold m_heat; rw [if_neg (show ¬ z0 s 39 26 = 0 from h9), if_pos (bB_n0.mp h21), if_neg (show ¬ z0 s 52 32 = v from h32)]; rfl)
      · refine aw_iconst (v := -1) rfl (by decide) ?_
        exact aw_fi rfl rfl (by first | (unfold m_heat; rw [if_pos (show z0 s 39 26 = 0 from h9)]; done) | (unfold m_heat; rw [if_neg (show ¬ z0 s 39 26 = 0 from h9), if_neg (by rw [bB_0.mp h21]; decide)]; done) | (unfold m_heat; rw [if_neg (show ¬ z0 s 39 26 = 0 from h9), if_pos (bB_n0.mp h21), if_pos (show z0 s 52 32 = v from h32)]; done)) (by first | (unfold m_heat; rw [if_pos (show z0 s 39 26 = 0 from h9)]; done) | (unfold m_heat; rw [if_neg (show ¬ z0 s 39 26 = 0 from h9), if_neg (by rw [bB_0.mp h21]; decide)]; done) | (unfold m_heat; rw [if_neg (show ¬ z0 s 39 26 = 0 from h9), if_pos (bB_n0.mp h21), if_pos (show z0 s 52 32 = v from h32)]; done))
set_option maxRecDepth 4000 in
theorem c_m_draw {l : Launch} {g : ag_G} {s : am_S} {n : am_N} {j : Int32} (hj : ¬ j < 1) : aw_F l g mi_X12_draw 0 [.ref (g_ad g 39), .int j] (hp g s n) (.int (dv (dx (n.1 39 40)) j)) (hp g s (upL n 39 40 (dx (n.1 39 40)))) := by
  refine aw_F_of mo_X12_draw (by decide) (Nat.le_of_ble_eq_true rfl) ?_
  refine aw_aload_n rfl rfl ?_
  refine aw_aload_n rfl rfl ?_
  refine pg_39_40 rfl kl_X12_397 ?_
  refine aw_ldc2 (v := 6364136223846793005) rfl (aw_t7 209 rfl rfl) ?_
  refine aw_lmul rfl ?_
  refine aw_ldc2 (v := 1442695040888963407) rfl (aw_t7 210 rfl rfl) ?_
  refine aw_ladd rfl ?_
  refine pp_39_40 rfl kl_X12_397 ?_
  refine aw_aload_n rfl rfl ?_
  refine pg_39_40 rfl kl_X12_397 ?_
  refine aw_bipush (v := 33) rfl (by decide) ?_
  refine aw_lushr rfl rfl ?_
  refine aw_iload_n rfl rfl ?_
  refine aw_i2l rfl ?_
  refine aw_lrem rfl (j64 hj) ?_
  refine aw_l2i rfl ?_
  exact aw_fi rfl rfl rfl rfl
def isPm (s : am_S) (t : Int32) : Bool := decide (0 ≤ t) && decide (t < s 39 30)
def m_known (s : am_S) (T : Nat) (r : Int32) : Int32 := if isRm s r = true then fd (fun i a => a ||| (if hs (s 52 (3 * i + 2)) r = true then bt i else 0)) 0 T 0 else -1
set_option maxRecDepth 4000 in
theorem c_m_isPlan {l : Launch} {g : ag_G} {s : am_S} {n : am_N} {t : Int32} : aw_F l g mi_X12_isPlan 0 [.ref (g_ad g 39), .int t] (hp g s n) (.int (bB (isPm s t))) (hp g s n) := by
  refine aw_F_of mo_X12_isPlan (by decide) (Nat.le_of_ble_eq_true rfl) ?_
  refine aw_iload_n rfl rfl ?_
  refine aw_if_lt (tgt := 16) rfl (by decide) (fun h1 => ?_) (fun h1 => ?_)
  · refine aw_iconst (v := 0) rfl (by decide) ?_
    exact aw_fz rfl rfl (by first | exact Or.inl rfl | exact Or.inr rfl | exact bB_01) (by simp only [bB_z, bB_1, isPm, Bool.and_eq_true, Bool.and_eq_false_iff, decide_eq_true_eq, decide_eq_false_iff_not, Int32.lt_iff_toInt_lt, Int32.le_iff_toInt_le] at *; omega) rfl
  · refine aw_iload_n rfl rfl ?_
    refine aw_aload_n rfl rfl ?_
    refine pg_39_30 rfl kl_X12_286 ?_
    refine aw_icmp_ge (tgt := 16) rfl (by decide) (fun h9 => ?_) (fun h9 => ?_)
    · refine aw_iconst (v := 0) rfl (by decide) ?_
      exact aw_fz rfl rfl (by first | exact Or.inl rfl | exact Or.inr rfl | exact bB_01) (by simp only [bB_z, bB_1, isPm, Bool.and_eq_true, Bool.and_eq_false_iff, decide_eq_true_eq, decide_eq_false_iff_not, Int32.lt_iff_toInt_lt, Int32.le_iff_toInt_le] at *; omega) rfl
    · refine aw_iconst (v := 1) rfl (by decide) ?_
      refine aw_goto (tgt := 17) rfl (by decide) ?_
      exact aw_fz rfl rfl (by first | exact Or.inl rfl | exact Or.inr rfl | exact bB_01) (by simp only [bB_z, bB_1, isPm, Bool.and_eq_true, Bool.and_eq_false_iff, decide_eq_true_eq, decide_eq_false_iff_not, Int32.lt_iff_toInt_lt, Int32.le_iff_toInt_le] at *; omega) rfl
