/-! the reference -/
theorem i3 (j c : Nat) : (3 : Int32) * nI j + nI c = nI (3 * j + c) := by rw [show (3 : Int32) * nI j = nI (3 * j) from pk_mul 3 j]; exact nI_add _ _
theorem i30 (j : Nat) : (3 : Int32) * nI j = nI (3 * j) := pk_mul 3 j
theorem i5 (j c : Nat) : (5 : Int32) * nI j + nI c = nI (5 * j + c) := by rw [show (5 : Int32) * nI j = nI (5 * j) from pk_mul 5 j]; exact nI_add _ _
theorem i21 (r : Nat) : (21 : Int32) + 2 * nI r = nI (21 + 2 * r) := by rw [show (2 : Int32) * nI r = nI (2 * r) from pk_mul 2 r]; exact nI_add 21 _
theorem i21c (r c : Nat) : (21 : Int32) + 2 * nI r + nI c = nI (21 + 2 * r + c) := by rw [i21]; exact nI_add _ _
def inn (v a b : Int64) : Bool := decide (a ≤ v) && decide (v ≤ b)
theorem lgc_lt (x y : Int64) : lg_cmp x y < 0 ↔ x < y := by rw [← Int32.not_le, lg_cmp_ge, Int64.not_le]
theorem lgc_gt (x y : Int64) : 0 < lg_cmp x y ↔ y < x := by
  unfold lg_cmp
  split
  · simp_all
  · split
    · simp_all
    · rename_i h1 h2
      simp only [gt_iff_lt] at h1
      exact ⟨fun z => absurd z (by decide), fun z => absurd z h1⟩
theorem inn_i {x : Int32} {a b : Int64} {A B : Int} (ha : a.toInt = A) (hb : b.toInt = B) : inn x.toInt64 a b = (decide (A ≤ x.toInt) && decide (x.toInt ≤ B)) := by
  unfold inn
  rw [← ha, ← hb]
  congr 1
  · simp only [Int64.le_iff_toInt_le, Int32.toInt_toInt64]
  · simp only [Int64.le_iff_toInt_le, Int32.toInt_toInt64]
def isTm (s : am_S) (t : Int32) : Bool := decide (0 ≤ t) && decide (t < s 39 26)
def isRm (s : am_S) (t : Int32) : Bool := decide (0 ≤ t) && decide (t < s 39 27)
/-- the reference's things, rings, owners -/
def mb (s : am_S) (T Q : Nat) : Prop := s 39 26 = nI T ∧ T ≤ 7 ∧ s 39 27 = nI Q ∧ Q ≤ 5 ∧ ∀ j, j < T → ∃ o, o < Q ∧ s 46 (5 * j) = nI o
theorem isTm_nI {s : am_S} {T Q : Nat} {t : Int32} (h : mb s T Q) (ht : isTm s t = true) : ∃ j, j < T ∧ t = nI j := by
  unfold isTm at ht
  simp only [Bool.and_eq_true, decide_eq_true_eq] at ht
  rw [h.1] at ht
  exact nI_lt7 (by have := h.2.1; omega) ht.1 ht.2
theorem isRm_nI {s : am_S} {T Q : Nat} {t : Int32} (h : mb s T Q) (ht : isRm s t = true) : ∃ j, j < Q ∧ t = nI j := by
  unfold isRm at ht
  simp only [Bool.and_eq_true, decide_eq_true_eq] at ht
  rw [h.2.2.1] at ht
  exact nI_lt7 (by have := h.2.2.2.1; omega) ht.1 ht.2
theorem isTm_of {s : am_S} {T Q j : Nat} (h : mb s T Q) (hj : j < T) : isTm s (nI j) = true := by
  have := h.2.1
  unfold isTm
  simp only [Bool.and_eq_true, decide_eq_true_eq]
  exact ⟨nI_pos' (by omega), by rw [h.1]; exact nI_lt hj (by omega)⟩
/-- shut, by a row -/
def shm (s : am_S) (f : Nat → Int32) (t : Int32) : Bool := isTm s t && !decide (f (3 * cl t + 1) = 0)
def skm (f : Nat → Int32) (j r : Nat) : Bool := decide (2 * f (3 * j + 1) ≤ f (21 + 2 * r))
def cPm (s : am_S) (f : Nat → Int32) (t r : Int32) : Bool := shm s f t && (isRm s r && !decide (s 46 (5 * cl t) = r))
def cSm (s : am_S) (f : Nat → Int32) (t v : Int32) : Bool := isTm s t && (inn v.toInt64 1 9 && (decide (f (3 * cl t + 1) + v ≤ 9) && decide (v ≤ f 31)))
def mSeal (f : Nat → Int32) (j : Nat) (v : Int32) : Nat → Int32 := upd (upd f (3 * j + 1) (f (3 * j + 1) + v)) 31 (f 31 - v)
def mOpen (f : Nat → Int32) (j : Nat) : Nat → Int32 := upd (upd f 31 (mn 999 (f 31 + f (3 * j + 1)))) (3 * j + 1) 0
def mPry (f : Nat → Int32) (j r : Nat) : Bool × (Nat → Int32) := if skm f j r then (true, upd (upd f (3 * j + 2) (f (3 * j + 2) ||| bt r)) 34 (f 34 + 1)) else (false, upd (upd (upd (upd f (3 * j + 2) (f (3 * j + 2) ||| bt r)) (3 * j + 1) 0) (21 + 2 * r) (mx 0 (f (21 + 2 * r) - 1))) (21 + 2 * r + 1) (mn 9 (f (21 + 2 * r + 1) + 1)))
theorem up_1 {s : am_S} {k i : Nat} {v : Int32} : up s k i v = upR s k (upd (s k) i v) := rfl
set_option maxRecDepth 4000 in
theorem c_m_isIn {l : Launch} {g : ag_G} {v a b : Int64} {ws : va_W} : aw_F l g mi_X12_isIn 0 [.long v, .long a, .long b] (ws) (.int (bB (inn v a b))) (ws) := by
  refine aw_F_of mo_X12_isIn (by decide) (Nat.le_of_ble_eq_true rfl) ?_
  refine aw_lload_n rfl rfl ?_
  refine aw_lload_n rfl rfl ?_
  refine aw_lcmp rfl ?_
  refine aw_if_lt (tgt := 17) rfl (by decide) (fun h3 => ?_) (fun h3 => ?_)
  · refine aw_iconst (v := 0) rfl (by decide) ?_
    exact aw_fz rfl rfl (by first | exact Or.inl rfl | exact Or.inr rfl | exact bB_01) (by simp only [lgc_lt, lgc_gt, Int64.not_lt] at h3; first | (simp [inn, ← Int64.not_lt, h3, bB]; done) | (simp only [lgc_gt, Int64.not_lt] at h10; simp [inn, h3, h10, bB]; done) | (simp only [lgc_gt, Int64.not_lt] at h10; simp [inn, h3, ← Int64.not_lt, h10, bB]; done)) rfl
  · refine aw_lload_n rfl rfl ?_
    refine aw_lload rfl rfl ?_
    refine aw_lcmp rfl ?_
    refine aw_if_gt (tgt := 17) rfl (by decide) (fun h10 => ?_) (fun h10 => ?_)
    · refine aw_iconst (v := 0) rfl (by decide) ?_
      exact aw_fz rfl rfl (by first | exact Or.inl rfl | exact Or.inr rfl | exact bB_01) (by simp only [lgc_lt, lgc_gt, Int64.not_lt] at h3; first | (simp [inn, ← Int64.not_lt, h3, bB]; done) | (simp only [lgc_gt, Int64.not_lt] at h10; simp [inn, h3, h10, bB]; done) | (simp only [lgc_gt, Int64.not_lt] at h10; simp [inn, h3, ← Int64.not_lt, h10, bB]; done)) rfl
    · refine aw_iconst (v := 1) rfl (by decide) ?_
      refine aw_goto (tgt := 18) rfl (by decide) ?_
      exact aw_fz rfl rfl (by first | exact Or.inl rfl | exact Or.inr rfl | exact bB_01) (by simp only [lgc_lt, lgc_gt, Int64.not_lt] at h3; first | (simp [inn, ← Int64.not_lt, h3, bB]; done) | (simp only [lgc_gt, Int64.not_lt] at h10; simp [inn, h3, h10, bB]; done) | (simp only [lgc_gt, Int64.not_lt] at h10; simp [inn, h3, ← Int64.not_lt, h10, bB]; done)) rfl
set_option maxRecDepth 4000 in
theorem c_m_isThing {l : Launch} {g : ag_G} {s : am_S} {n : am_N} {t : Int32} : aw_F l g mi_X12_isThing 0 [.ref (g_ad g 39), .int t] (hp g s n) (.int (bB (isTm s t))) (hp g s n) := by
  refine aw_F_of mo_X12_isThing (by decide) (Nat.le_of_ble_eq_true rfl) ?_
  refine aw_iload_n rfl rfl ?_
  refine aw_if_lt (tgt := 16) rfl (by decide) (fun h1 => ?_) (fun h1 => ?_)
  · refine aw_iconst (v := 0) rfl (by decide) ?_
    exact aw_fz rfl rfl (by first | exact Or.inl rfl | exact Or.inr rfl | exact bB_01) (by simp only [bB_z, bB_1, isTm, isRm, Bool.and_eq_true, Bool.and_eq_false_iff, decide_eq_true_eq, decide_eq_false_iff_not, Int32.lt_iff_toInt_lt, Int32.le_iff_toInt_le] at *; omega) rfl
  · refine aw_iload_n rfl rfl ?_
    refine aw_aload_n rfl rfl ?_
    refine pg_39_26 rfl kl_X12_291 ?_
    refine aw_icmp_ge (tgt := 16) rfl (by decide) (fun h9 => ?_) (fun h9 => ?_)
    · refine aw_iconst (v := 0) rfl (by decide) ?_
      exact aw_fz rfl rfl (by first | exact Or.inl rfl | exact Or.inr rfl | exact bB_01) (by simp only [bB_z, bB_1, isTm, isRm, Bool.and_eq_true, Bool.and_eq_false_iff, decide_eq_true_eq, decide_eq_false_iff_not, Int32.lt_iff_toInt_lt, Int32.le_iff_toInt_le] at *; omega) rfl
    · refine aw_iconst (v := 1) rfl (by decide) ?_
      refine aw_goto (tgt := 17) rfl (by decide) ?_
      exact aw_fz rfl rfl (by first | exact Or.inl rfl | exact Or.inr rfl | exact bB_01) (by simp only [bB_z, bB_1, isTm, isRm, Bool.and_eq_true, Bool.and_eq_false_iff, decide_eq_true_eq, decide_eq_false_iff_not, Int32.lt_iff_toInt_lt, Int32.le_iff_toInt_le] at *; omega) rfl
set_option maxRecDepth 4000 in
theorem c_m_isRing {l : Launch} {g : ag_G} {s : am_S} {n : am_N} {t : Int32} : aw_F l g mi_X12_isRing 0 [.ref (g_ad g 39), .int t] (hp g s n) (.int (bB (isRm s t))) (hp g s n) := by
  refine aw_F_of mo_X12_isRing (by decide) (Nat.le_of_ble_eq_true rfl) ?_
  refine aw_iload_n rfl rfl ?_
  refine aw_if_lt (tgt := 16) rfl (by decide) (fun h1 => ?_) (fun h1 => ?_)
  · refine aw_iconst (v := 0) rfl (by decide) ?_
    exact aw_fz rfl rfl (by first | exact Or.inl rfl | exact Or.inr rfl | exact bB_01) (by simp only [bB_z, bB_1, isTm, isRm, Bool.and_eq_true, Bool.and_eq_false_iff, decide_eq_true_eq, decide_eq_false_iff_not, Int32.lt_iff_toInt_lt, Int32.le_iff_toInt_le] at *; omega) rfl
  · refine aw_iload_n rfl rfl ?_
    refine aw_aload_n rfl rfl ?_
    refine pg_39_27 rfl kl_X12_294 ?_
    refine aw_icmp_ge (tgt := 16) rfl (by decide) (fun h9 => ?_) (fun h9 => ?_)
    · refine aw_iconst (v := 0) rfl (by decide) ?_
      exact aw_fz rfl rfl (by first | exact Or.inl rfl | exact Or.inr rfl | exact bB_01) (by simp only [bB_z, bB_1, isTm, isRm, Bool.and_eq_true, Bool.and_eq_false_iff, decide_eq_true_eq, decide_eq_false_iff_not, Int32.lt_iff_toInt_lt, Int32.le_iff_toInt_le] at *; omega) rfl
    · refine aw_iconst (v := 1) rfl (by decide) ?_
      refine aw_goto (tgt := 17) rfl (by decide) ?_
      exact aw_fz rfl rfl (by first | exact Or.inl rfl | exact Or.inr rfl | exact bB_01) (by simp only [bB_z, bB_1, isTm, isRm, Bool.and_eq_true, Bool.and_eq_false_iff, decide_eq_true_eq, decide_eq_false_iff_not, Int32.lt_iff_toInt_lt, Int32.le_iff_toInt_le] at *; omega) rfl
set_option maxRecDepth 4000 in
theorem c_m_of {l : Launch} {g : ag_G} {s : am_S} {n : am_N} {j c : Nat} (hj : j < 7) (hc : c < 5) : aw_F l g mi_X12_of 0 [.ref (g_ad g 39), .int (nI j), .int (nI c)] (hp g s n) (.int (s 46 (5 * j + c))) (hp g s n) := by
  refine aw_F_of mo_X12_of (by decide) (Nat.le_of_ble_eq_true rfl) ?_
  refine aw_aload_n rfl rfl ?_
  refine pg_39_20 rfl kl_X12_43 ?_
  refine aw_iconst (v := 5) rfl (by decide) ?_
  refine aw_iload_n rfl rfl ?_
  refine aw_imul rfl ?_
  refine aw_iload_n rfl rfl ?_
  refine aw_iadd rfl ?_
  refine pl_46 rfl (i5 _ _) (by omega) ?_
  exact aw_fi rfl rfl rfl rfl
set_option maxRecDepth 4000 in
theorem c_m_warmthAt {l : Launch} {g : ag_G} {h t : Int32} {ws : va_W} : aw_F l g mi_X12_warmthAt 1 [.int h, .int t] (ws) (.int (warm h t)) (ws) := by
  refine aw_F_of mo_X12_warmthAt (by decide) (Nat.le_of_ble_eq_true rfl) ?_
  refine aw_iload_n rfl rfl ?_
  refine aw_bipush (v := 12) rfl (by decide) ?_
  refine aw_irem rfl (by decide) ?_
  refine aw_istore_n rfl (by decide) ?_
  refine aw_iload_n rfl rfl ?_
  refine aw_iconst (v := 2) rfl (by decide) ?_
  refine aw_iload_n rfl rfl ?_
  refine aw_bipush (v := 12) rfl (by decide) ?_
  refine aw_iload_n rfl rfl ?_
  refine aw_isub rfl ?_
  refine aw_mmin rfl km_X12_309 (aw_t2 171 rfl rfl) (aw_t1 18 rfl rfl) (aw_t2 172 rfl rfl) (by decide) (Nat.le_of_ble_eq_true rfl) (by decide) (by decide) ?_
  refine aw_imul rfl ?_
  refine aw_iadd rfl ?_
  exact aw_fi rfl rfl rfl rfl
set_option maxRecDepth 4000 in
theorem c_m_isOpen_52 {l : Launch} {g : ag_G} {s : am_S} {n : am_N} {j : Nat} (hj : j < 7) : aw_F l g mi_X12_isOpen 0 [.ref (g_ad g 52), .int (nI j)] (hp g s n) (.int (bB (decide (s 52 (3 * j + 1) = 0)))) (hp g s n) := by
  refine aw_F_of mo_X12_isOpen (by decide) (Nat.le_of_ble_eq_true rfl) ?_
  refine aw_aload_n rfl rfl ?_
  refine aw_iconst (v := 3) rfl (by decide) ?_
  refine aw_iload_n rfl rfl ?_
  refine aw_imul rfl ?_
  refine aw_iconst (v := 1) rfl (by decide) ?_
  refine aw_iadd rfl ?_
  refine pl_52 rfl (i3 j 1) (by omega) ?_
  refine aw_if_ne (tgt := 14) rfl (by decide) (fun h7 => ?_) (fun h7 => ?_)
  · refine aw_iconst (v := 0) rfl (by decide) ?_
    exact aw_fz rfl rfl (by first | exact Or.inl rfl | exact Or.inr rfl | exact bB_01) (by first | (simp [h7, bB]; done) | (simp [(by simpa using h7 : s 52 (3 * j + 1) = 0), bB]; done)) rfl
  · refine aw_iconst (v := 1) rfl (by decide) ?_
    refine aw_goto (tgt := 15) rfl (by decide) ?_
    exact aw_fz rfl rfl (by first | exact Or.inl rfl | exact Or.inr rfl | exact bB_01) (by first | (simp [h7, bB]; done) | (simp [(by simpa using h7 : s 52 (3 * j + 1) = 0), bB]; done)) rfl
set_option maxRecDepth 4000 in
theorem c_m_isShut_52 {l : Launch} {g : ag_G} {s : am_S} {n : am_N} {t : Int32} {T Q : Nat} (hb : mb s T Q) : aw_F l g mi_X12_isShut 1 [.ref (g_ad g 39), .ref (g_ad g 52), .int t] (hp g s n) (.int (bB (shm s (s 52) t))) (hp g s n) := by
  refine aw_F_of mo_X12_isShut (by decide) (Nat.le_of_ble_eq_true rfl) ?_
  refine aw_aload_n rfl rfl ?_
  refine aw_iload_n rfl rfl ?_
  refine aw_iV (q0 := 39) (ci := 12) rfl cw_X12_346 rfl rfl rfl (c_m_isThing) rfl rfl (Nat.le_of_ble_eq_true rfl) (by decide) (by decide) (by decide) (by decide) ?_
  refine aw_if_eq (tgt := 20) rfl (by decide) (fun h5 => ?_) (fun h5 => ?_)
  · refine aw_iconst (v := 0) rfl (by decide) ?_
    exact aw_fz rfl rfl (by first | exact Or.inl rfl | exact Or.inr rfl | exact bB_01) (by first | (simp [shm, bB_0.mp h5, bB]; done) | (have z := of_decide_eq_true (bB_n0.mp h13); simp [shm, q5, hcj, z, bB]; done) | (have z := of_decide_eq_false (bB_0.mp (by simpa using h13)); simp [shm, q5, hcj, z, bB]; done)) rfl
  · have q5 := bB_n0.mp h5
    obtain ⟨j, hj, rfl⟩ := isTm_nI hb q5
    have hT := hb.2.1
    have hcj : cl (nI j) = j := cl_nI (by omega)
    refine aw_aload_n rfl rfl ?_
    refine aw_iload_n rfl rfl ?_
    refine aw_iS rfl cw_X12_338 (c_m_isOpen_52 (by omega)) rfl rfl (Nat.le_of_ble_eq_true rfl) (by decide) (by decide) (by decide) (by decide) ?_
    refine aw_if_ne (tgt := 20) rfl (by decide) (fun h13 => ?_) (fun h13 => ?_)
    · refine aw_iconst (v := 0) rfl (by decide) ?_
      exact aw_fz rfl rfl (by first | exact Or.inl rfl | exact Or.inr rfl | exact bB_01) (by first | (simp [shm, bB_0.mp h5, bB]; done) | (have z := of_decide_eq_true (bB_n0.mp h13); simp [shm, q5, hcj, z, bB]; done) | (have z := of_decide_eq_false (bB_0.mp (by simpa using h13)); simp [shm, q5, hcj, z, bB]; done)) rfl
    · refine aw_iconst (v := 1) rfl (by decide) ?_
      refine aw_goto (tgt := 21) rfl (by decide) ?_
      exact aw_fz rfl rfl (by first | exact Or.inl rfl | exact Or.inr rfl | exact bB_01) (by first | (simp [shm, bB_0.mp h5, bB]; done) | (have z := of_decide_eq_true (bB_n0.mp h13); simp [shm, q5, hcj, z, bB]; done) | (have z := of_decide_eq_false (bB_0.mp (by simpa using h13)); simp [shm, q5, hcj, z, bB]; done)) rfl
set_option maxRecDepth 4000 in
theorem c_m_isSkilled_52 {l : Launch} {g : ag_G} {s : am_S} {n : am_N} {j r : Nat} (hj : j < 7) (hr : r < 5) : aw_F l g mi_X12_isSkilled 0 [.ref (g_ad g 52), .int (nI j), .int (nI r)] (hp g s n) (.int (bB (skm (s 52) j r))) (hp g s n) := by
  refine aw_F_of mo_X12_isSkilled (by decide) (Nat.le_of_ble_eq_true rfl) ?_
  refine aw_aload_n rfl rfl ?_
  refine aw_bipush (v := 21) rfl (by decide) ?_
  refine aw_iconst (v := 2) rfl (by decide) ?_
  refine aw_iload_n rfl rfl ?_
  refine aw_imul rfl ?_
  refine aw_iadd rfl ?_
  refine pl_52 rfl (i21 r) (by omega) ?_
  refine aw_iconst (v := 2) rfl (by decide) ?_
  refine aw_aload_n rfl rfl ?_
  refine aw_iconst (v := 3) rfl (by decide) ?_
  refine aw_iload_n rfl rfl ?_
  refine aw_imul rfl ?_
  refine aw_iconst (v := 1) rfl (by decide) ?_
  refine aw_iadd rfl ?_
  refine pl_52 rfl (i3 j 1) (by omega) ?_
  refine aw_imul rfl ?_
  refine aw_icmp_lt (tgt := 24) rfl (by decide) (fun h17 => ?_) (fun h17 => ?_)
  · refine aw_iconst (v := 0) rfl (by decide) ?_
    exact aw_fz rfl rfl (by first | exact Or.inl rfl | exact Or.inr rfl | exact bB_01) (by simp only [skm, bB_z, bB_1, decide_eq_true_eq, decide_eq_false_iff_not, Int32.not_le, Int32.not_lt] at *; exact h17) rfl
  · refine aw_iconst (v := 1) rfl (by decide) ?_
    refine aw_goto (tgt := 25) rfl (by decide) ?_
    exact aw_fz rfl rfl (by first | exact Or.inl rfl | exact Or.inr rfl | exact bB_01) (by simp only [skm, bB_z, bB_1, decide_eq_true_eq, decide_eq_false_iff_not, Int32.not_le, Int32.not_lt] at *; exact h17) rfl
set_option maxRecDepth 4000 in
theorem c_m_canPry_52 {l : Launch} {g : ag_G} {s : am_S} {n : am_N} {t r : Int32} {T Q : Nat} (hb : mb s T Q) : aw_F l g mi_X12_canPry 2 [.ref (g_ad g 39), .ref (g_ad g 52), .int t, .int r] (hp g s n) (.int (bB (cPm s (s 52) t r))) (hp g s n) := by
  refine aw_F_of mo_X12_canPry (by decide) (Nat.le_of_ble_eq_true rfl) ?_
  refine aw_aload_n rfl rfl ?_
  refine aw_aload_n rfl rfl ?_
  refine aw_iload_n rfl rfl ?_
  refine aw_iV (q0 := 39) (ci := 12) rfl cw_X12_379 rfl rfl rfl (c_m_isShut_52 hb) rfl rfl (Nat.le_of_ble_eq_true rfl) (by decide) (by decide) (by decide) (by decide) ?_
  refine aw_if_eq (tgt := 31) rfl (by decide) (fun h6 => ?_) (fun h6 => ?_)
  · refine aw_iconst (v := 0) rfl (by decide) ?_
    exact aw_fz rfl rfl (by first | exact Or.inl rfl | exact Or.inr rfl | exact bB_01) (by first | (simp [cPm, bB_0.mp h6, bB]; done) | (simp [cPm, q6, bB_0.mp h14, bB]; done) | (simp [cPm, q6, bB_n0.mp h14, hcj, (show s 46 (5 * j) = r from h24), bB]; done) | (simp [cPm, q6, bB_n0.mp h14, hcj, (show ¬ s 46 (5 * j) = r from h24), bB]; done)) rfl
  · have q6 := bB_n0.mp h6
    obtain ⟨j, hj, rfl⟩ := isTm_nI hb (Bool.and_eq_true_iff.mp q6).1
    have hT := hb.2.1
    have hcj : cl (nI j) = j := cl_nI (by omega)
    refine aw_aload_n rfl rfl ?_
    refine aw_iload_n rfl rfl ?_
    refine aw_iV (q0 := 39) (ci := 12) rfl cw_X12_351 rfl rfl rfl (c_m_isRing) rfl rfl (Nat.le_of_ble_eq_true rfl) (by decide) (by decide) (by decide) (by decide) ?_
    refine aw_if_eq (tgt := 31) rfl (by decide) (fun h14 => ?_) (fun h14 => ?_)
    · refine aw_iconst (v := 0) rfl (by decide) ?_
      exact aw_fz rfl rfl (by first | exact Or.inl rfl | exact Or.inr rfl | exact bB_01) (by first | (simp [cPm, bB_0.mp h6, bB]; done) | (simp [cPm, q6, bB_0.mp h14, bB]; done) | (simp [cPm, q6, bB_n0.mp h14, hcj, (show s 46 (5 * j) = r from h24), bB]; done) | (simp [cPm, q6, bB_n0.mp h14, hcj, (show ¬ s 46 (5 * j) = r from h24), bB]; done)) rfl
    · refine aw_aload_n rfl rfl ?_
      refine aw_iload_n rfl rfl ?_
      refine aw_iconst (v := 0) rfl (by decide) ?_
      refine aw_iV (q0 := 39) (ci := 12) rfl cw_X12_319 rfl rfl rfl (c_m_of (c := 0) (by omega) (by decide)) rfl rfl (Nat.le_of_ble_eq_true rfl) (by decide) (by decide) (by decide) (by decide) ?_
      refine aw_iload_n rfl rfl ?_
      refine aw_icmp_eq (tgt := 31) rfl (by decide) (fun h24 => ?_) (fun h24 => ?_)
      · refine aw_iconst (v := 0) rfl (by decide) ?_
        exact aw_fz rfl rfl (by first | exact Or.inl rfl | exact Or.inr rfl | exact bB_01) (by first | (simp [cPm, bB_0.mp h6, bB]; done) | (simp [cPm, q6, bB_0.mp h14, bB]; done) | (simp [cPm, q6, bB_n0.mp h14, hcj, (show s 46 (5 * j) = r from h24), bB]; done) | (simp [cPm, q6, bB_n0.mp h14, hcj, (show ¬ s 46 (5 * j) = r from h24), bB]; done)) rfl
      · refine aw_iconst (v := 1) rfl (by decide) ?_
        refine aw_goto (tgt := 32) rfl (by decide) ?_
        exact aw_fz rfl rfl (by first | exact Or.inl rfl | exact Or.inr rfl | exact bB_01) (by first | (simp [cPm, bB_0.mp h6, bB]; done) | (simp [cPm, q6, bB_0.mp h14, bB]; done) | (simp [cPm, q6, bB_n0.mp h14, hcj, (show s 46 (5 * j) = r from h24), bB]; done) | (simp [cPm, q6, bB_n0.mp h14, hcj, (show ¬ s 46 (5 * j) = r from h24), bB]; done)) rfl
set_option maxRecDepth 4000 in
theorem c_m_canSeal_52 {l : Launch} {g : ag_G} {s : am_S} {n : am_N} {t v : Int32} {T Q : Nat} (hb : mb s T Q) : aw_F l g mi_X12_canSeal 1 [.ref (g_ad g 39), .ref (g_ad g 52), .int t, .int v] (hp g s n) (.int (bB (cSm s (s 52) t v))) (hp g s n) := by
  refine aw_F_of mo_X12_canSeal (by decide) (Nat.le_of_ble_eq_true rfl) ?_
  refine aw_aload_n rfl rfl ?_
  refine aw_iload_n rfl rfl ?_
  refine aw_iV (q0 := 39) (ci := 12) rfl cw_X12_346 rfl rfl rfl (c_m_isThing) rfl rfl (Nat.le_of_ble_eq_true rfl) (by decide) (by decide) (by decide) (by decide) ?_
  refine aw_if_eq (tgt := 46) rfl (by decide) (fun h5 => ?_) (fun h5 => ?_)
  · refine aw_iconst (v := 0) rfl (by decide) ?_
    exact aw_fz rfl rfl (by first | exact Or.inl rfl | exact Or.inr rfl | exact bB_01) (by first | (simp [cSm, bB_0.mp h5, bB]; done) | (simp [cSm, q5, bB_0.mp h17, bB]; done) | (simp [cSm, q5, bB_n0.mp h17, hcj, ← Int32.not_lt, h31, bB]; done) | (simp [cSm, q5, bB_n0.mp h17, hcj, ← Int32.not_lt, h31, h39, bB]; done)) rfl
  · have q5 := bB_n0.mp h5
    obtain ⟨j, hj, rfl⟩ := isTm_nI hb q5
    have hT := hb.2.1
    have hcj : cl (nI j) = j := cl_nI (by omega)
    refine aw_iload_n rfl rfl ?_
    refine aw_i2l rfl ?_
    refine aw_lconst (v := 1) rfl (by decide) ?_
    refine aw_ldc2 (v := 9) rfl (aw_t7 135 rfl rfl) ?_
    refine aw_iS rfl cw_X12_217 (c_m_isIn) rfl rfl (Nat.le_of_ble_eq_true rfl) (by decide) (by decide) (by decide) (by decide) ?_
    refine aw_if_eq (tgt := 46) rfl (by decide) (fun h17 => ?_) (fun h17 => ?_)
    · refine aw_iconst (v := 0) rfl (by decide) ?_
      exact aw_fz rfl rfl (by first | exact Or.inl rfl | exact Or.inr rfl | exact bB_01) (by first | (simp [cSm, bB_0.mp h5, bB]; done) | (simp [cSm, q5, bB_0.mp h17, bB]; done) | (simp [cSm, q5, bB_n0.mp h17, hcj, ← Int32.not_lt, h31, bB]; done) | (simp [cSm, q5, bB_n0.mp h17, hcj, ← Int32.not_lt, h31, h39, bB]; done)) rfl
    · refine aw_aload_n rfl rfl ?_
      refine aw_iconst (v := 3) rfl (by decide) ?_
      refine aw_iload_n rfl rfl ?_
      refine aw_imul rfl ?_
      refine aw_iconst (v := 1) rfl (by decide) ?_
      refine aw_iadd rfl ?_
      refine pl_52 rfl (i3 j 1) (by omega) ?_
      refine aw_iload_n rfl rfl ?_
      refine aw_iadd rfl ?_
      refine aw_bipush (v := 9) rfl (by decide) ?_
      refine aw_icmp_gt (tgt := 46) rfl (by decide) (fun h31 => ?_) (fun h31 => ?_)
      · refine aw_iconst (v := 0) rfl (by decide) ?_
        exact aw_fz rfl rfl (by first | exact Or.inl rfl | exact Or.inr rfl | exact bB_01) (by first | (simp [cSm, bB_0.mp h5, bB]; done) | (simp [cSm, q5, bB_0.mp h17, bB]; done) | (simp [cSm, q5, bB_n0.mp h17, hcj, ← Int32.not_lt, h31, bB]; done) | (simp [cSm, q5, bB_n0.mp h17, hcj, ← Int32.not_lt, h31, h39, bB]; done)) rfl
      · refine aw_aload_n rfl rfl ?_
        refine aw_bipush (v := 31) rfl (by decide) ?_
        refine pl_52 (j := 31) rfl rfl (by decide) ?_
        refine aw_iload_n rfl rfl ?_
        refine aw_icmp_lt (tgt := 46) rfl (by decide) (fun h39 => ?_) (fun h39 => ?_)
        · refine aw_iconst (v := 0) rfl (by decide) ?_
          exact aw_fz rfl rfl (by first | exact Or.inl rfl | exact Or.inr rfl | exact bB_01) (by first | (simp [cSm, bB_0.mp h5, bB]; done) | (simp [cSm, q5, bB_0.mp h17, bB]; done) | (simp [cSm, q5, bB_n0.mp h17, hcj, ← Int32.not_lt, h31, bB]; done) | (simp [cSm, q5, bB_n0.mp h17, hcj, ← Int32.not_lt, h31, h39, bB]; done)) rfl
        · refine aw_iconst (v := 1) rfl (by decide) ?_
          refine aw_goto (tgt := 47) rfl (by decide) ?_
          exact aw_fz rfl rfl (by first | exact Or.inl rfl | exact Or.inr rfl | exact bB_01) (by first | (simp [cSm, bB_0.mp h5, bB]; done) | (simp [cSm, q5, bB_0.mp h17, bB]; done) | (simp [cSm, q5, bB_n0.mp h17, hcj, ← Int32.not_lt, h31, bB]; done) | (simp [cSm, q5, bB_n0.mp h17, hcj, ← Int32.not_lt, h31, h39, bB]; done)) rfl
set_option maxRecDepth 4000 in
theorem c_m_seals_52 {l : Launch} {g : ag_G} {s : am_S} {n : am_N} {j : Nat} {v : Int32} (hj : j < 7) : aw_V l g mi_X12_seals 0 [.ref (g_ad g 52), .int (nI j), .int v] (hp g s n) (hp g (upR s 52 (mSeal (s 52) j v)) n) := by
  refine aw_V_of mo_X12_seals (by decide) (Nat.le_of_ble_eq_true rfl) ?_
  refine aw_aload_n rfl rfl ?_
  refine aw_iconst (v := 3) rfl (by decide) ?_
  refine aw_iload_n rfl rfl ?_
  refine aw_imul rfl ?_
  refine aw_iconst (v := 1) rfl (by decide) ?_
  refine aw_iadd rfl ?_
  refine aw_dup2 rfl rfl rfl ?_
  refine pl_52 rfl (i3 j 1) (by omega) ?_
  refine aw_iload_n rfl rfl ?_
  refine aw_iadd rfl ?_
  refine ps_52 rfl (i3 j 1) (by omega) ?_
  refine aw_aload_n rfl rfl ?_
  refine aw_bipush (v := 31) rfl (by decide) ?_
  refine aw_dup2 rfl rfl rfl ?_
  refine pl_52 (j := 31) rfl rfl (by decide) ?_
  refine aw_iload_n rfl rfl ?_
  refine aw_isub rfl ?_
  refine ps_52 (j := 31) rfl rfl (by decide) ?_
  exact aw_fv rfl rfl (by rw [show up s 52 (3 * j + 1) (s 52 (3 * j + 1) + v) 52 31 = s 52 31 from by (rw [up_s, if_neg (by omega)])]; rfl)
set_option maxRecDepth 4000 in
theorem c_m_opens_52 {l : Launch} {g : ag_G} {s : am_S} {n : am_N} {j : Nat} (hj : j < 7) : aw_V l g mi_X12_opens 1 [.ref (g_ad g 52), .int (nI j)] (hp g s n) (hp g (upR s 52 (mOpen (s 52) j)) n) := by
  refine aw_V_of mo_X12_opens (by decide) (Nat.le_of_ble_eq_true rfl) ?_
  refine aw_aload_n rfl rfl ?_
  refine aw_bipush (v := 31) rfl (by decide) ?_
  refine aw_sipush (v := 999) rfl (by decide) ?_
  refine aw_aload_n rfl rfl ?_
  refine aw_bipush (v := 31) rfl (by decide) ?_
  refine pl_52 (j := 31) rfl rfl (by decide) ?_
  refine aw_aload_n rfl rfl ?_
  refine aw_iconst (v := 3) rfl (by decide) ?_
  refine aw_iload_n rfl rfl ?_
  refine aw_imul rfl ?_
  refine aw_iconst (v := 1) rfl (by decide) ?_
  refine aw_iadd rfl ?_
  refine pl_52 rfl (i3 j 1) (by omega) ?_
  refine aw_iadd rfl ?_
  refine aw_mmin rfl km_X12_309 (aw_t2 171 rfl rfl) (aw_t1 18 rfl rfl) (aw_t2 172 rfl rfl) (by decide) (Nat.le_of_ble_eq_true rfl) (by decide) (by decide) ?_
  refine ps_52 (j := 31) rfl rfl (by decide) ?_
  refine aw_aload_n rfl rfl ?_
  refine aw_iconst (v := 3) rfl (by decide) ?_
  refine aw_iload_n rfl rfl ?_
  refine aw_imul rfl ?_
  refine aw_iconst (v := 1) rfl (by decide) ?_
  refine aw_iadd rfl ?_
  refine aw_iconst (v := 0) rfl (by decide) ?_
  refine ps_52 rfl (i3 j 1) (by omega) ?_
  exact aw_fv rfl rfl rfl
set_option maxRecDepth 4000 in
theorem c_m_isOpen_53 {l : Launch} {g : ag_G} {s : am_S} {n : am_N} {j : Nat} (hj : j < 7) : aw_F l g mi_X12_isOpen 0 [.ref (g_ad g 53), .int (nI j)] (hp g s n) (.int (bB (decide (s 53 (3 * j + 1) = 0)))) (hp g s n) := by
  refine aw_F_of mo_X12_isOpen (by decide) (Nat.le_of_ble_eq_true rfl) ?_
  refine aw_aload_n rfl rfl ?_
  refine aw_iconst (v := 3) rfl (by decide) ?_
  refine aw_iload_n rfl rfl ?_
  refine aw_imul rfl ?_
  refine aw_iconst (v := 1) rfl (by decide) ?_
  refine aw_iadd rfl ?_
  refine pl_53 rfl (i3 j 1) (by omega) ?_
  refine aw_if_ne (tgt := 14) rfl (by decide) (fun h7 => ?_) (fun h7 => ?_)
  · refine aw_iconst (v := 0) rfl (by decide) ?_
    exact aw_fz rfl rfl (by first | exact Or.inl rfl | exact Or.inr rfl | exact bB_01) (by first | (simp [h7, bB]; done) | (simp [(by simpa using h7 : s 53 (3 * j + 1) = 0), bB]; done)) rfl
  · refine aw_iconst (v := 1) rfl (by decide) ?_
    refine aw_goto (tgt := 15) rfl (by decide) ?_
    exact aw_fz rfl rfl (by first | exact Or.inl rfl | exact Or.inr rfl | exact bB_01) (by first | (simp [h7, bB]; done) | (simp [(by simpa using h7 : s 53 (3 * j + 1) = 0), bB]; done)) rfl
set_option maxRecDepth 4000 in
theorem c_m_isShut_53 {l : Launch} {g : ag_G} {s : am_S} {n : am_N} {t : Int32} {T Q : Nat} (hb : mb s T Q) : aw_F l g mi_X12_isShut 1 [.ref (g_ad g 39), .ref (g_ad g 53), .int t] (hp g s n) (.int (bB (shm s (s 53) t))) (hp g s n) := by
  refine aw_F_of mo_X12_isShut (by decide) (Nat.le_of_ble_eq_true rfl) ?_
  refine aw_aload_n rfl rfl ?_
  refine aw_iload_n rfl rfl ?_
  refine aw_iV (q0 := 39) (ci := 12) rfl cw_X12_346 rfl rfl rfl (c_m_isThing) rfl rfl (Nat.le_of_ble_eq_true rfl) (by decide) (by decide) (by decide) (by decide) ?_
  refine aw_if_eq (tgt := 20) rfl (by decide) (fun h5 => ?_) (fun h5 => ?_)
  · refine aw_iconst (v := 0) rfl (by decide) ?_
    exact aw_fz rfl rfl (by first | exact Or.inl rfl | exact Or.inr rfl | exact bB_01) (by first | (simp [shm, bB_0.mp h5, bB]; done) | (have z := of_decide_eq_true (bB_n0.mp h13); simp [shm, q5, hcj, z, bB]; done) | (have z := of_decide_eq_false (bB_0.mp (by simpa using h13)); simp [shm, q5, hcj, z, bB]; done)) rfl
  · have q5 := bB_n0.mp h5
    obtain ⟨j, hj, rfl⟩ := isTm_nI hb q5
    have hT := hb.2.1
    have hcj : cl (nI j) = j := cl_nI (by omega)
    refine aw_aload_n rfl rfl ?_
    refine aw_iload_n rfl rfl ?_
    refine aw_iS rfl cw_X12_338 (c_m_isOpen_53 (by omega)) rfl rfl (Nat.le_of_ble_eq_true rfl) (by decide) (by decide) (by decide) (by decide) ?_
    refine aw_if_ne (tgt := 20) rfl (by decide) (fun h13 => ?_) (fun h13 => ?_)
    · refine aw_iconst (v := 0) rfl (by decide) ?_
      exact aw_fz rfl rfl (by first | exact Or.inl rfl | exact Or.inr rfl | exact bB_01) (by first | (simp [shm, bB_0.mp h5, bB]; done) | (have z := of_decide_eq_true (bB_n0.mp h13); simp [shm, q5, hcj, z, bB]; done) | (have z := of_decide_eq_false (bB_0.mp (by simpa using h13)); simp [shm, q5, hcj, z, bB]; done)) rfl
    · refine aw_iconst (v := 1) rfl (by decide) ?_
      refine aw_goto (tgt := 21) rfl (by decide) ?_
      exact aw_fz rfl rfl (by first | exact Or.inl rfl | exact Or.inr rfl | exact bB_01) (by first | (simp [shm, bB_0.mp h5, bB]; done) | (have z := of_decide_eq_true (bB_n0.mp h13); simp [shm, q5, hcj, z, bB]; done) | (have z := of_decide_eq_false (bB_0.mp (by simpa using h13)); simp [shm, q5, hcj, z, bB]; done)) rfl
set_option maxRecDepth 4000 in
theorem c_m_isSkilled_53 {l : Launch} {g : ag_G} {s : am_S} {n : am_N} {j r : Nat} (hj : j < 7) (hr : r < 5) : aw_F l g mi_X12_isSkilled 0 [.ref (g_ad g 53), .int (nI j), .int (nI r)] (hp g s n) (.int (bB (skm (s 53) j r))) (hp g s n) := by
  refine aw_F_of mo_X12_isSkilled (by decide) (Nat.le_of_ble_eq_true rfl) ?_
  refine aw_aload_n rfl rfl ?_
  refine aw_bipush (v := 21) rfl (by decide) ?_
  refine aw_iconst (v := 2) rfl (by decide) ?_
  refine aw_iload_n rfl rfl ?_
  refine aw_imul rfl ?_
  refine aw_iadd rfl ?_
  refine pl_53 rfl (i21 r) (by omega) ?_
  refine aw_iconst (v := 2) rfl (by decide) ?_
  refine aw_aload_n rfl rfl ?_
  refine aw_iconst (v := 3) rfl (by decide) ?_
  refine aw_iload_n rfl rfl ?_
  refine aw_imul rfl ?_
  refine aw_iconst (v := 1) rfl (by decide) ?_
  refine aw_iadd rfl ?_
  refine pl_53 rfl (i3 j 1) (by omega) ?_
  refine aw_imul rfl ?_
  refine aw_icmp_lt (tgt := 24) rfl (by decide) (fun h17 => ?_) (fun h17 => ?_)
  · refine aw_iconst (v := 0) rfl (by decide) ?_
    exact aw_fz rfl rfl (by first | exact Or.inl rfl | exact Or.inr rfl | exact bB_01) (by simp only [skm, bB_z, bB_1, decide_eq_true_eq, decide_eq_false_iff_not, Int32.not_le, Int32.not_lt] at *; exact h17) rfl
  · refine aw_iconst (v := 1) rfl (by decide) ?_
    refine aw_goto (tgt := 25) rfl (by decide) ?_
    exact aw_fz rfl rfl (by first | exact Or.inl rfl | exact Or.inr rfl | exact bB_01) (by simp only [skm, bB_z, bB_1, decide_eq_true_eq, decide_eq_false_iff_not, Int32.not_le, Int32.not_lt] at *; exact h17) rfl
set_option maxRecDepth 4000 in
theorem c_m_canPry_53 {l : Launch} {g : ag_G} {s : am_S} {n : am_N} {t r : Int32} {T Q : Nat} (hb : mb s T Q) : aw_F l g mi_X12_canPry 2 [.ref (g_ad g 39), .ref (g_ad g 53), .int t, .int r] (hp g s n) (.int (bB (cPm s (s 53) t r))) (hp g s n) := by
  refine aw_F_of mo_X12_canPry (by decide) (Nat.le_of_ble_eq_true rfl) ?_
  refine aw_aload_n rfl rfl ?_
  refine aw_aload_n rfl rfl ?_
  refine aw_iload_n rfl rfl ?_
  refine aw_iV (q0 := 39) (ci := 12) rfl cw_X12_379 rfl rfl rfl (c_m_isShut_53 hb) rfl rfl (Nat.le_of_ble_eq_true rfl) (by decide) (by decide) (by decide) (by decide) ?_
  refine aw_if_eq (tgt := 31) rfl (by decide) (fun h6 => ?_) (fun h6 => ?_)
  · refine aw_iconst (v := 0) rfl (by decide) ?_
    exact aw_fz rfl rfl (by first | exact Or.inl rfl | exact Or.inr rfl | exact bB_01) (by first | (simp [cPm, bB_0.mp h6, bB]; done) | (simp [cPm, q6, bB_0.mp h14, bB]; done) | (simp [cPm, q6, bB_n0.mp h14, hcj, (show s 46 (5 * j) = r from h24), bB]; done) | (simp [cPm, q6, bB_n0.mp h14, hcj, (show ¬ s 46 (5 * j) = r from h24), bB]; done)) rfl
  · have q6 := bB_n0.mp h6
    obtain ⟨j, hj, rfl⟩ := isTm_nI hb (Bool.and_eq_true_iff.mp q6).1
    have hT := hb.2.1
    have hcj : cl (nI j) = j := cl_nI (by omega)
    refine aw_aload_n rfl rfl ?_
    refine aw_iload_n rfl rfl ?_
    refine aw_iV (q0 := 39) (ci := 12) rfl cw_X12_351 rfl rfl rfl (c_m_isRing) rfl rfl (Nat.le_of_ble_eq_true rfl) (by decide) (by decide) (by decide) (by decide) ?_
    refine aw_if_eq (tgt := 31) rfl (by decide) (fun h14 => ?_) (fun h14 => ?_)
    · refine aw_iconst (v := 0) rfl (by decide) ?_
      exact aw_fz rfl rfl (by first | exact Or.inl rfl | exact Or.inr rfl | exact bB_01) (by first | (simp [cPm, bB_0.mp h6, bB]; done) | (simp [cPm, q6, bB_0.mp h14, bB]; done) | (simp [cPm, q6, bB_n0.mp h14, hcj, (show s 46 (5 * j) = r from h24), bB]; done) | (simp [cPm, q6, bB_n0.mp h14, hcj, (show ¬ s 46 (5 * j) = r from h24), bB]; done)) rfl
    · refine aw_aload_n rfl rfl ?_
      refine aw_iload_n rfl rfl ?_
      refine aw_iconst (v := 0) rfl (by decide) ?_
      refine aw_iV (q0 := 39) (ci := 12) rfl cw_X12_319 rfl rfl rfl (c_m_of (c := 0) (by omega) (by decide)) rfl rfl (Nat.le_of_ble_eq_true rfl) (by decide) (by decide) (by decide) (by decide) ?_
      refine aw_iload_n rfl rfl ?_
      refine aw_icmp_eq (tgt := 31) rfl (by decide) (fun h24 => ?_) (fun h24 => ?_)
      · refine aw_iconst (v := 0) rfl (by decide) ?_
        exact aw_fz rfl rfl (by first | exact Or.inl rfl | exact Or.inr rfl | exact bB_01) (by first | (simp [cPm, bB_0.mp h6, bB]; done) | (simp [cPm, q6, bB_0.mp h14, bB]; done) | (simp [cPm, q6, bB_n0.mp h14, hcj, (show s 46 (5 * j) = r from h24), bB]; done) | (simp [cPm, q6, bB_n0.mp h14, hcj, (show ¬ s 46 (5 * j) = r from h24), bB]; done)) rfl
      · refine aw_iconst (v := 1) rfl (by decide) ?_
        refine aw_goto (tgt := 32) rfl (by decide) ?_
        exact aw_fz rfl rfl (by first | exact Or.inl rfl | exact Or.inr rfl | exact bB_01) (by first | (simp [cPm, bB_0.mp h6, bB]; done) | (simp [cPm, q6, bB_0.mp h14, bB]; done) | (simp [cPm, q6, bB_n0.mp h14, hcj, (show s 46 (5 * j) = r from h24), bB]; done) | (simp [cPm, q6, bB_n0.mp h14, hcj, (show ¬ s 46 (5 * j) = r from h24), bB]; done)) rfl
set_option maxRecDepth 4000 in
theorem c_m_canSeal_53 {l : Launch} {g : ag_G} {s : am_S} {n : am_N} {t v : Int32} {T Q : Nat} (hb : mb s T Q) : aw_F l g mi_X12_canSeal 1 [.ref (g_ad g 39), .ref (g_ad g 53), .int t, .int v] (hp g s n) (.int (bB (cSm s (s 53) t v))) (hp g s n) := by
  refine aw_F_of mo_X12_canSeal (by decide) (Nat.le_of_ble_eq_true rfl) ?_
  refine aw_aload_n rfl rfl ?_
  refine aw_iload_n rfl rfl ?_
  refine aw_iV (q0 := 39) (ci := 12) rfl cw_X12_346 rfl rfl rfl (c_m_isThing) rfl rfl (Nat.le_of_ble_eq_true rfl) (by decide) (by decide) (by decide) (by decide) ?_
  refine aw_if_eq (tgt := 46) rfl (by decide) (fun h5 => ?_) (fun h5 => ?_)
  · refine aw_iconst (v := 0) rfl (by decide) ?_
    exact aw_fz rfl rfl (by first | exact Or.inl rfl | exact Or.inr rfl | exact bB_01) (by first | (simp [cSm, bB_0.mp h5, bB]; done) | (simp [cSm, q5, bB_0.mp h17, bB]; done) | (simp [cSm, q5, bB_n0.mp h17, hcj, ← Int32.not_lt, h31, bB]; done) | (simp [cSm, q5, bB_n0.mp h17, hcj, ← Int32.not_lt, h31, h39, bB]; done)) rfl
  · have q5 := bB_n0.mp h5
    obtain ⟨j, hj, rfl⟩ := isTm_nI hb q5
    have hT := hb.2.1
    have hcj : cl (nI j) = j := cl_nI (by omega)
    refine aw_iload_n rfl rfl ?_
    refine aw_i2l rfl ?_
    refine aw_lconst (v := 1) rfl (by decide) ?_
    refine aw_ldc2 (v := 9) rfl (aw_t7 135 rfl rfl) ?_
    refine aw_iS rfl cw_X12_217 (c_m_isIn) rfl rfl (Nat.le_of_ble_eq_true rfl) (by decide) (by decide) (by decide) (by decide) ?_
    refine aw_if_eq (tgt := 46) rfl (by decide) (fun h17 => ?_) (fun h17 => ?_)
    · refine aw_iconst (v := 0) rfl (by decide) ?_
      exact aw_fz rfl rfl (by first | exact Or.inl rfl | exact Or.inr rfl | exact bB_01) (by first | (simp [cSm, bB_0.mp h5, bB]; done) | (simp [cSm, q5, bB_0.mp h17, bB]; done) | (simp [cSm, q5, bB_n0.mp h17, hcj, ← Int32.not_lt, h31, bB]; done) | (simp [cSm, q5, bB_n0.mp h17, hcj, ← Int32.not_lt, h31, h39, bB]; done)) rfl
    · refine aw_aload_n rfl rfl ?_
      refine aw_iconst (v := 3) rfl (by decide) ?_
      refine aw_iload_n rfl rfl ?_
      refine aw_imul rfl ?_
      refine aw_iconst (v := 1) rfl (by decide) ?_
      refine aw_iadd rfl ?_
      refine pl_53 rfl (i3 j 1) (by omega) ?_
      refine aw_iload_n rfl rfl ?_
      refine aw_iadd rfl ?_
      refine aw_bipush (v := 9) rfl (by decide) ?_
      refine aw_icmp_gt (tgt := 46) rfl (by decide) (fun h31 => ?_) (fun h31 => ?_)
      · refine aw_iconst (v := 0) rfl (by decide) ?_
        exact aw_fz rfl rfl (by first | exact Or.inl rfl | exact Or.inr rfl | exact bB_01) (by first | (simp [cSm, bB_0.mp h5, bB]; done) | (simp [cSm, q5, bB_0.mp h17, bB]; done) | (simp [cSm, q5, bB_n0.mp h17, hcj, ← Int32.not_lt, h31, bB]; done) | (simp [cSm, q5, bB_n0.mp h17, hcj, ← Int32.not_lt, h31, h39, bB]; done)) rfl
      · refine aw_aload_n rfl rfl ?_
        refine aw_bipush (v := 31) rfl (by decide) ?_
        refine pl_53 (j := 31) rfl rfl (by decide) ?_
        refine aw_iload_n rfl rfl ?_
        refine aw_icmp_lt (tgt := 46) rfl (by decide) (fun h39 => ?_) (fun h39 => ?_)
        · refine aw_iconst (v := 0) rfl (by decide) ?_
          exact aw_fz rfl rfl (by first | exact Or.inl rfl | exact Or.inr rfl | exact bB_01) (by first | (simp [cSm, bB_0.mp h5, bB]; done) | (simp [cSm, q5, bB_0.mp h17, bB]; done) | (simp [cSm, q5, bB_n0.mp h17, hcj, ← Int32.not_lt, h31, bB]; done) | (simp [cSm, q5, bB_n0.mp h17, hcj, ← Int32.not_lt, h31, h39, bB]; done)) rfl
        · refine aw_iconst (v := 1) rfl (by decide) ?_
          refine aw_goto (tgt := 47) rfl (by decide) ?_
          exact aw_fz rfl rfl (by first | exact Or.inl rfl | exact Or.inr rfl | exact bB_01) (by first | (simp [cSm, bB_0.mp h5, bB]; done) | (simp [cSm, q5, bB_0.mp h17, bB]; done) | (simp [cSm, q5, bB_n0.mp h17, hcj, ← Int32.not_lt, h31, bB]; done) | (simp [cSm, q5, bB_n0.mp h17, hcj, ← Int32.not_lt, h31, h39, bB]; done)) rfl
set_option maxRecDepth 4000 in
theorem c_m_seals_53 {l : Launch} {g : ag_G} {s : am_S} {n : am_N} {j : Nat} {v : Int32} (hj : j < 7) : aw_V l g mi_X12_seals 0 [.ref (g_ad g 53), .int (nI j), .int v] (hp g s n) (hp g (upR s 53 (mSeal (s 53) j v)) n) := by
  refine aw_V_of mo_X12_seals (by decide) (Nat.le_of_ble_eq_true rfl) ?_
  refine aw_aload_n rfl rfl ?_
  refine aw_iconst (v := 3) rfl (by decide) ?_
  refine aw_iload_n rfl rfl ?_
  refine aw_imul rfl ?_
  refine aw_iconst (v := 1) rfl (by decide) ?_
  refine aw_iadd rfl ?_
  refine aw_dup2 rfl rfl rfl ?_
  refine pl_53 rfl (i3 j 1) (by omega) ?_
  refine aw_iload_n rfl rfl ?_
  refine aw_iadd rfl ?_
  refine ps_53 rfl (i3 j 1) (by omega) ?_
  refine aw_aload_n rfl rfl ?_
  refine aw_bipush (v := 31) rfl (by decide) ?_
  refine aw_dup2 rfl rfl rfl ?_
  refine pl_53 (j := 31) rfl rfl (by decide) ?_
  refine aw_iload_n rfl rfl ?_
  refine aw_isub rfl ?_
  refine ps_53 (j := 31) rfl rfl (by decide) ?_
  exact aw_fv rfl rfl (by rw [show up s 53 (3 * j + 1) (s 53 (3 * j + 1) + v) 53 31 = s 53 31 from by (rw [up_s, if_neg (by omega)])]; rfl)
set_option maxRecDepth 4000 in
theorem c_m_opens_53 {l : Launch} {g : ag_G} {s : am_S} {n : am_N} {j : Nat} (hj : j < 7) : aw_V l g mi_X12_opens 1 [.ref (g_ad g 53), .int (nI j)] (hp g s n) (hp g (upR s 53 (mOpen (s 53) j)) n) := by
  refine aw_V_of mo_X12_opens (by decide) (Nat.le_of_ble_eq_true rfl) ?_
  refine aw_aload_n rfl rfl ?_
  refine aw_bipush (v := 31) rfl (by decide) ?_
  refine aw_sipush (v := 999) rfl (by decide) ?_
  refine aw_aload_n rfl rfl ?_
  refine aw_bipush (v := 31) rfl (by decide) ?_
  refine pl_53 (j := 31) rfl rfl (by decide) ?_
  refine aw_aload_n rfl rfl ?_
  refine aw_iconst (v := 3) rfl (by decide) ?_
  refine aw_iload_n rfl rfl ?_
  refine aw_imul rfl ?_
  refine aw_iconst (v := 1) rfl (by decide) ?_
  refine aw_iadd rfl ?_
  refine pl_53 rfl (i3 j 1) (by omega) ?_
  refine aw_iadd rfl ?_
  refine aw_mmin rfl km_X12_309 (aw_t2 171 rfl rfl) (aw_t1 18 rfl rfl) (aw_t2 172 rfl rfl) (by decide) (Nat.le_of_ble_eq_true rfl) (by decide) (by decide) ?_
  refine ps_53 (j := 31) rfl rfl (by decide) ?_
  refine aw_aload_n rfl rfl ?_
  refine aw_iconst (v := 3) rfl (by decide) ?_
  refine aw_iload_n rfl rfl ?_
  refine aw_imul rfl ?_
  refine aw_iconst (v := 1) rfl (by decide) ?_
  refine aw_iadd rfl ?_
  refine aw_iconst (v := 0) rfl (by decide) ?_
  refine ps_53 rfl (i3 j 1) (by omega) ?_
  exact aw_fv rfl rfl rfl
