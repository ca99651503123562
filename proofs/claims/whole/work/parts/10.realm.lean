def isT (s : am_S) (t : Int32) : Bool := decide (0 ≤ t) && decide (t < s 15 6)
def isR (s : am_S) (r : Int32) : Bool := decide (0 ≤ r) && decide (r < s 15 7)
/-- things, rings, and whose they are -/
def kb (s : am_S) (T Q : Nat) : Prop := s 15 6 = nI T ∧ T ≤ 7 ∧ s 15 7 = nI Q ∧ Q ≤ 5 ∧ ∀ j, j < T → ∃ o, o < Q ∧ s 18 j = nI o
theorem kb_eo {s s' : am_S} {T Q : Nat} (h : kb s T Q) (e : eo skC s s') : kb s' T Q := by
  obtain ⟨h1, h2, h3, h4, h5⟩ := h
  refine ⟨by rw [e 15 6 rfl]; exact h1, h2, by rw [e 15 7 rfl]; exact h3, h4, fun j hj => ?_⟩
  obtain ⟨o, ho, q⟩ := h5 j hj
  exact ⟨o, ho, by rw [e 18 j rfl]; exact q⟩
theorem kb_eF {s s' : am_S} {T Q : Nat} (h : kb s T Q) (e : eo skF s s') : kb s' T Q := by
  obtain ⟨h1, h2, h3, h4, h5⟩ := h
  refine ⟨by rw [e 15 6 rfl]; exact h1, h2, by rw [e 15 7 rfl]; exact h3, h4, fun j hj => ?_⟩
  obtain ⟨o, ho, q⟩ := h5 j hj
  exact ⟨o, ho, by rw [e 18 j rfl]; exact q⟩
theorem isT_nI {s : am_S} {T Q : Nat} {t : Int32} (h : kb s T Q) (ht : isT s t = true) : ∃ j, j < T ∧ t = nI j := by
  unfold isT at ht
  simp only [Bool.and_eq_true, decide_eq_true_eq] at ht
  rw [h.1] at ht
  exact nI_lt7 (by have := h.2.1; omega) ht.1 ht.2
theorem isR_nI {s : am_S} {T Q : Nat} {t : Int32} (h : kb s T Q) (ht : isR s t = true) : ∃ j, j < Q ∧ t = nI j := by
  unfold isR at ht
  simp only [Bool.and_eq_true, decide_eq_true_eq] at ht
  rw [h.2.2.1] at ht
  exact nI_lt7 (by have := h.2.2.2.1; omega) ht.1 ht.2
theorem isT_of {s : am_S} {T Q j : Nat} (h : kb s T Q) (hj : j < T) : isT s (nI j) = true := by
  have := h.2.1
  unfold isT
  simp only [Bool.and_eq_true, decide_eq_true_eq]
  exact ⟨nI_pos' (by omega), by rw [h.1]; exact nI_lt hj (by omega)⟩
theorem isR_of {s : am_S} {T Q j : Nat} (h : kb s T Q) (hj : j < Q) : isR s (nI j) = true := by
  have := h.2.2.2.1
  unfold isR
  simp only [Bool.and_eq_true, decide_eq_true_eq]
  exact ⟨nI_pos' (by omega), by rw [h.2.2.1]; exact nI_lt hj (by omega)⟩
/-- has a drop -/
def sl (s : am_S) (t : Int32) : Bool := isT s t && decide (0 < s 16 (12 + cl t))
def kn (s : am_S) (r : Int32) (j : Nat) : Bool := !decide ((s 16 (19 + j) >>> (r &&& 31)) &&& 1 = 0)
/-- what the law gives for letters -/
def LawIs (l : Launch) (g : ag_G) (s : am_S) (n : am_N) (V : (Nat → Int32) → Int32) : Prop := (∀ s' : am_S, (∀ j, s' 10 j = s 10 j) → aw_E l g mi_X6_worth 2 skC [.ref (g_ad g 10)] s' n (.int (V (s' 13)))) ∧ ∀ A B : Nat → Int32, (∀ i, i < 6 → A i = B i) → V A = V B
theorem LawIs.mv {l : Launch} {g : ag_G} {s s1 : am_S} {n : am_N} {V : (Nat → Int32) → Int32} (h : LawIs l g s n V) (e : ∀ j, s1 10 j = s 10 j) : LawIs l g s1 n V := ⟨fun s' e' => h.1 s' (fun j => (e' j).trans (e j)), h.2⟩
theorem LawIs.eC {l : Launch} {g : ag_G} {s s1 : am_S} {n : am_N} {V : (Nat → Int32) → Int32} (h : LawIs l g s n V) (e : eo skC s s1) : LawIs l g s1 n V := h.mv (fun j => e 10 j rfl)
theorem LawIs.eF {l : Launch} {g : ag_G} {s s1 : am_S} {n : am_N} {V : (Nat → Int32) → Int32} (h : LawIs l g s n V) (e : eo skF s s1) : LawIs l g s1 n V := h.mv (fun j => e 10 j rfl)
/-- what a drop w on thing j holds -/
def hd (V : (Nat → Int32) → Int32) (s : am_S) (j : Nat) (h w su time : Int32) : Int32 := mm (V (lets h w su (rm12 time) (s 20 j) (s 16 (26 + cl (s 18 j)))))
theorem hd_eo {V : (Nat → Int32) → Int32} {s s' : am_S} (e : eo skC s s') {j : Nat} {h w su time : Int32} : hd V s' j h w su time = hd V s j h w su time := by unfold hd; rw [e 20 j rfl, e 18 j rfl, e 16 _ rfl]
theorem hd_eF {V : (Nat → Int32) → Int32} {s s' : am_S} (e : eo skF s s') {j : Nat} {h w su time : Int32} : hd V s' j h w su time = hd V s j h w su time := by unfold hd; rw [e 20 j rfl, e 18 j rfl, e 16 _ rfl]

set_option maxRecDepth 4000 in
theorem c_X8_isTold {l : Launch} {g : ag_G} {s : am_S} {n : am_N} : aw_F l g mi_X8_isTold 0 [.ref (g_ad g 15)] (hp g s n) (.int (bB (decide (0 < s 15 6)))) (hp g s n) := by
  refine aw_F_of mo_X8_isTold (by decide) (Nat.le_of_ble_eq_true rfl) ?_
  refine aw_aload_n rfl rfl ?_
  refine pg_15_6 rfl kl_X8_43 ?_
  refine aw_if_le (tgt := 11) rfl (by decide) (fun h4 => ?_) (fun h4 => ?_)
  · refine aw_iconst (v := 0) rfl (by decide) ?_
    exact aw_fz rfl rfl (by first | exact Or.inl rfl | exact Or.inr rfl | exact bB_01) (by simp only [bB_z, bB_1, isT, isR, Bool.and_eq_true, Bool.and_eq_false_iff, decide_eq_true_eq, decide_eq_false_iff_not, Int32.lt_iff_toInt_lt, Int32.le_iff_toInt_le] at *; omega) rfl
  · refine aw_iconst (v := 1) rfl (by decide) ?_
    refine aw_goto (tgt := 12) rfl (by decide) ?_
    exact aw_fz rfl rfl (by first | exact Or.inl rfl | exact Or.inr rfl | exact bB_01) (by simp only [bB_z, bB_1, isT, isR, Bool.and_eq_true, Bool.and_eq_false_iff, decide_eq_true_eq, decide_eq_false_iff_not, Int32.lt_iff_toInt_lt, Int32.le_iff_toInt_le] at *; omega) rfl
set_option maxRecDepth 4000 in
theorem c_X8_isThing {l : Launch} {g : ag_G} {s : am_S} {n : am_N} {t : Int32} : aw_F l g mi_X8_isThing 0 [.ref (g_ad g 15), .int t] (hp g s n) (.int (bB (isT s t))) (hp g s n) := by
  refine aw_F_of mo_X8_isThing (by decide) (Nat.le_of_ble_eq_true rfl) ?_
  refine aw_iload_n rfl rfl ?_
  refine aw_if_lt (tgt := 16) rfl (by decide) (fun h1 => ?_) (fun h1 => ?_)
  · refine aw_iconst (v := 0) rfl (by decide) ?_
    exact aw_fz rfl rfl (by first | exact Or.inl rfl | exact Or.inr rfl | exact bB_01) (by simp only [bB_z, bB_1, isT, isR, Bool.and_eq_true, Bool.and_eq_false_iff, decide_eq_true_eq, decide_eq_false_iff_not, Int32.lt_iff_toInt_lt, Int32.le_iff_toInt_le] at *; omega) rfl
  · refine aw_iload_n rfl rfl ?_
    refine aw_aload_n rfl rfl ?_
    refine pg_15_6 rfl kl_X8_43 ?_
    refine aw_icmp_ge (tgt := 16) rfl (by decide) (fun h9 => ?_) (fun h9 => ?_)
    · refine aw_iconst (v := 0) rfl (by decide) ?_
      exact aw_fz rfl rfl (by first | exact Or.inl rfl | exact Or.inr rfl | exact bB_01) (by simp only [bB_z, bB_1, isT, isR, Bool.and_eq_true, Bool.and_eq_false_iff, decide_eq_true_eq, decide_eq_false_iff_not, Int32.lt_iff_toInt_lt, Int32.le_iff_toInt_le] at *; omega) rfl
    · refine aw_iconst (v := 1) rfl (by decide) ?_
      refine aw_goto (tgt := 17) rfl (by decide) ?_
      exact aw_fz rfl rfl (by first | exact Or.inl rfl | exact Or.inr rfl | exact bB_01) (by simp only [bB_z, bB_1, isT, isR, Bool.and_eq_true, Bool.and_eq_false_iff, decide_eq_true_eq, decide_eq_false_iff_not, Int32.lt_iff_toInt_lt, Int32.le_iff_toInt_le] at *; omega) rfl
set_option maxRecDepth 4000 in
theorem c_X8_isRing {l : Launch} {g : ag_G} {s : am_S} {n : am_N} {r : Int32} : aw_F l g mi_X8_isRing 0 [.ref (g_ad g 15), .int r] (hp g s n) (.int (bB (isR s r))) (hp g s n) := by
  refine aw_F_of mo_X8_isRing (by decide) (Nat.le_of_ble_eq_true rfl) ?_
  refine aw_iload_n rfl rfl ?_
  refine aw_if_lt (tgt := 16) rfl (by decide) (fun h1 => ?_) (fun h1 => ?_)
  · refine aw_iconst (v := 0) rfl (by decide) ?_
    exact aw_fz rfl rfl (by first | exact Or.inl rfl | exact Or.inr rfl | exact bB_01) (by simp only [bB_z, bB_1, isT, isR, Bool.and_eq_true, Bool.and_eq_false_iff, decide_eq_true_eq, decide_eq_false_iff_not, Int32.lt_iff_toInt_lt, Int32.le_iff_toInt_le] at *; omega) rfl
  · refine aw_iload_n rfl rfl ?_
    refine aw_aload_n rfl rfl ?_
    refine pg_15_7 rfl kl_X8_47 ?_
    refine aw_icmp_ge (tgt := 16) rfl (by decide) (fun h9 => ?_) (fun h9 => ?_)
    · refine aw_iconst (v := 0) rfl (by decide) ?_
      exact aw_fz rfl rfl (by first | exact Or.inl rfl | exact Or.inr rfl | exact bB_01) (by simp only [bB_z, bB_1, isT, isR, Bool.and_eq_true, Bool.and_eq_false_iff, decide_eq_true_eq, decide_eq_false_iff_not, Int32.lt_iff_toInt_lt, Int32.le_iff_toInt_le] at *; omega) rfl
    · refine aw_iconst (v := 1) rfl (by decide) ?_
      refine aw_goto (tgt := 17) rfl (by decide) ?_
      exact aw_fz rfl rfl (by first | exact Or.inl rfl | exact Or.inr rfl | exact bB_01) (by simp only [bB_z, bB_1, isT, isR, Bool.and_eq_true, Bool.and_eq_false_iff, decide_eq_true_eq, decide_eq_false_iff_not, Int32.lt_iff_toInt_lt, Int32.le_iff_toInt_le] at *; omega) rfl
set_option maxRecDepth 4000 in
theorem c_X8_warmthAt {l : Launch} {g : ag_G} {s : am_S} {n : am_N} {t : Int32} : aw_F l g mi_X8_warmthAt 1 [.ref (g_ad g 15), .int t] (hp g s n) (.int (warm (s 16 1) t)) (hp g s n) := by
  refine aw_F_of mo_X8_warmthAt (by decide) (Nat.le_of_ble_eq_true rfl) ?_
  refine aw_iload_n rfl rfl ?_
  refine aw_bipush (v := 12) rfl (by decide) ?_
  refine aw_irem rfl (by decide) ?_
  refine aw_istore_n rfl (by decide) ?_
  refine aw_aload_n rfl rfl ?_
  refine pg_15_1 rfl kl_X8_11 ?_
  refine aw_iconst (v := 1) rfl (by decide) ?_
  refine pl_16 (j := 1) rfl rfl (by decide) ?_
  refine aw_iconst (v := 2) rfl (by decide) ?_
  refine aw_iload_n rfl rfl ?_
  refine aw_bipush (v := 12) rfl (by decide) ?_
  refine aw_iload_n rfl rfl ?_
  refine aw_isub rfl ?_
  refine aw_mmin rfl km_X8_70 (aw_t2 171 rfl rfl) (aw_t1 18 rfl rfl) (aw_t2 172 rfl rfl) (by decide) (Nat.le_of_ble_eq_true rfl) (by decide) (by decide) ?_
  refine aw_imul rfl ?_
  refine aw_iadd rfl ?_
  exact aw_fi rfl rfl rfl rfl
set_option maxRecDepth 4000 in
theorem c_X8_warmthNow {l : Launch} {g : ag_G} {s : am_S} {n : am_N} : aw_F l g mi_X8_warmthNow 2 [.ref (g_ad g 15)] (hp g s n) (.int (warm (s 16 1) (s 16 4))) (hp g s n) := by
  refine aw_F_of mo_X8_warmthNow (by decide) (Nat.le_of_ble_eq_true rfl) ?_
  refine aw_aload_n rfl rfl ?_
  refine aw_aload_n rfl rfl ?_
  refine pg_15_1 rfl kl_X8_11 ?_
  refine aw_iconst (v := 4) rfl (by decide) ?_
  refine pl_16 (j := 4) rfl rfl (by decide) ?_
  refine aw_iV (q0 := 15) (ci := 8) rfl cw_X8_67 rfl rfl rfl (c_X8_warmthAt) rfl rfl (Nat.le_of_ble_eq_true rfl) (by decide) (by decide) (by decide) (by decide) ?_
  exact aw_fi rfl rfl rfl rfl
set_option maxRecDepth 4000 in
theorem c_X8_isSealed {l : Launch} {g : ag_G} {s : am_S} {n : am_N} {t : Int32} {T Q : Nat} (hb : kb s T Q) : aw_F l g mi_X8_isSealed 1 [.ref (g_ad g 15), .int t] (hp g s n) (.int (bB (sl s t))) (hp g s n) := by
  refine aw_F_of mo_X8_isSealed (by decide) (Nat.le_of_ble_eq_true rfl) ?_
  refine aw_aload_n rfl rfl ?_
  refine aw_iload_n rfl rfl ?_
  refine aw_iV (q0 := 15) (ci := 8) rfl cw_X8_57 rfl rfl rfl (c_X8_isThing) rfl rfl (Nat.le_of_ble_eq_true rfl) (by decide) (by decide) (by decide) (by decide) ?_
  refine aw_if_eq (tgt := 24) rfl (by decide) (fun h5 => ?_) (fun h5 => ?_)
  · refine aw_iconst (v := 0) rfl (by decide) ?_
    exact aw_fz rfl rfl (by first | exact Or.inl rfl | exact Or.inr rfl) (by first | (rw [bB_0] at h5; simp [sl, h5, bB]; done) | (simp only [sl, h5, cl_nI (show j < 2 ^ 31 by omega), Bool.true_and, bB_1, bB_z, decide_eq_true_eq, decide_eq_false_iff_not, Int32.lt_iff_toInt_lt, Int32.le_iff_toInt_le] at *; omega)) rfl
  · rw [bB_n0] at h5
    obtain ⟨j, hj, rfl⟩ := isT_nI hb h5
    have hT := hb.2.1
    refine aw_aload_n rfl rfl ?_
    refine pg_15_1 rfl kl_X8_11 ?_
    refine aw_bipush (v := 12) rfl (by decide) ?_
    refine aw_iload_n rfl rfl ?_
    refine aw_iadd rfl ?_
    refine pl_16 rfl (iL 12 j rfl) (by omega) ?_
    refine aw_if_le (tgt := 24) rfl (by decide) (fun h17 => ?_) (fun h17 => ?_)
    · refine aw_iconst (v := 0) rfl (by decide) ?_
      exact aw_fz rfl rfl (by first | exact Or.inl rfl | exact Or.inr rfl) (by first | (rw [bB_0] at h5; simp [sl, h5, bB]; done) | (simp only [sl, h5, cl_nI (show j < 2 ^ 31 by omega), Bool.true_and, bB_1, bB_z, decide_eq_true_eq, decide_eq_false_iff_not, Int32.lt_iff_toInt_lt, Int32.le_iff_toInt_le] at *; omega)) rfl
    · refine aw_iconst (v := 1) rfl (by decide) ?_
      refine aw_goto (tgt := 25) rfl (by decide) ?_
      exact aw_fz rfl rfl (by first | exact Or.inl rfl | exact Or.inr rfl) (by first | (rw [bB_0] at h5; simp [sl, h5, bB]; done) | (simp only [sl, h5, cl_nI (show j < 2 ^ 31 by omega), Bool.true_and, bB_1, bB_z, decide_eq_true_eq, decide_eq_false_iff_not, Int32.lt_iff_toInt_lt, Int32.le_iff_toInt_le] at *; omega)) rfl
set_option maxRecDepth 4000 in
theorem c_X8_knowsIt {l : Launch} {g : ag_G} {s : am_S} {n : am_N} {r : Int32} {j : Nat} (hj : j < 7) : aw_F l g mi_X8_knowsIt 0 [.ref (g_ad g 15), .int r, .int (nI j)] (hp g s n) (.int (bB (kn s r j))) (hp g s n) := by
  refine aw_F_of mo_X8_knowsIt (by decide) (Nat.le_of_ble_eq_true rfl) ?_
  refine aw_aload_n rfl rfl ?_
  refine pg_15_1 rfl kl_X8_11 ?_
  refine aw_bipush (v := 19) rfl (by decide) ?_
  refine aw_iload_n rfl rfl ?_
  refine aw_iadd rfl ?_
  refine pl_16 rfl (iL 19 j rfl) (by omega) ?_
  refine aw_iload_n rfl rfl ?_
  refine aw_ishr rfl ?_
  refine aw_iconst (v := 1) rfl (by decide) ?_
  refine aw_iand rfl ?_
  refine aw_if_eq (tgt := 20) rfl (by decide) (fun h13 => ?_) (fun h13 => ?_)
  · refine aw_iconst (v := 0) rfl (by decide) ?_
    exact aw_fz rfl rfl (by first | exact Or.inl rfl | exact Or.inr rfl | exact bB_01) (by simp [kn, bB, h13]) rfl
  · refine aw_iconst (v := 1) rfl (by decide) ?_
    refine aw_goto (tgt := 21) rfl (by decide) ?_
    exact aw_fz rfl rfl (by first | exact Or.inl rfl | exact Or.inr rfl | exact bB_01) (by simp [kn, bB, h13]) rfl
