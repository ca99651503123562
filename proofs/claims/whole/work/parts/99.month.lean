/-! the month on both sides -/
def msk (P : Nat → Bool) : Nat → Nat
  | 0 => 0
  | d + 1 => msk P d ||| (if P d = true then 2 ^ d else 0)
theorem or_lt : ∀ d, d < 7 → ∀ m, m < 2 ^ d → m ||| 2 ^ d < 2 ^ (d + 1) := by decide +kernel
theorem msk_lt (P : Nat → Bool) : ∀ d, d ≤ 7 → msk P d < 2 ^ d
  | 0, _ => Nat.one_pos
  | d + 1, h => by
    have ih := msk_lt P d (by omega)
    simp only [msk]
    split
    · exact or_lt d (by omega) _ ih
    · rw [Nat.or_zero, Nat.pow_succ]; omega
theorem or_bit1 : ∀ d, d < 7 → ∀ m, m < 2 ^ d → ∀ i, i < 7 → (m ||| 2 ^ d).testBit i = (m.testBit i || decide (i = d)) := by decide +kernel
theorem msk_bit (P : Nat → Bool) : ∀ d, d ≤ 7 → ∀ i, i < 7 → (msk P d).testBit i = (decide (i < d) && P i)
  | 0, _, i, _ => by
    show (0 : Nat).testBit i = _
    rw [Nat.zero_testBit]
    simp
  | d + 1, h, i, hi => by
    have ih := msk_bit P d (by omega) i hi
    have hl := msk_lt P d (by omega)
    simp only [msk]
    by_cases hP : P d = true
    · rw [if_pos hP, or_bit1 d (by omega) _ hl i hi, ih]
      by_cases e : i = d
      · subst e; rw [hP]; simp
      · rw [decide_eq_false e, Bool.or_false]
        by_cases e2 : i < d
        · rw [decide_eq_true e2, decide_eq_true (show i < d + 1 by omega)]
        · rw [decide_eq_false e2, decide_eq_false (show ¬ i < d + 1 by omega)]
    · rw [if_neg hP, Nat.or_zero, ih]
      by_cases e : i = d
      · subst e; rw [Bool.eq_false_iff.mpr hP]; simp
      · by_cases e2 : i < d
        · rw [decide_eq_true e2, decide_eq_true (show i < d + 1 by omega)]
        · rw [decide_eq_false e2, decide_eq_false (show ¬ i < d + 1 by omega)]
theorem or_bt : ∀ i, i < 7 → ∀ m, m < 2 ^ i → nI m ||| bt i = nI (m ||| 2 ^ i) := by decide +kernel
theorem fd_msk {F : Nat → Int32 → Int32} {P : Nat → Bool} (hF : ∀ i a, i < 7 → F i a = if P i = true then a ||| bt i else a) : ∀ d, d ≤ 7 → fd F 0 d 0 = nI (msk P d)
  | 0, _ => rfl
  | d + 1, h => by
    rw [fd_snoc, Nat.zero_add, fd_msk hF d (by omega), hF d _ (by omega)]
    have hl := msk_lt P d (by omega)
    simp only [msk]
    by_cases hP : P d = true
    · rw [if_pos hP, if_pos hP, or_bt d (by omega) _ hl]
    · rw [if_neg hP, if_neg hP, Nat.or_zero]
def mlP (V : (Nat → Int32) → Int32) (sm : am_S) (h : Nat → Int32) (i : Nat) : Bool := !decide (h (3 * i + 1) = 0) && decide (hnm V sm h i < warm (h 32) (h 35))
theorem gm_msk {V : (Nat → Int32) → Int32} {sm : am_S} {h : Nat → Int32} {T : Nat} (hT : T ≤ 7) : fd (gmM V sm h) 0 T 0 = nI (msk (mlP V sm h) T) := by
  refine fd_msk (fun i a _ => ?_) T hT
  unfold gmM mlP
  by_cases h1 : h (3 * i + 1) = 0
  · rw [if_pos h1, decide_eq_true h1]; rfl
  · rw [if_neg h1, decide_eq_false h1]
    by_cases h2 : hnm V sm h i < warm (h 32) (h 35)
    · rw [if_pos h2, decide_eq_true h2]; rfl
    · rw [if_neg h2, decide_eq_false h2]; rfl
theorem upd_id {f : Nat → Int32} {k : Nat} : upd f k (f k) = f := by
  funext i
  by_cases e : i = k
  · subst e; exact upd_s
  · exact upd_n e
theorem gF_lo {D : Nat → Int32} {ev me : Int32} {i j : Nat} {f : Nat → Int32} (h1 : j ≠ 33) (h2 : j ≠ 3 * i + 1) (h3 : j ≠ 3 * i + 2) : gF D ev me i f j = f j := gF_33 h1 h2 h3
theorem fd_gFlo {D : Nat → Int32} {ev me : Int32} {j : Nat} (hj : j < 21) : ∀ d, (∀ i, i < d → j ≠ 3 * i + 1 ∧ j ≠ 3 * i + 2) → ∀ f, fd (gF D ev me) 0 d f j = f j
  | 0, _, _ => rfl
  | d + 1, h, f => by
    rw [fd_snoc, Nat.zero_add, gF_33 (by omega) (h d (by omega)).1 (h d (by omega)).2, fd_gFlo hj d (fun i hi => h i (by omega))]
theorem rl_melt {V : (Nat → Int32) → Int32} {sc sm : am_S} {f h : Nat → Int32} {T Q : Nat} (hS : SR sc sm T Q) (hw : RW f h T Q) (hb : RB h T Q) (d : Nat) (hd : d ≤ T) : (fd (kPF V sc (warm (f 1) (f 4)) ((1 <<< (sc 15 7 &&& 31)) - 1)) 0 d (0, f)).1 = nI (msk (mlP V sm h) d) ∧ RW (fd (kPF V sc (warm (f 1) (f 4)) ((1 <<< (sc 15 7 &&& 31)) - 1)) 0 d (0, f)).2 (fd (gF (sm 46) (bt Q - 1) (nI (msk (mlP V sm h) T))) 0 d h) T Q := by
  have hT := hS.1.2.1
  have hQ := hS.1.2.2.2.1
  have hev : (1 <<< (sc 15 7 &&& 31)) - 1 = bt Q - 1 := by rw [hS.1.2.2.1]; rfl
  have hwm : warm (f 1) (f 4) = warm (h 32) (h 35) := by rw [hw.1.2.1, hw.1.2.2.2.2]
  rw [hev, hwm]
  induction d with
  | zero => exact ⟨rfl, hw⟩
  | succ d ih =>
    obtain ⟨ih1, ih2⟩ := ih (by omega)
    rw [fd_snoc, fd_snoc, Nat.zero_add]
    generalize hz : fd (kPF V sc (warm (h 32) (h 35)) (bt Q - 1)) 0 d (0, f) = z at ih1 ih2 ⊢
    have e1 : fd (gF (sm 46) (bt Q - 1) (nI (msk (mlP V sm h) T))) 0 d h (3 * d + 1) = h (3 * d + 1) := fd_gFlo (by omega) d (fun i hi => by omega) h
    have e0 : fd (gF (sm 46) (bt Q - 1) (nI (msk (mlP V sm h) T))) 0 d h (3 * d) = h (3 * d) := fd_gFlo (by omega) d (fun i hi => by omega) h
    have e35 : fd (gF (sm 46) (bt Q - 1) (nI (msk (mlP V sm h) T))) 0 d h 35 = h 35 := fd_gF (by decide) (by decide) d 0 h (by omega)
    have er : ∀ r, r < 5 → fd (gF (sm 46) (bt Q - 1) (nI (msk (mlP V sm h) T))) 0 d h (21 + 2 * r) = h (21 + 2 * r) := fun r hr => fd_gF (by omega) (by omega) d 0 h (by omega)
    generalize hH : fd (gF (sm 46) (bt Q - 1) (nI (msk (mlP V sm h) T))) 0 d h = H at ih2 e1 e0 e35 er ⊢
    have hhd : hdF V sc z.2 d = hnm V sm h d := by
      rw [← rl_hd hS ih2 (by omega)]
      unfold hnm hbm
      obtain ⟨o, ho, hoe⟩ := hS.2.1.2.2.2.2 d (by omega)
      rw [e1, e0, e35, hoe, cl_nI (by omega), er o (by omega)]
    have hbit : hs (nI (msk (mlP V sm h) T)) (nI d) = mlP V sm h d := by
      rw [hs_tb _ (Nat.lt_of_lt_of_le (msk_lt _ T hT) (Nat.pow_le_pow_right (by decide) hT)) d (by omega), msk_bit _ T hT d (by omega), decide_eq_true (show d < T by omega), Bool.true_and]
    have hsl : slF sc z.2 (nI d) = !decide (h (3 * d + 1) = 0) := by
      unfold slF isT
      obtain ⟨D, hD, hDe⟩ := (hb.1.1 d (by omega)).2
      rw [cl_nI (by omega), hS.1.1, decide_eq_true (nI_pos' (by omega)), decide_eq_true (nI_lt (by omega) (by omega)), (ih2.2.1 d (by omega)).2.1, e1, hDe]
      rcases Nat.eq_zero_or_pos D with rfl | hp
      · rfl
      · rw [decide_eq_true (rl_gt0 hp (by omega)), decide_eq_false (nI_ne0 hp (by omega))]; rfl
    have hlt := msk_lt (mlP V sm h) d (by omega)
    unfold kPF
    rw [hsl, hhd]
    by_cases hm : mlP V sm h d = true
    · have hm' := hm
      unfold mlP at hm'
      simp only [Bool.and_eq_true, decide_eq_true_eq] at hm'
      rw [if_pos hm'.1, if_neg (Int32.not_le.mpr hm'.2)]
      simp only [msk]
      rw [if_pos hm]
      refine ⟨by show z.1 ||| bt d = _; rw [ih1, or_bt d (by omega) _ hlt], ?_⟩
      unfold gF
      rw [hbit, if_pos hm]
      show RW (kMelt sc z.2 (bt Q - 1) d) _ T Q
      unfold kMelt
      have eJ : ∃ j', j' < T ∧ ((12 + d = 5 + j' ∧ 3 * d + 1 = 3 * j') ∨ (12 + d = 12 + j' ∧ 3 * d + 1 = 3 * j' + 1) ∨ (12 + d = 19 + j' ∧ 3 * d + 1 = 3 * j' + 2)) := ⟨d, by omega, Or.inr (Or.inl ⟨rfl, rfl⟩)⟩
      have eK : ∃ j', j' < T ∧ ((19 + d = 5 + j' ∧ 3 * d + 2 = 3 * j') ∨ (19 + d = 12 + j' ∧ 3 * d + 2 = 3 * j' + 1) ∨ (19 + d = 19 + j' ∧ 3 * d + 2 = 3 * j' + 2)) := ⟨d, by omega, Or.inr (Or.inr ⟨rfl, rfl⟩)⟩
      have hk := (ih2.2.1 d (by omega)).2.2
      have h1 := RW_up (v := 0) hT hQ ih2 (Or.inr (Or.inr (Or.inr (Or.inr (Or.inr (Or.inl eJ))))))
      by_cases hev2 : H (3 * d + 2) = bt Q - 1
      · rw [if_pos (by rw [hk]; exact hev2), if_pos hev2]
        have h2 := RW_up (v := bt Q - 1) hT hQ h1 (Or.inr (Or.inr (Or.inr (Or.inr (Or.inr (Or.inl eK))))))
        rw [show upd (upd z.2 (12 + d) 0) (19 + d) (bt Q - 1) = upd z.2 (12 + d) 0 from by (rw [show bt Q - 1 = upd z.2 (12 + d) 0 (19 + d) from by (rw [upd_n (by omega), hk, hev2])]; exact upd_id)] at h2
        exact h2
      · rw [if_neg (by rw [hk]; exact hev2), if_neg hev2]
        have hsd : sc 20 d = sm 46 (5 * d + 2) := (hS.2.2.1 d (by omega)).2.2
        rw [upd_cm (a := 19 + d) (b := 2) (by omega), hsd, ih2.1.2.2.1]
        exact RW_up hT hQ (RW_up hT hQ h1 (Or.inr (Or.inr (Or.inl ⟨rfl, rfl⟩)))) (Or.inr (Or.inr (Or.inr (Or.inr (Or.inr (Or.inl eK))))))
    · have hf : mlP V sm h d = false := Bool.eq_false_iff.mpr hm
      simp only [msk]
      rw [if_neg hm, Nat.or_zero]
      have hG : gF (sm 46) (bt Q - 1) (nI (msk (mlP V sm h) T)) d H = H := by
        unfold gF
        rw [hbit, if_neg hm]
      rw [hG]
      by_cases h0 : (!decide (h (3 * d + 1) = 0)) = true
      · rw [if_pos h0]
        have hle : warm (h 32) (h 35) ≤ hnm V sm h d := by
          unfold mlP at hf
          rw [h0, Bool.true_and] at hf
          exact Int32.not_lt.mp (of_decide_eq_false hf)
        rw [if_pos hle]
        exact ⟨ih1, ih2⟩
      · rw [if_neg h0]
        exact ⟨ih1, ih2⟩
