/-! acts: open, pry, carry, heat -/
theorem rl_open {sc sm : am_S} {f h : Nat → Int32} {T Q : Nat} {t : Int32} (hs : SR sc sm T Q) (hw : RW f h T Q) (hb : RB h T Q) : AR f h T Q (kOpen sc f t) (shm sm h t) (mn 999 (h 31 + h (3 * cl t + 1))) (mOpen h (cl t)) := by
  have hT := hs.1.2.1
  have hQ := hs.1.2.2.2.1
  rw [rl_sl hs hw hb]
  unfold kOpen
  constructor
  · intro ht
    rw [if_neg (by rw [ht]; decide)]
    have ht' := ht
    unfold slF at ht'
    obtain ⟨j, hj, rfl⟩ := isT_nI hs.1 (Bool.and_eq_true_iff.mp ht').1
    have hcj : cl (nI j) = j := cl_nI (by omega)
    rw [hcj]
    obtain ⟨D, hD, hDe⟩ := (hb.1.1 j hj).2
    obtain ⟨wx, hwx, hwe⟩ := hb.2.2
    have hm : mn 999 (h 31 + h (3 * j + 1)) = nI (min 999 (wx + D)) := by rw [hwe, hDe, nI_add]; exact mn_nI (a := 999) (by decide) (by omega)
    refine ⟨by rw [hw.1.1, (hw.2.1 j hj).2.1], by rw [hm]; exact nI_m1n (by omega), ?_, ?_, fun i hi => ?_⟩
    · unfold mOpen
      show RW (upd (upd f 0 (mn 999 (f 0 + f (12 + j)))) (12 + j) 0) _ T Q
      rw [hw.1.1, (hw.2.1 j hj).2.1]
      exact RW_up hT hQ (RW_up hT hQ hw (Or.inl ⟨rfl, rfl⟩)) (Or.inr (Or.inr (Or.inr (Or.inr (Or.inr (Or.inl ⟨j, hj, Or.inr (Or.inl ⟨rfl, rfl⟩)⟩))))))
    · refine RB_of hb (rwb_open hT hQ hj hb.1) ?_ ?_ (fun i hi => ?_)
      · unfold mOpen; rw [upd_n (by omega), upd_n (by decide)]
      · unfold mOpen; rw [upd_n (by omega), upd_s, hm]; exact ⟨_, by omega, rfl⟩
      · unfold mOpen; rw [upd_n (by omega), upd_n (by omega)]
    · unfold mOpen; rw [upd_n (by omega), upd_n (by omega)]
  · intro ht
    rw [if_pos ht]
theorem rl_pry {sc sm : am_S} {f h : Nat → Int32} {T Q : Nat} {t r : Int32} (hs : SR sc sm T Q) (hw : RW f h T Q) (hb : RB h T Q) : AR f h T Q (kPry sc f t r) (cPm sm h t r) (bB (mPry h (cl t) (cl r)).1) (mPry h (cl t) (cl r)).2 := by
  have hT := hs.1.2.1
  have hQ := hs.1.2.2.2.1
  unfold cPm
  rw [rl_sl hs hw hb, rl_R hs]
  unfold kPry
  by_cases ht : slF sc f t = true
  · rw [if_neg (by rw [ht]; decide), ht, Bool.true_and]
    by_cases hr : isR sc r = true
    · rw [if_neg (by rw [hr]; decide), hr, Bool.true_and]
      have ht' := ht
      unfold slF at ht'
      obtain ⟨j, hj, rfl⟩ := isT_nI hs.1 (Bool.and_eq_true_iff.mp ht').1
      obtain ⟨q, hq, rfl⟩ := isR_nI hs.1 hr
      have hcj : cl (nI j) = j := cl_nI (by omega)
      have hcq : cl (nI q) = q := cl_nI (by omega)
      rw [hcj, hcq, ← (hs.2.2.1 j hj).1]
      by_cases ho : sc 18 j = nI q
      · rw [if_pos ho, decide_eq_true ho]
        exact ⟨fun z => absurd z (by decide), fun _ => rfl⟩
      · rw [if_neg ho, decide_eq_false ho]
        refine ⟨fun _ => ?_, fun z => absurd z (by decide)⟩
        have hrw := rwb_pry hT hQ hj hq hb.1
        have hhi : ∀ i, 35 ≤ i → (mPry h j q).2 i = h i := fun i hi => mPry_hi (by omega) (by omega) hi
        have h32 : (mPry h j q).2 32 = h 32 := by
          unfold mPry
          split <;> dsimp only
          · rw [upd_n (by omega), upd_n (by omega)]
          · rw [upd_n (by omega), upd_n (by omega), upd_n (by omega), upd_n (by omega)]
        have h31 : (mPry h j q).2 31 = h 31 := by
          unfold mPry
          split <;> dsimp only
          · rw [upd_n (by omega), upd_n (by omega)]
          · rw [upd_n (by omega), upd_n (by omega), upd_n (by omega), upd_n (by omega)]
        have hRB := RB_of hb hrw h32 (by rw [h31]; exact hb.2.2) hhi
        have hk := (hw.2.1 j hj).2.2
        have hsk : skm h j q = skF' f q j := by (unfold skm skF'; rw [(hw.2.1 j hj).2.1, (hw.2.2 q hq).1])
        have eJ : ∃ j', j' < T ∧ ((12 + j = 5 + j' ∧ 3 * j + 1 = 3 * j') ∨ (12 + j = 12 + j' ∧ 3 * j + 1 = 3 * j' + 1) ∨ (12 + j = 19 + j' ∧ 3 * j + 1 = 3 * j' + 2)) := ⟨j, hj, Or.inr (Or.inl ⟨rfl, rfl⟩)⟩
        have eK : ∃ j', j' < T ∧ ((19 + j = 5 + j' ∧ 3 * j + 2 = 3 * j') ∨ (19 + j = 12 + j' ∧ 3 * j + 2 = 3 * j' + 1) ∨ (19 + j = 19 + j' ∧ 3 * j + 2 = 3 * j' + 2)) := ⟨j, hj, Or.inr (Or.inr ⟨rfl, rfl⟩)⟩
        have eA : ∃ r', r' < Q ∧ ((26 + q = 26 + r' ∧ 21 + 2 * q = 21 + 2 * r') ∨ (26 + q = 31 + r' ∧ 21 + 2 * q = 21 + 2 * r' + 1)) := ⟨q, hq, Or.inl ⟨rfl, rfl⟩⟩
        have eB : ∃ r', r' < Q ∧ ((31 + q = 26 + r' ∧ 21 + 2 * q + 1 = 21 + 2 * r') ∨ (31 + q = 31 + r' ∧ 21 + 2 * q + 1 = 21 + 2 * r' + 1)) := ⟨q, hq, Or.inr ⟨rfl, rfl⟩⟩
        refine ⟨?_, ?_, ?_, hRB, hhi⟩
        · unfold mPry
          rw [hsk]
          cases skF' f q j <;> rfl
        · have hb1 : ∀ b : Bool, ¬ bB b = -1 := by decide
          exact hb1 _
        · unfold mPry
          rw [hsk]
          by_cases hc : skF' f q j = true
          · rw [if_pos hc, if_pos hc]
            show RW (upd (upd f (19 + j) (f (19 + j) ||| bt q)) 3 (f 3 + 1)) (upd (upd h (3 * j + 2) (h (3 * j + 2) ||| bt q)) 34 (h 34 + 1)) T Q
            rw [hk, hw.1.2.2.2.1]
            exact RW_up hT hQ (RW_up hT hQ hw (Or.inr (Or.inr (Or.inr (Or.inr (Or.inr (Or.inl eK))))))) (Or.inr (Or.inr (Or.inr (Or.inl ⟨rfl, rfl⟩))))
          · rw [if_neg hc, if_neg hc]
            show RW (upd (upd (upd (upd f (19 + j) (f (19 + j) ||| bt q)) (12 + j) 0) (31 + q) (mn 9 (f (31 + q) + 1))) (26 + q) (mx 0 (f (26 + q) - 1))) (upd (upd (upd (upd h (3 * j + 2) (h (3 * j + 2) ||| bt q)) (3 * j + 1) 0) (21 + 2 * q) (mx 0 (h (21 + 2 * q) - 1))) (21 + 2 * q + 1) (mn 9 (h (21 + 2 * q + 1) + 1))) T Q
            rw [upd_cm (a := 31 + q) (b := 26 + q) (by omega), hk, (hw.2.2 q hq).1, (hw.2.2 q hq).2]
            exact RW_up hT hQ (RW_up hT hQ (RW_up hT hQ (RW_up hT hQ hw (Or.inr (Or.inr (Or.inr (Or.inr (Or.inr (Or.inl eK))))))) (Or.inr (Or.inr (Or.inr (Or.inr (Or.inr (Or.inl eJ))))))) (Or.inr (Or.inr (Or.inr (Or.inr (Or.inr (Or.inr eA))))))) (Or.inr (Or.inr (Or.inr (Or.inr (Or.inr (Or.inr eB))))))
    · have hf : isR sc r = false := Bool.eq_false_iff.mpr hr
      rw [if_pos hf, hf, Bool.false_and]
      exact ⟨fun z => absurd z (by decide), fun _ => rfl⟩
  · have hf : slF sc f t = false := Bool.eq_false_iff.mpr ht
    rw [if_pos hf, hf, Bool.false_and]
    exact ⟨fun z => absurd z (by decide), fun _ => rfl⟩
theorem rl_carry {sc sm : am_S} {f h : Nat → Int32} {T Q : Nat} {t v : Int32} (hs : SR sc sm T Q) (hw : RW f h T Q) (hb : RB h T Q) : AR f h T Q (kCarry sc f t v) (isTm sm t && (inn v.toInt64 0 9 && !decide (h (3 * cl t) = v))) (h (3 * cl t)) (upd h (3 * cl t) v) := by
  have hT := hs.1.2.1
  have hQ := hs.1.2.2.2.1
  rw [rl_T hs]
  unfold kCarry
  by_cases ht : isT sc t = true
  · rw [if_neg (by rw [ht]; decide), ht, Bool.true_and]
    obtain ⟨j, hj, rfl⟩ := isT_nI hs.1 ht
    have hcj : cl (nI j) = j := cl_nI (by omega)
    rw [hcj, (hw.2.1 j hj).1]
    by_cases hv : inn v.toInt64 0 9 = true
    · obtain ⟨v0, hv0, rfl⟩ := (inn_0 (M := 9) (by decide) (by decide)).mp hv
      rw [hv, Bool.true_and, if_neg (nI_pos (by omega)), if_neg (show ¬ 9 < nI v0 from nI_nlt (a := 9) hv0 (by omega))]
      by_cases he : nI v0 = h (3 * j)
      · rw [if_pos he, decide_eq_true he.symm]
        exact ⟨fun z => absurd z (by decide), fun _ => rfl⟩
      · rw [if_neg he, decide_eq_false (fun z => he z.symm)]
        refine ⟨fun _ => ⟨rfl, ?_, ?_, ?_, fun i hi => upd_n (by omega)⟩, fun z => absurd z (by decide)⟩
        · obtain ⟨u, hu, hue⟩ := (hb.1.1 j hj).1
          rw [hue]; exact nI_m1n (by omega)
        · exact RW_up hT hQ hw (Or.inr (Or.inr (Or.inr (Or.inr (Or.inr (Or.inl ⟨j, hj, Or.inl ⟨rfl, rfl⟩⟩))))))
        · refine RB_of hb ⟨fun i hi => ⟨?_, ?_⟩, fun r hr => ?_, ?_⟩ (upd_n (by omega)) (by rw [upd_n (by omega)]; exact hb.2.2) (fun i hi => upd_n (by omega))
          · by_cases e : i = j
            · subst e; rw [upd_s]; exact ⟨v0, hv0, rfl⟩
            · rw [upd_n (by omega)]; exact (hb.1.1 i hi).1
          · rw [upd_n (by omega)]; exact (hb.1.1 i hi).2
          · rw [upd_n (by omega)]; exact hb.1.2.1 r hr
          · rw [upd_n (by omega)]; exact hb.1.2.2
    · have hf : inn v.toInt64 0 9 = false := Bool.eq_false_iff.mpr hv
      rw [hf, Bool.false_and]
      refine ⟨fun z => absurd z (by decide), fun _ => ?_⟩
      by_cases h1 : v < 0
      · rw [if_pos h1]
      · rw [if_neg h1]
        by_cases h2 : 9 < v
        · rw [if_pos h2]
        · obtain ⟨v0, hv0, rfl⟩ := nI_of2 (M := 9) (n := 9) (by decide) h1 (Int32.not_lt.mp h2)
          exact absurd ((inn_0 (M := 9) (by decide) (by decide)).mpr ⟨v0, hv0, rfl⟩) hv
  · have hf : isT sc t = false := Bool.eq_false_iff.mpr ht
    rw [if_pos hf, hf, Bool.false_and]
    exact ⟨fun z => absurd z (by decide), fun _ => rfl⟩
theorem rl_heat {sc sm : am_S} {f h : Nat → Int32} {T Q : Nat} {v : Int32} (hs : SR sc sm T Q) (hw : RW f h T Q) (hb : RB h T Q) : AR f h T Q (kHeat sc f v) (!decide (sm 39 26 = 0) && (inn v.toInt64 0 40 && !decide (h 32 = v))) (h 32) (upd h 32 v) := by
  have hT := hs.1.2.1
  have hQ := hs.1.2.2.2.1
  unfold kHeat
  by_cases ht : 0 < sc 15 6
  · rw [if_pos ht, decide_eq_false ((rl_0 hs).mp ht), hw.1.2.1]
    by_cases hv : inn v.toInt64 0 40 = true
    · obtain ⟨v0, hv0, rfl⟩ := (inn_0 (M := 40) (by decide) (by decide)).mp hv
      rw [hv, if_neg (nI_pos (by omega)), if_neg (show ¬ 40 < nI v0 from nI_nlt (a := 40) hv0 (by omega))]
      by_cases he : nI v0 = h 32
      · rw [if_pos he, decide_eq_true he.symm]
        exact ⟨fun z => absurd z (by decide), fun _ => rfl⟩
      · rw [if_neg he, decide_eq_false (fun z => he z.symm)]
        refine ⟨fun _ => ⟨rfl, ?_, ?_, ?_, fun i hi => upd_n (by omega)⟩, fun z => absurd z (by decide)⟩
        · obtain ⟨u, hu, hue⟩ := hb.2.1
          rw [hue]; exact nI_m1n (by omega)
        · exact RW_up hT hQ hw (Or.inr (Or.inl ⟨rfl, rfl⟩))
        · obtain ⟨h1, -, h3⟩ := hb
          refine ⟨rwb_of h1 (fun i hi => ⟨upd_n (by omega), Or.inl (upd_n (by omega))⟩) (fun r hr => Or.inl (upd_n (by omega))) (Or.inl (upd_n (by omega))), ⟨v0, hv0, upd_s⟩, by rw [upd_n (by omega)]; exact h3⟩
    · have hf : inn v.toInt64 0 40 = false := Bool.eq_false_iff.mpr hv
      rw [hf, Bool.false_and, Bool.and_false]
      refine ⟨fun z => absurd z (by decide), fun _ => ?_⟩
      by_cases h1 : v < 0
      · rw [if_pos h1]
      · rw [if_neg h1]
        by_cases h2 : 40 < v
        · rw [if_pos h2]
        · obtain ⟨v0, hv0, rfl⟩ := nI_of2 (M := 40) (n := 40) (by decide) h1 (Int32.not_lt.mp h2)
          exact absurd ((inn_0 (M := 40) (by decide) (by decide)).mpr ⟨v0, hv0, rfl⟩) hv
  · rw [if_neg ht, decide_eq_true (Classical.byContradiction fun z => ht ((rl_0 hs).mpr z))]
    exact ⟨fun z => absurd z (by simp), fun _ => rfl⟩
