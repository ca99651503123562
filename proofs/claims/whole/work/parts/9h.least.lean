/-! least, odds, spare, known, tells, openers -/
theorem lsL_no {P b : Nat → Bool} {N f : Nat → Int32} {T : Nat} (hP : ∀ i, i < T → (P i = true → b i = true ∧ f i = N i) ∧ (P i = false → b i = true → f i = 0)) : ∀ (d i : Nat) (a b0 : Int32), i + d ≤ T → lsL P N (-1) i d a b0 = (match wsum f b i d a with | none => -1 | some s => s)
  | 0, _, a, b0, _ => by simp [lsL, wsum]
  | d + 1, i, a, b0, h => by
    simp only [lsL, wsum]
    have hp := hP i (by omega)
    by_cases h1 : P i = true
    · rw [if_pos h1, if_pos (hp.1 h1).1, (hp.1 h1).2]
      by_cases h2 : N i = -1
      · rw [if_pos h2, if_pos h2]
      · rw [if_neg h2, if_neg h2]
        exact lsL_no hP d (i + 1) _ _ (by omega)
    · rw [if_neg h1]
      by_cases h3 : b i = true
      · have h0 := hp.2 (Bool.eq_false_iff.mpr h1) h3
        rw [if_pos h3, h0, if_neg (by decide), Int32.add_zero]
        exact lsL_no hP d (i + 1) _ _ (by omega)
      · rw [if_neg h3]
        exact lsL_no hP d (i + 1) _ _ (by omega)
theorem lsL_th {P b : Nat → Bool} {N f : Nat → Int32} {T j : Nat} (hT : T ≤ 7) (hj : j < T) (hP : ∀ i, i < T → (P i = true → b i = true ∧ f i = N i) ∧ (P i = false → b i = true → f i = 0)) : ∀ (d i : Nat) (a b0 : Int32), i + d ≤ T → lsL P N (nI j) i d a b0 = (match wsum f b i d a with | none => -1 | some _ => if i ≤ j ∧ j < i + d ∧ P j = true then N j else b0)
  | 0, i, a, b0, _ => by
    simp only [lsL, wsum]
    rw [if_neg (nI_m1n (by omega)), if_neg (by omega)]
  | d + 1, i, a, b0, h => by
    simp only [lsL, wsum]
    have hp := hP i (by omega)
    have key : ∀ x y : Int32, lsL P N (nI j) (i + 1) d x y = (match wsum f b (i + 1) d x with | none => -1 | some _ => if i + 1 ≤ j ∧ j < i + 1 + d ∧ P j = true then N j else y) := fun x y => lsL_th hT hj hP d (i + 1) x y (by omega)
    by_cases h1 : P i = true
    · rw [if_pos h1, if_pos (hp.1 h1).1, (hp.1 h1).2]
      by_cases h2 : N i = -1
      · rw [if_pos h2, if_pos h2]
      · rw [if_neg h2, if_neg h2, key]
        cases wsum f b (i + 1) d (a + N i) with
        | none => rfl
        | some s =>
          dsimp only
          by_cases e : i = j
          · subst e
            rw [if_neg (by omega), if_pos rfl, if_pos ⟨Nat.le_refl _, by omega, h1⟩]
          · rw [if_neg (fun z => e ((nI_eq (by omega) (by omega)).mp z))]
            by_cases h4 : i + 1 ≤ j ∧ j < i + 1 + d ∧ P j = true
            · rw [if_pos h4, if_pos ⟨by omega, by omega, h4.2.2⟩]
            · rw [if_neg h4, if_neg (fun z => h4 ⟨by omega, by omega, z.2.2⟩)]
    · have e2 : (if i + 1 ≤ j ∧ j < i + 1 + d ∧ P j = true then N j else b0) = if i ≤ j ∧ j < i + (d + 1) ∧ P j = true then N j else b0 := by
        by_cases h4 : i + 1 ≤ j ∧ j < i + 1 + d ∧ P j = true
        · rw [if_pos h4, if_pos ⟨by omega, by omega, h4.2.2⟩]
        · refine (if_neg h4).trans (if_neg (fun z => ?_)).symm
          by_cases e : i = j
          · rw [e] at h1; exact h1 z.2.2
          · exact h4 ⟨by omega, by omega, z.2.2⟩
      rw [if_neg h1]
      by_cases h3 : b i = true
      · have h0 := hp.2 (Bool.eq_false_iff.mpr h1) h3
        rw [if_pos h3, h0, if_neg (by decide), Int32.add_zero, key, e2]
      · rw [if_neg h3, key, e2]
theorem bt_nI : ∀ T, T ≤ 7 → bt T = nI (2 ^ T) ∧ bt T - 1 = nI (2 ^ T - 1) := by decide +kernel
theorem tI64 {n : Nat} (h : n < 2 ^ 31) : (nI n).toInt64.toInt = n := by rw [nI_l h]; exact pk_lT (by omega)
theorem pw7 {T : Nat} (h : T ≤ 7) : 2 ^ T ≤ 128 := Nat.pow_le_pow_right (n := 2) (by decide) h
theorem t_least {V : (Nat → Int32) → Int32} {sc S : am_S} {T Q q a : Nat} {tt : Nat → Nat} {x k t : Int32} (hS : SR sc S T Q) (hH : HR sc S T Q q a tt) : q_least V sc T x k t = m_least V S T x k t := by
  obtain ⟨hw, hb, ⟨ht, ht9, -⟩, -⟩ := hH.2.2.1
  have hT := hS.1.2.1
  have hp7 := pw7 hT
  unfold q_least m_least
  rw [hS.1.1, show (1 : Int32) <<< (nI T &&& 31) = bt T from rfl, (bt_nI T hT).2, (bt_nI T hT).1]
  by_cases h0 : S 39 26 = 0
  · rw [if_pos h0]
    have hT0 : T = 0 := by
      rw [hS.2.1.1] at h0
      exact (nI_eq (a := T) (b := 0) (by omega) (by decide)).mp h0
    by_cases h1 : x < 1
    · rw [if_pos h1]
    · rw [if_neg h1, if_pos (by rw [hT0]; exact Int32.not_lt.mp h1)]
  · rw [if_neg h0]
    by_cases hx : inn x.toInt64 1 (nI (2 ^ T - 1)).toInt64 = true
    · obtain ⟨D, d1, d2, rfl⟩ := (inn_1M (M := 2 ^ T - 1) (by omega) (tI64 (by omega))).mp hx
      rw [if_pos hx, if_neg (show ¬ nI D < 1 from nI_nlt (b := 1) d1 (by omega)), if_neg (nI_ge (by omega) (by omega))]
      by_cases hk : inn k.toInt64 1 24 = true
      · obtain ⟨m, m1, m2, rfl⟩ := (inn_1M (M := 24) (by decide) (by decide)).mp hk
        rw [if_pos hk, if_neg (by rw [nA_no hk]; decide), cl_nI (by omega)]
        have hPf : ∀ i, i < T → (lsP S (nI D) i = true → tb (nI D) i = true ∧ wN V sc i m = ndm V S i m) ∧ (lsP S (nI D) i = false → tb (nI D) i = true → wN V sc i m = 0) := by
          intro i hi
          unfold lsP
          rw [hs_tb D (by omega) i (by omega), bd_tb D (by omega) i (by omega), rl_wN hS hw hb ht ht9 hi (by omega)]
          by_cases h2 : S 52 (3 * i + 1) = 0
          · rw [if_pos h2, decide_eq_true h2]
            exact ⟨fun z => absurd z (by simp), fun _ _ => rfl⟩
          · rw [if_neg h2, decide_eq_false h2]
            exact ⟨fun z => ⟨by simpa using z, rfl⟩, fun z1 z2 => absurd z1 (by simp [z2])⟩
        by_cases h1 : t = -1
        · rw [if_pos h1, if_pos h1, h1, lsL_no hPf T 0 0 0 (by omega)]
          unfold wF
          have hno : ¬ isT sc (-1) = true := by unfold isT; rw [decide_eq_false (by decide), Bool.false_and]; decide
          cases wsum (fun i => wN V sc i m) (tb (nI D)) 0 T 0 with
          | none => rfl
          | some s => exact if_neg hno
        · rw [if_neg h1, if_neg h1, rl_T hS]
          by_cases hi : isT sc t = true
          · rw [if_neg (by rw [hi]; decide), if_pos hi]
            obtain ⟨j, hj, rfl⟩ := isT_nI hS.1 hi
            have e1 : ((nI D >>> (nI j &&& 31)) &&& 1 = 0) ↔ hs (nI D) (nI j) = false := by
              rw [hs_tb D (by omega) j (by omega), ← bd_tb D (by omega) j (by omega)]
              unfold tb
              simp
            by_cases hb1 : hs (nI D) (nI j) = true
            · rw [if_neg (fun z => by rw [e1.mp z] at hb1; exact absurd hb1 (by decide)), if_pos hb1, lsL_th hT hj hPf T 0 0 0 (by omega)]
              unfold wF
              rw [cl_nI (by omega)]
              cases wsum (fun i => wN V sc i m) (tb (nI D)) 0 T 0 with
              | none => rfl
              | some s =>
                dsimp only
                rw [if_pos hi, rl_wN hS hw hb ht ht9 hj (by omega)]
                unfold lsP
                rw [hb1]
                by_cases h2 : S 52 (3 * j + 1) = 0
                · rw [if_pos h2, decide_eq_true h2, if_neg (by simp)]
                · rw [if_neg h2, decide_eq_false h2, if_pos ⟨Nat.zero_le _, by omega, rfl⟩]
            · rw [if_pos (e1.mpr (Bool.eq_false_iff.mpr hb1)), if_neg hb1]
          · rw [if_pos (Bool.eq_false_iff.mpr hi), if_neg hi]
      · rw [if_neg hk, if_pos (nA_of hk)]
    · rw [if_neg hx]
      by_cases h1 : x < 1
      · rw [if_pos h1]
      · rw [if_neg h1]
        by_cases h2 : nI (2 ^ T) ≤ x
        · rw [if_pos h2]
        · obtain ⟨D, hD, rfl⟩ := nI_lt7 (T := 2 ^ T) (by omega) (Int32.le_of_lt (Int32.lt_of_lt_of_le (by decide) (Int32.not_lt.mp h1))) (Int32.not_le.mp h2)
          have d1 : 1 ≤ D := by
            by_cases e : 1 ≤ D
            · exact e
            · exact absurd (show nI D < 1 from nI_lt (b := 1) (by omega) (by decide)) h1
          exact absurd ((inn_1M (M := 2 ^ T - 1) (by omega) (tI64 (by omega))).mpr ⟨D, d1, by omega, rfl⟩) hx
theorem od_p {V : (Nat → Int32) → Int32} {sc sm : am_S} {T Q j : Nat} {ch : Int32} (hS : SR sc sm T Q) (hw : RW (sc 16) (sm 52) T Q) (hj : j < T) : ∀ (d i : Nat) (a : Int64), pHr (pH V sc j ch i d a) = odL (spm V sm j) ch i d a
  | 0, _, _ => rfl
  | d + 1, i, a => by
    simp only [pH, odL]
    have e : hd V sc j (sc 19 j) (sc 16 (12 + j)) (sc 16 (5 + j)) (sc 16 4 + nI i) - warm (sc 16 1) (sc 16 4 + nI i) = spm V sm j i := by
      unfold spm
      rw [rl_hb hS hw hj, (hS.2.2.1 j hj).2.1, (hw.2.1 j hj).1, (hw.2.1 j hj).2.1, hw.1.2.1, hw.1.2.2.2.2]
    rw [e]
    by_cases h1 : spm V sm j i < 0
    · rw [if_pos h1, if_neg (Int32.not_le.mpr h1)]; rfl
    · rw [if_neg h1, if_pos (Int32.not_lt.mp h1)]
      by_cases h2 : spm V sm j i < 5
      · rw [if_pos h2, if_neg (Int32.not_le.mpr h2)]; exact od_p hS hw hj d (i + 1) _
      · rw [if_neg h2, if_pos (Int32.not_lt.mp h2)]; exact od_p hS hw hj d (i + 1) _
theorem inn_01 {x : Int32} {M : Nat} {b : Int64} {B : Int32} (hM : M < 2 ^ 31) (hb : b.toInt = M) (hB : B = nI M) (h : ¬ inn x.toInt64 0 b = true) : x < 0 ∨ B < x := by
  by_cases h1 : x < 0
  · exact Or.inl h1
  · by_cases h2 : B < x
    · exact Or.inr h2
    · subst hB
      obtain ⟨j, hj, rfl⟩ := nI_of2 (M := nI M) (n := M) (nI_toInt hM) h1 (Int32.not_lt.mp h2)
      exact absurd ((inn_0 hM hb).mpr ⟨j, hj, rfl⟩) h
theorem t_odds {V : (Nat → Int32) → Int32} {sc S : am_S} {T Q q a : Nat} {tt : Nat → Nat} {t k ch : Int32} (hS : SR sc S T Q) (hH : HR sc S T Q q a tt) : q_odds V sc t k ch = m_odds V S t k ch := by
  obtain ⟨hw, hb, ⟨ht, ht9, -⟩, -⟩ := hH.2.2.1
  have hT := hS.1.2.1
  unfold q_odds m_odds
  rw [rl_T hS]
  by_cases hi : isT sc t = true
  · rw [if_neg (by rw [hi]; decide), if_pos hi]
    obtain ⟨j, hj, rfl⟩ := isT_nI hS.1 hi
    rw [cl_nI (by omega)]
    by_cases hk : inn k.toInt64 0 12 = true
    · obtain ⟨m, hm, rfl⟩ := (inn_0 (M := 12) (by decide) (by decide)).mp hk
      rw [if_pos hk, if_neg (nI_pos (by omega)), if_neg (show ¬ 12 < nI m from nI_nlt (a := 12) hm (by omega)), cl_nI (by omega)]
      by_cases hc : inn ch.toInt64 0 100 = true
      · obtain ⟨c, hc1, rfl⟩ := (inn_0 (M := 100) (by decide) (by decide)).mp hc
        rw [if_pos hc, if_neg (nI_pos (by omega)), if_pos (show nI c ≤ 100 from nI_le (b := 100) hc1 (by decide))]
        unfold pT
        by_cases h2 : S 52 (3 * j + 1) = 0
        · rw [if_neg (fun z => (rl_d0 hS hw hb hj).mp z h2), if_pos h2]
        · rw [if_pos ((rl_d0 hS hw hb hj).mpr h2), if_neg h2]
          exact od_p hS hw hj m 0 _
      · rw [if_neg hc]
        rcases inn_01 (M := 100) (B := 100) (by decide) (by decide) rfl hc with h | h
        · rw [if_pos h]
        · by_cases h3 : ch < 0
          · rw [if_pos h3]
          · rw [if_neg h3, if_neg (Int32.not_le.mpr h)]
    · rw [if_neg hk]
      rcases inn_01 (M := 12) (B := 12) (by decide) (by decide) rfl hk with h | h
      · rw [if_pos h]
      · by_cases h3 : k < 0
        · rw [if_pos h3]
        · rw [if_neg h3, if_pos h]
  · rw [if_pos (Bool.eq_false_iff.mpr hi), if_neg hi]
theorem t_spare {V : (Nat → Int32) → Int32} {sc S : am_S} {T Q q a : Nat} {tt : Nat → Nat} {t : Int32} (hS : SR sc S T Q) (hH : HR sc S T Q q a tt) : q_spare V sc t = m_spare V S t := by
  obtain ⟨hw, hb, ⟨ht, ht9, -⟩, -⟩ := hH.2.2.1
  have hT := hS.1.2.1
  unfold q_spare m_spare
  rw [sl_F, rl_sl hS hw hb]
  by_cases h1 : slF sc (sc 16) t = true
  · rw [if_pos h1, if_pos h1]
    have h1' := h1
    unfold slF at h1'
    obtain ⟨j, hj, rfl⟩ := isT_nI hS.1 (Bool.and_eq_true_iff.mp h1').1
    rw [cl_nI (by omega), rl_hd hS hw hj, hw.1.2.1, hw.1.2.2.2.2]
    rfl
  · rw [if_neg h1, if_neg h1]
theorem and1 (x : Int32) : (!decide (x &&& 1 = 0)) = decide (x &&& 1 = 1) := by
  obtain ⟨j, hj, e⟩ := pk_andE x (m := 1) 1 (by decide)
  rw [e]
  have : j = 0 ∨ j = 1 := by omega
  rcases this with rfl | rfl <;> rfl
theorem rl_kn {sc sm : am_S} {T Q j : Nat} {r : Int32} (hw : RW (sc 16) (sm 52) T Q) (hj : j < T) : kn sc r j = hs (sm 52 (3 * j + 2)) r := by
  unfold kn hs
  rw [(hw.2.1 j hj).2.2]
  exact and1 _
theorem tq_known {sc S : am_S} {T Q q a : Nat} {tt : Nat → Nat} {r : Int32} (hS : SR sc S T Q) (hH : HR sc S T Q q a tt) : q_known sc T r = m_known S T r := by
  have hw := hH.2.2.1.1
  unfold q_known m_known
  rw [rl_R hS]
  by_cases h1 : isR sc r = true
  · rw [if_pos h1, if_pos h1]
    refine fd_congr T 0 0 (fun i _ h2 x => ?_)
    rw [rl_kn hw (by omega)]
    by_cases e : hs (S 52 (3 * i + 2)) r = true
    · rw [if_pos e, if_pos e]
    · rw [if_neg e, if_neg e, Int32.or_zero]
  · rw [if_neg h1, if_neg h1]
theorem t_tells {sc S : am_S} {T Q q a : Nat} {tt : Nat → Nat} {r : Int32} (hS : SR sc S T Q) (hH : HR sc S T Q q a tt) : q_tells sc T r = m_tells S T r := by
  have hw := hH.2.2.1.1
  unfold q_tells m_tells
  rw [rl_R hS]
  by_cases h1 : isR sc r = true
  · rw [if_pos h1, if_pos h1]
    refine fd_congr T 0 0 (fun i _ h2 x => ?_)
    rw [rl_kn hw (by omega), (hS.2.2.1 i (by omega)).1, (hS.2.2.1 i (by omega)).2.2]
    by_cases e : S 46 (5 * i) = r
    · rw [if_pos e, if_pos e, Int32.add_zero]
    · rw [if_neg e, if_neg e]
      by_cases e : hs (S 52 (3 * i + 2)) r = true
      · rw [if_pos e, if_pos e]
      · rw [if_neg e, if_neg e, Int32.add_zero]
  · rw [if_neg h1, if_neg h1]
theorem t_openers {sc S : am_S} {T Q q a : Nat} {tt : Nat → Nat} {t : Int32} (hS : SR sc S T Q) (hH : HR sc S T Q q a tt) : q_openers sc Q t = m_openers S Q t := by
  have hw := hH.2.2.1.1
  have hb := hH.2.2.1.2.1
  have hT := hS.1.2.1
  have hQ := hS.1.2.2.2.1
  unfold q_openers m_openers
  rw [sl_F, rl_sl hS hw hb]
  by_cases h1 : slF sc (sc 16) t = true
  · rw [if_pos h1, if_pos h1]
    refine fd_congr Q 0 0 (fun i _ h2 x => ?_)
    have h1' := h1
    unfold slF at h1'
    obtain ⟨j, hj, rfl⟩ := isT_nI hS.1 (Bool.and_eq_true_iff.mp h1').1
    rw [cl_nI (by omega)]
    unfold cPm
    rw [rl_sl hS hw hb, h1, rl_R hS, cl_nI (by omega), ← (hS.2.2.1 j hj).1]
    have hR : isR sc (nI i) = true := by unfold isR; rw [hS.1.2.2.1, decide_eq_true (nI_pos' (by omega)), decide_eq_true (nI_lt (by omega) (by omega))]; rfl
    rw [hR]
    by_cases e : nI i = sc 18 j
    · rw [if_pos e, decide_eq_true e.symm, if_neg (by decide), Int32.or_zero]
    · rw [if_neg e, decide_eq_false (fun z => e z.symm), show skm (S 52) j i = sk sc i j from by (unfold skm sk; rw [(hw.2.1 j hj).2.1, (hw.2.2 i (by omega)).1])]
      rw [if_pos (c := (true && (true && !false)) = true) rfl]
      by_cases e3 : sk sc i j = true
      · rw [if_pos e3, if_pos e3]
      · rw [if_neg e3, if_neg e3, Int32.or_zero]
  · rw [if_neg h1, if_neg h1]
