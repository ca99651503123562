/-! years on both sides -/
theorem ht_dn : ∀ e, e < 41 → mx 0 (mn 40 (nI e + -1)) = mx 0 (nI e - 1) ∧ mx 0 (nI e - 1) = nI (e - 1) := by decide +kernel
theorem ht_up : ∀ e, e < 41 → mx 0 (mn 40 (nI e + 1)) = mn 40 (nI e + 1) ∧ mn 40 (nI e + 1) = nI (min 40 (e + 1)) := by decide +kernel
theorem inn_1M {v : Int32} {M : Nat} {b : Int64} (hM : M < 2 ^ 31) (hb : b.toInt = M) : inn v.toInt64 1 b = true ↔ ∃ j, 1 ≤ j ∧ j ≤ M ∧ v = nI j := by
  rw [inn_i (A := 1) (B := M) (by decide) hb]
  constructor
  · intro h
    simp only [Bool.and_eq_true, decide_eq_true_eq] at h
    obtain ⟨j, hj, rfl⟩ := nI_of (x := v) (rl_n0 (by omega))
    rw [nI_toInt hj] at h
    exact ⟨j, by omega, by omega, rfl⟩
  · rintro ⟨j, h1, h2, rfl⟩
    rw [nI_toInt (by omega)]
    simp only [Bool.and_eq_true, decide_eq_true_eq]
    omega
theorem mRem_n {sm : am_S} {a j y : Nat} {f : Nat → Int32} (h1 : j ≠ 56) (h2 : j ≠ 52) (h3 : j ≠ 39 ∨ y ≠ 39) : upR (mRem sm a) 52 f j y = sm j y := by
  have b1 : Nat.beq j 52 = false := nbeq h2
  have b2 : Nat.beq j 56 = false := nbeq h1
  unfold upR mRem up upR
  simp only [b1, b2, cond_false]
  by_cases e39 : j = 39
  · subst e39
    show upd (sm 39) 39 _ y = sm 39 y
    exact upd_n (by omega)
  · have b3 : Nat.beq j 39 = false := nbeq e39
    simp only [b3, cond_false]
theorem HR_pushT {sc sm sc' sm' : am_S} {T Q q a t' : Nat} {tt : Nat → Nat} (hT : T ≤ 7) (hQ : Q ≤ 5) (h : HR sc sm T Q q a tt) (hx : RX (sc' 22) (sc' 16) (sm' 52) T Q t') (ht : tt a ≤ t' ∧ t' ≤ tt a + 1) (hk : ∀ hh t, t ≤ tt a → tt a ≤ t + 40 → LG (sc 22) hh t → LG (sc' 22) hh t)
    (hnew : ∀ j, j < 36 → rU sc' q j = sc 16 j) (hold : ∀ p, p < 40 → p ≠ q → ∀ j, j < 36 → rU sc' p j = rU sc p j) (c3 : sc' 21 3 = nI ((q + 1) % 40)) (c4 : sc' 21 4 = nI (min 40 (a + 1))) (m56 : sm' 56 = mRu (sm 56) (sm 52) a) (m39 : sm' 39 39 = nI (min 40 (a + 1))) : ∃ tt', HR sc' sm' T Q ((q + 1) % 40) (min 40 (a + 1)) tt' ∧ tt' (min 40 (a + 1)) = t' := by
  obtain ⟨tt', h'⟩ := HR_push hT hQ h hx ht hk hnew hold c3 c4 m56 m39
  refine ⟨tt', h', ?_⟩
  have e1 := h'.2.2.1.2.2.1
  have e2 := hx.2.2.1
  exact (nI_eq (by omega) (by omega)).mp (e1.1.symm.trans e2.1)
theorem rl_yH {DX : Int64 → Int64} {DV : Int64 → Int32 → Int32} {sm : am_S} {f : Nat → Int32} {T Q : Nat} {x : Int64} (hT : T ≤ 7) (hQ : Q ≤ 5) (hw : RW f (sm 52) T Q) (hb : RB (sm 52) T Q) : RW (ydH DX DV f x) (yrH DX DV sm x) T Q ∧ RB (yrH DX DV sm x) T Q ∧ ∀ j, 35 ≤ j → yrH DX DV sm x j = sm 52 j := by
  obtain ⟨h1, ⟨e, he, hee⟩, h3⟩ := id hb
  have hv : mx 0 (mn 40 (f 1 + (if DV (DX x) 10 < 5 then -1 else 1))) = (if DV (DX x) 10 < 5 then mx 0 (sm 52 32 - 1) else mn 40 (sm 52 32 + 1)) := by
    rw [hw.1.2.1, hee]
    by_cases hc : DV (DX x) 10 < 5
    · rw [if_pos hc, if_pos hc]; exact (ht_dn e (by omega)).1
    · rw [if_neg hc, if_neg hc]; exact (ht_up e (by omega)).1
  unfold ydH yrH
  rw [hv]
  refine ⟨RW_up hT hQ hw (Or.inr (Or.inl ⟨rfl, rfl⟩)), ⟨rwb_of h1 (fun i hi => ⟨upd_n (by omega), Or.inl (upd_n (by omega))⟩) (fun r hr => Or.inl (upd_n (by omega))) (Or.inl (upd_n (by omega))), ?_, by rw [upd_n (by omega)]; exact h3⟩, fun j hj => upd_n (by omega)⟩
  rw [upd_s, hee]
  by_cases hc : DV (DX x) 10 < 5
  · rw [if_pos hc, (ht_dn e (by omega)).2]; exact ⟨_, by omega, rfl⟩
  · rw [if_neg hc, (ht_up e (by omega)).2]; exact ⟨_, by omega, rfl⟩
theorem rl_yd {DX : Int64 → Int64} {DV : Int64 → Int32 → Int32} {sc sm : am_S} {T Q : Nat} {x : Int64} (hS : SR sc sm T Q) (hw : RW (sc 16) (sm 52) T Q) (hb : RB (sm 52) T Q) (hkn : sc 0 7 = sm 39 35) : RW (ydK DX DV sc (sc 16) x).1 (yrP DX DV sm x).1 T Q ∧ RB (yrP DX DV sm x).1 T Q ∧ (∀ j, 35 ≤ j → (yrP DX DV sm x).1 j = sm 52 j) ∧ (ydK DX DV sc (sc 16) x).2 = (yrP DX DV sm x).2 := by
  have hT := hS.1.2.1
  have hQ := hS.1.2.2.2.1
  obtain ⟨g1, g2, g3⟩ := rl_yH (DX := DX) (DV := DV) (x := x) hT hQ hw hb
  unfold ydK yrP yrG
  rw [hkn]
  by_cases hc : sm 39 35 ≤ DV (DX (DX x)) 10
  · rw [if_pos hc, if_pos hc]
    exact ⟨g1, g2, g3, rfl⟩
  · rw [if_neg hc, if_neg hc]
    rw [show sc 15 6 = sm 39 26 from hS.1.1.trans hS.2.1.1.symm, show sc 15 7 = sm 39 27 from hS.1.2.2.1.trans hS.2.1.2.2.1.symm]
    have hA := rl_pry (t := DV (DX (DX (DX x))) (sm 39 26)) (r := DV (DX (DX (DX (DX x)))) (sm 39 27)) hS g1 g2
    dsimp only
    unfold yrQ
    by_cases hok : cPm sm (yrH DX DV sm x) (DV (DX (DX (DX x))) (sm 39 26)) (DV (DX (DX (DX (DX x)))) (sm 39 27)) = true
    · rw [if_pos hok]
      obtain ⟨-, -, a3, a4, a5⟩ := hA.1 hok
      exact ⟨a3, a4, fun j hj => (a5 j hj).trans (g3 j hj), rfl⟩
    · rw [if_neg hok, hA.2 (Bool.eq_false_iff.mpr hok)]
      exact ⟨g1, g2, g3, rfl⟩
theorem rl_yS {DX : Int64 → Int64} {DV : Int64 → Int32 → Int32} {V : (Nat → Int32) → Int32} {sc sm : am_S} {T Q q a : Nat} {tt : Nat → Nat} {x : Int64} (hS : SR sc sm T Q) (hH : HR sc sm T Q q a tt) (hkn : sc 0 7 = sm 39 35) (h0 : 0 < sc 15 6) (h9 : tt a < 9999) : (ycS DX DV V T sc x).2 = (yrS DX DV V T Q sm x).2 ∧ ∃ tt', HR (ycS DX DV V T sc x).1 (yrS DX DV V T Q sm x).1 T Q ((q + 1) % 40) (min 40 (a + 1)) tt' ∧ tt' (min 40 (a + 1)) = tt a + 1 := by
  have hT := hS.1.2.1
  have hQ := hS.1.2.2.2.1
  obtain ⟨⟨h3, hq4, h4, ha4⟩, h39, ⟨hw, hb, ⟨ht, ht9, hG⟩, hl⟩, -⟩ := id hH
  obtain ⟨y1, y2, y3, y4⟩ := rl_yd (DX := DX) (DV := DV) (x := x) hS hw hb hkn
  obtain ⟨g1, ⟨m, hm, g2⟩, g3, g4, g5, -, g6⟩ := rl_month (V := V) (G := min 60 (tt a)) hS y1 y2 h0 ((y3 35 (by decide)).trans ht) h9 (by omega)
  obtain ⟨g7, g6⟩ := g6 rfl
  have e1 : cl (sc 16 4) = tt a := by rw [hw.1.2.2.2.2, ht]; exact cl_nI (by omega)
  have e2 : cl (sc 21 3) = q := by rw [h3]; exact cl_nI (by omega)
  have e3 : cl (sc 21 4) = a := by rw [h4]; exact cl_nI (by omega)
  have e4 : cl (sm 39 39) = a := by rw [h39]; exact cl_nI (by omega)
  have e5 : cl (sm 52 36) = min 60 (tt a) := by rw [hG]; exact cl_nI (by omega)
  unfold ycS yrS
  rw [e1, e2, e3, e4, e5]
  refine ⟨y4, ?_⟩
  have hyG : ycG V sc T (tt a) (ydK DX DV sc (sc 16) x).1 = wr (upR (cp sc 16 23 0 0 36) 16 (kMonth V sc T (ydK DX DV sc (sc 16) x).1).2) (tt a) (warm ((ydK DX DV sc (sc 16) x).1 1) ((ydK DX DV sc (sc 16) x).1 4)) (kMonth V sc T (ydK DX DV sc (sc 16) x).1).1 := by
    unfold ycG
    rw [if_neg (by rw [g2]; exact nI_nm hm)]
  dsimp only
  rw [hyG]
  have hp := HR_pushT hT hQ hH (t' := tt a + 1) (sc' := keep (wr (upR (cp sc 16 23 0 0 36) 16 (kMonth V sc T (ydK DX DV sc (sc 16) x).1).2) (tt a) (warm ((ydK DX DV sc (sc 16) x).1 1) ((ydK DX DV sc (sc 16) x).1 4)) (kMonth V sc T (ydK DX DV sc (sc 16) x).1).1) q a) (sm' := upR (mRem sm a) 52 (goM V sm T Q (min 60 (tt a)) (yrP DX DV sm x).1).2) ⟨g3, g4, ⟨g5, by omega, g7⟩, g6 _ (LG_eq hl y3)⟩ ⟨by omega, Nat.le_refl _⟩ (fun hh t h1 h2 hl' => LG_keep (a := warm ((ydK DX DV sc (sc 16) x).1 1) ((ydK DX DV sc (sc 16) x).1 4)) (b := (kMonth V sc T (ydK DX DV sc (sc 16) x).1).1) (c := (kMonth V sc T (ydK DX DV sc (sc 16) x).1).2 2) hl' h1 (by omega)) (kp_new cp_23) (kp_old rfl) rfl rfl rfl rfl
  exact hp
theorem rl_yL {DX : Int64 → Int64} {DV : Int64 → Int32 → Int32} {V : (Nat → Int32) → Int32} {T Q : Nat} : ∀ (d : Nat) (sc sm : am_S) (x : Int64) (q a : Nat) (tt : Nat → Nat), SR sc sm T Q → 0 < sc 15 6 → sc 0 7 = sm 39 35 → HR sc sm T Q q a tt → tt a + d ≤ 9999 → HE (ycL DX DV V T d sc x) (yrL DX DV V T Q d sm x) T Q ∧ eo skD sc (ycL DX DV V T d sc x) ∧ ∀ j, j ≠ 56 → j ≠ 52 → ∀ y, (j ≠ 39 ∨ y ≠ 39) → yrL DX DV V T Q d sm x j y = sm j y
  | 0, sc, sm, x, q, a, tt, _, _, _, hH, _ => ⟨⟨q, a, tt, hH⟩, eo_rf, fun _ _ _ _ _ => rfl⟩
  | d + 1, sc, sm, x, q, a, tt, hS, h0, hkn, hH, h9 => by
    obtain ⟨g1, tt', g2, g3⟩ := rl_yS (DX := DX) (DV := DV) (V := V) (x := x) hS hH hkn h0 (by omega)
    simp only [ycL, yrL]
    rw [← g1]
    have e1 : eo skD sc (ycS DX DV V T sc x).1 := eo_keepD eo_ycG
    have hS' : SR (ycS DX DV V T sc x).1 (yrS DX DV V T Q sm x).1 T Q := SR_mv hS (fun j => e1 15 j rfl) (eo_cell e1 18 (fun _ => rfl)) (eo_cell e1 19 (fun _ => rfl)) (eo_cell e1 20 (fun _ => rfl)) rfl rfl rfl rfl
    have hr := rl_yL (DX := DX) (DV := DV) (V := V) d (ycS DX DV V T sc x).1 (yrS DX DV V T Q sm x).1 (ycS DX DV V T sc x).2 _ _ tt' hS' (by rw [e1 15 6 rfl]; exact h0) ((e1 0 7 rfl).trans hkn) g2 (by omega)
    refine ⟨hr.1, eo_tr e1 hr.2.1, fun j h1 h2 y h3 => (hr.2.2 j h1 h2 y h3).trans ?_⟩
    show upR (mRem sm (cl (sm 39 39))) 52 _ j y = sm j y
    exact mRem_n h1 h2 h3
theorem t_years {DX : Int64 → Int64} {DV : Int64 → Int32 → Int32} {V : (Nat → Int32) → Int32} {sc S : am_S} {T Q : Nat} {m : Int32} {x : Int64} (hS : SR sc S T Q) (hH : HE sc S T Q) (hkn : sc 0 7 = S 39 35) : (q_years DX DV V sc T m x).1 = (m_years DX DV V S T Q m x).1 ∧ HE (q_years DX DV V sc T m x).2 (m_years DX DV V S T Q m x).2 T Q ∧ eo skD sc (q_years DX DV V sc T m x).2 ∧ ∀ j, j ≠ 56 → j ≠ 52 → ∀ y, (j ≠ 39 ∨ y ≠ 39) → (m_years DX DV V S T Q m x).2 j y = S j y := by
  obtain ⟨q, a, tt, hH⟩ := hH
  obtain ⟨hw, hb, ⟨ht, ht9, -⟩, -⟩ := id hH.2.2.1
  unfold q_years m_years
  by_cases h0 : S 39 26 = 0
  · rw [if_neg (fun z => (rl_0 hS).mp z h0), if_pos h0]
    exact ⟨rfl, ⟨q, a, tt, hH⟩, eo_rf, fun _ _ _ _ _ => rfl⟩
  · have hp := (rl_0 hS).mpr h0
    rw [if_pos hp, if_neg h0, hw.1.2.2.2.2, ht]
    by_cases hm : inn m.toInt64 1 60 = true
    · obtain ⟨M, h1, h2, rfl⟩ := inn_1M (M := 60) (by decide) (by decide) |>.mp hm
      rw [if_pos hm, if_neg (show ¬ nI M < 1 from nI_nlt (b := 1) h1 (by omega)), if_neg (show ¬ 60 < nI M from nI_nlt (a := 60) h2 (by omega)), nI_add, cl_nI (by omega)]
      by_cases h9 : nI (tt a + M) ≤ 9999
      · rw [if_pos h9, if_pos h9]
        have h99 : tt a + M ≤ 9999 := (nI_leI (a := tt a + M) (b := 9999) (by omega) (by decide)).mp h9
        have hr := rl_yL (DX := DX) (DV := DV) (V := V) M sc S x q a tt hS hp hkn hH h99
        refine ⟨?_, hr.1, hr.2.1, hr.2.2⟩
        obtain ⟨q', a', tt', h'⟩ := hr.1
        exact h'.2.2.1.1.1.2.2.2.2
      · rw [if_neg h9, if_neg h9]
        exact ⟨rfl, ⟨q, a, tt, hH⟩, eo_rf, fun _ _ _ _ _ => rfl⟩
    · rw [if_neg hm]
      by_cases h1 : m < 1
      · rw [if_pos h1]
        exact ⟨rfl, ⟨q, a, tt, hH⟩, eo_rf, fun _ _ _ _ _ => rfl⟩
      · rw [if_neg h1]
        by_cases h2 : 60 < m
        · rw [if_pos h2]
          exact ⟨rfl, ⟨q, a, tt, hH⟩, eo_rf, fun _ _ _ _ _ => rfl⟩
        · obtain ⟨M, hM, rfl⟩ := nI_of2 (M := 60) (n := 60) (by decide) (fun z => h1 (Int32.lt_of_lt_of_le z (by decide))) (Int32.not_lt.mp h2)
          have hM1 : 1 ≤ M := by
            by_cases e : 1 ≤ M
            · exact e
            · exact absurd (show nI M < 1 from nI_lt (b := 1) (by omega) (by decide)) h1
          exact absurd ((inn_1M (M := 60) (by decide) (by decide)).mpr ⟨M, hM1, hM, rfl⟩) hm
