/-! perform on both sides -/
theorem HR_no {V : (Nat → Int32) → Int32} {sc sm : am_S} {T Q q a tm : Nat} {tt : Nat → Nat} {act b c : Int32} (hT : T ≤ 7) (hQ : Q ≤ 5) (hH : HR sc sm T Q q a tt) (e : kAct V sc T (sc 16) act b c = (-1, sc 16)) : (dDo V sc T tm q a act b c).1 = -1 ∧ HR (dDo V sc T tm q a act b c).2 sm T Q q a tt := by
  rw [dDo_r]
  unfold kDo
  rw [e, if_pos rfl]
  exact ⟨rfl, HR_mv hT hQ hH (fun _ _ => rfl) rfl rfl rfl rfl rfl rfl rfl⟩
theorem rl_stH {V : (Nat → Int32) → Int32} {sc sm : am_S} {T Q q a R : Nat} {tt : Nat → Nat} (hS : SR sc sm T Q) (hH : HR sc sm T Q q a tt) (h0 : 0 < sc 15 6) (hk : ∃ c, c ≤ 3 ∧ sm 50 R = nI c) : (cStm sm (sm 52) R = true → ¬ (dDo V sc T (tt a) q a (sm 50 R) (sm 50 (R + 1)) (sm 50 (R + 2))).1 = -1 ∧ ∃ tt', HR (dDo V sc T (tt a) q a (sm 50 R) (sm 50 (R + 1)) (sm 50 (R + 2))).2 (upR (mRem sm a) 52 (gSt V sm T Q (sm 52) R)) T Q ((q + 1) % 40) (min 40 (a + 1)) tt') ∧ (cStm sm (sm 52) R = false → (dDo V sc T (tt a) q a (sm 50 R) (sm 50 (R + 1)) (sm 50 (R + 2))).1 = -1 ∧ HR (dDo V sc T (tt a) q a (sm 50 R) (sm 50 (R + 1)) (sm 50 (R + 2))).2 sm T Q q a tt) := by
  have hT := hS.1.2.1
  have hQ := hS.1.2.2.2.1
  obtain ⟨hw, hb, ⟨ht, ht9, hG⟩, -⟩ := id hH.2.2.1
  obtain ⟨c, hc, hce⟩ := hk
  have hcs : c = 0 ∨ c = 1 ∨ c = 2 ∨ c = 3 := by omega
  rcases hcs with rfl | rfl | rfl | rfl
  · have e0 : sm 50 R = 0 := hce
    unfold cStm gSt
    rw [if_pos e0, if_pos e0, e0, hG, cl_nI (by omega)]
    constructor
    · intro hok
      have h9 : tt a < 9999 := by
        have h1 := of_decide_eq_true hok
        rw [ht] at h1
        exact (nI_ltI (a := tt a) (b := 9999) (by omega) (by decide)).mp h1
      obtain ⟨g1, ⟨m, hm, g2⟩, tt', g3⟩ := rl_mon (V := V) (b := sm 50 (R + 1)) (c := sm 50 (R + 2)) hS hH h0 h9
      exact ⟨by rw [g2]; exact nI_nm hm, tt', g3⟩
    · intro hok
      refine HR_no hT hQ hH ?_
      unfold kAct
      rw [if_pos rfl]
      unfold kMonth
      rw [if_pos h0, if_neg (by rw [hw.1.2.2.2.2]; exact of_decide_eq_false hok)]
  · have e1 : sm 50 R = 1 := hce
    have hk := rl_keep (V := V) (tm := tt a) hT hQ hH (act := 1) (b := sm 50 (R + 1)) (c := sm 50 (R + 2)) (rl_seal hS hw hb) (by unfold kAct; rw [if_neg (by decide), if_pos rfl]) (by decide)
    unfold cStm gSt
    rw [e1, if_neg (by decide), if_pos rfl, if_neg (by decide), if_pos rfl]
    exact ⟨fun hok => ⟨by rw [(hk.1 hok).1]; exact (hk.1 hok).2.1, (hk.1 hok).2.2⟩, hk.2⟩
  · have e1 : sm 50 R = 2 := hce
    have hk := rl_keep (V := V) (tm := tt a) hT hQ hH (act := 2) (b := sm 50 (R + 1)) (c := sm 50 (R + 2)) (rl_pry hS hw hb) (by unfold kAct; rw [if_neg (by decide), if_neg (by decide), if_pos rfl]) (by decide)
    unfold cStm gSt
    rw [e1, if_neg (by decide), if_neg (by decide), if_pos rfl, if_neg (by decide), if_neg (by decide), if_pos rfl]
    exact ⟨fun hok => ⟨by rw [(hk.1 hok).1]; exact (hk.1 hok).2.1, (hk.1 hok).2.2⟩, hk.2⟩
  · have e1 : sm 50 R = 3 := hce
    have hk := rl_keep (V := V) (tm := tt a) hT hQ hH (act := 3) (b := sm 50 (R + 1)) (c := sm 50 (R + 2)) (rl_open hS hw hb) (by unfold kAct; rw [if_neg (by decide), if_neg (by decide), if_neg (by decide), if_pos rfl]) (by decide)
    unfold cStm gSt
    rw [e1, if_neg (by decide), if_neg (by decide), if_neg (by decide), if_neg (by decide), if_neg (by decide), if_neg (by decide)]
    exact ⟨fun hok => ⟨by rw [(hk.1 hok).1]; exact (hk.1 hok).2.1, (hk.1 hok).2.2⟩, hk.2⟩
theorem SR_mv {sc sm sc' sm' : am_S} {T Q : Nat} (h : SR sc sm T Q) (c15 : ∀ j, sc' 15 j = sc 15 j) (c18 : sc' 18 = sc 18) (c19 : sc' 19 = sc 19) (c20 : sc' 20 = sc 20) (m26 : sm' 39 26 = sm 39 26) (m27 : sm' 39 27 = sm 39 27) (m44 : sm' 44 2 = sm 44 2) (m46 : sm' 46 = sm 46) : SR sc' sm' T Q := by
  unfold SR kb mb at h ⊢
  rw [c15 6, c15 7, c15 8, c18, c19, c20, m26, m27, m44, m46]
  exact h
theorem dAt_r {V : (Nat → Int32) → Int32} {sc sm : am_S} {T Q q a : Nat} {tt : Nat → Nat} {x y z : Int32} (hH : HR sc sm T Q q a tt) : dAt V sc T x y z = dDo V sc T (tt a) q a x y z := by
  obtain ⟨⟨h3, hq4, h4, ha4⟩, h39, ⟨hw, -, ⟨ht, ht9, -⟩, -⟩, -⟩ := hH
  unfold dAt
  rw [hw.1.2.2.2.2, ht, h3, h4, cl_nI (by omega), cl_nI (by omega), cl_nI (by omega)]
theorem rl_pf {V : (Nat → Int32) → Int32} {T Q k L : Nat} {F : Nat → Int32} : ∀ (d i : Nat) (sc sm : am_S), i + d = L → SR sc sm T Q → 0 < sc 15 6 → PRn sm k L F → HE sc sm T Q → (pcL V T F d i sc).1 = (pfL V T Q k d i sm).1 ∧ HE (pcL V T F d i sc).2 (pfL V T Q k d i sm).2 T Q ∧ eo skD sc (pcL V T F d i sc).2 ∧ ∀ j, j ≠ 56 → j ≠ 52 → ∀ x, (j ≠ 39 ∨ x ≠ 39) → (pfL V T Q k d i sm).2 j x = sm j x
  | 0, i, sc, sm, _, _, _, _, hE => ⟨rfl, hE, eo_rf, fun _ _ _ _ _ => rfl⟩
  | d + 1, i, sc, sm, hi, hS, h0, hP, ⟨q, a, tt, hH⟩ => by
    obtain ⟨p0, p1, p2, hk⟩ := PR_k hP (i := i) (by omega)
    have hst := rl_stH (V := V) hS hH h0 hk
    have ha : cl (sm 39 39) = a := by
      rw [hH.2.1]
      exact cl_nI (by have := hH.1.2.2.2; omega)
    simp only [pcL, pfL]
    rw [dAt_r hH, ← p0, ← p1, ← p2, ha]
    by_cases hc : cStm sm (sm 52) (3 * (16 * k + i)) = true
    · obtain ⟨g1, tt', g2⟩ := hst.1 hc
      rw [if_neg g1, if_pos hc]
      have e1 := eo_dDo (V := V) (s := sc) (T := T) (tm := tt a) (q := q) (a := a) (act := sm 50 (3 * (16 * k + i))) (f := sm 50 (3 * (16 * k + i) + 1)) (h := sm 50 (3 * (16 * k + i) + 2))
      have hS' : SR (dDo V sc T (tt a) q a (sm 50 (3 * (16 * k + i))) (sm 50 (3 * (16 * k + i) + 1)) (sm 50 (3 * (16 * k + i) + 2))).2 (upR (mRem sm a) 52 (gSt V sm T Q (sm 52) (3 * (16 * k + i)))) T Q := SR_mv hS (fun j => e1 15 j rfl) (eo_cell e1 18 (fun _ => rfl)) (eo_cell e1 19 (fun _ => rfl)) (eo_cell e1 20 (fun _ => rfl)) rfl rfl rfl rfl
      have hr := rl_pf (V := V) (Q := Q) (F := F) d (i + 1) _ _ (by omega) hS' (by rw [e1 15 6 rfl]; exact h0) hP ⟨_, _, tt', g2⟩
      refine ⟨hr.1, hr.2.1, eo_tr e1 hr.2.2.1, fun j h1 h2 x h3 => (hr.2.2.2 j h1 h2 x h3).trans ?_⟩
      have b1 : Nat.beq j 52 = false := nbeq h2
      have b2 : Nat.beq j 56 = false := nbeq h1
      unfold upR mRem up upR
      simp only [b1, b2, cond_false]
      by_cases e39 : j = 39
      · subst e39
        show upd (sm 39) 39 _ x = sm 39 x
        exact upd_n (by omega)
      · have b3 : Nat.beq j 39 = false := nbeq e39
        simp only [b3, cond_false]
    · obtain ⟨g1, g2⟩ := hst.2 (Bool.eq_false_iff.mpr hc)
      rw [if_neg hc, if_pos g1]
      exact ⟨rfl, ⟨q, a, tt, g2⟩, eo_dDo, fun _ _ _ _ _ => rfl⟩
theorem t_perf {V : (Nat → Int32) → Int32} {sc S : am_S} {T Q P : Nat} {pL : Nat → Nat} {pF : Nat → Nat → Int32} {k : Int32} (hS : SR sc S T Q) (hH : HE sc S T Q) (hP : sc 0 6 = nI P) (hP' : S 39 30 = nI P) (hP4 : P ≤ 4) (hR : ∀ q, q < P → pL q ≤ 16 ∧ S 51 q = nI (pL q) ∧ PRn S q (pL q) (pF q)) : (q_perf V sc T pL pF k).1 = (m_perform V S T Q k).1 ∧ HE (q_perf V sc T pL pF k).2 (m_perform V S T Q k).2 T Q ∧ eo skD sc (q_perf V sc T pL pF k).2 ∧ ∀ j, j ≠ 56 → j ≠ 52 → ∀ x, (j ≠ 39 ∨ x ≠ 39) → (m_perform V S T Q k).2 j x = S j x := by
  unfold q_perf m_perform
  have hpc : isPm S k = isPc sc k := by unfold isPm isPc; rw [hP, hP']
  rw [hpc]
  by_cases hk : isPc sc k = true
  · rw [if_pos hk, if_pos hk]
    by_cases h0 : S 39 26 = 0
    · rw [if_neg (fun z => (rl_0 hS).mp z h0), if_pos h0]
      exact ⟨rfl, hH, eo_rf, fun _ _ _ _ _ => rfl⟩
    · have hp := (rl_0 hS).mpr h0
      rw [if_pos hp, if_neg h0]
      have hk' := hk
      unfold isPc at hk'
      simp only [Bool.and_eq_true, decide_eq_true_eq] at hk'
      rw [hP] at hk'
      obtain ⟨j, hj, rfl⟩ := nI_lt7 (by omega) hk'.1 hk'.2
      have hcj : cl (nI j) = j := cl_nI (by omega)
      rw [hcj]
      obtain ⟨hL, h51, hPR⟩ := hR j hj
      have hcl : cl (S 51 j) = pL j := by rw [h51]; exact cl_nI (by omega)
      rw [hcl]
      have hr := rl_pf (V := V) (Q := Q) (F := pF j) (pL j) 0 sc S (by omega) hS hp hPR hH
      exact ⟨congrArg nI hr.1, hr.2.1, hr.2.2.1, hr.2.2.2⟩
  · rw [if_neg hk, if_neg hk]
    exact ⟨rfl, hH, eo_rf, fun _ _ _ _ _ => rfl⟩
