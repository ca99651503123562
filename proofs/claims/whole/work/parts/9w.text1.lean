/-! a call on both sides: fault, text, thing -/
theorem kgL_e {tx : Nat → Nat} {E : Nat} : ∀ (d p f : Nat) (K : Kd), p ≤ E → K.2.1 ≤ 7 ∧ K.2.2.1 ≤ 5 → kgL tx E d p K = .error f → f ≤ E
  | 0, p, f, K, hp, _, h => by simp only [kgL] at h; cases h; exact hp
  | d + 1, p, f, K, hp, hK, h => by
    simp only [kgL] at h
    have hb := kCl_b (tx := tx) (K := K) hp hK
    cases hc : kCl tx E K p with
    | error e => rw [hc] at h hb; cases h; exact hb
    | ok z =>
      rw [hc] at h hb
      dsimp only at h hb
      by_cases h1 : cst tx E z.1 = 59
      · rw [if_pos h1] at h; exact kgL_e d _ _ _ (q_lt h1 (by decide)) hb.2.2 h
      · rw [if_neg h1] at h
        by_cases h2 : cst tx E z.1 = -1 ∧ whK z.2 = true
        · rw [if_pos h2] at h; cases h
        · rw [if_neg h2] at h; cases h; exact (skw_b hb.2.1).2.1
theorem rgL_e {tx : Nat → Nat} {E : Nat} : ∀ (d m p f : Nat) (F : Nat → Int32), p ≤ E → rgL tx E d m p F = .error f → f ≤ E
  | 0, _, p, f, _, hp, h => by simp only [rgL] at h; cases h; exact hp
  | d + 1, m, p, f, F, hp, h => by
    simp only [rgL] at h
    have hb := stR_b (tx := tx) hp
    cases hc : stR' tx E p with
    | error e => rw [hc] at h hb; cases h; exact hb
    | ok z =>
      rw [hc] at h hb
      dsimp only at h hb
      by_cases h1 : cst tx E z.1 = 59
      · rw [if_pos h1] at h
        by_cases h2 : m + 1 = 16
        · rw [if_pos h2] at h; cases h; exact (skw_b hb.2).2.1
        · rw [if_neg h2] at h; exact rgL_e d _ _ _ _ (q_lt h1 (by decide)) h
      · rw [if_neg h1] at h
        by_cases h2 : cst tx E z.1 = -1
        · rw [if_pos h2] at h; cases h
        · rw [if_neg h2] at h; cases h; exact (skw_b hb.2).2.1
theorem LZ_e {tx : Nat → Nat} {E : Nat} : ∀ (m p f : Nat) (r : Rl), p ≤ E → LZ tx E m p r → r = .error f → f ≤ E
  | 0, p, f, r, hp, h, e => by
    rcases h with ⟨-, h⟩ | ⟨-, -, h⟩
    · rw [h] at e; cases e
    · rw [h] at e; cases e; exact (skw_b hp).2.1
  | m + 1, p, f, r, hp, h, e => by
    obtain ⟨h1, h2⟩ := h
    have hn := q_lt h1 (by decide)
    rcases h2 with ⟨f', hc, h⟩ | ⟨p1, c, v, r1, hc, hl, h⟩
    · rw [h] at e; cases e; exact CZ_pr hc hn
    · have hg := CZ_pr hc hn
      cases hr : r1 with
      | ok L => rw [h, hr] at e; cases e
      | error f' => rw [h, hr] at e; cases e; exact LZ_e m p1 _ r1 hg.2 hl hr
theorem LW_e {tx : Nat → Nat} {E f : Nat} {r : Rl} (h : LW tx E r) (e : r = .error f) : f ≤ E := by
  rcases h with ⟨f', hc, h⟩ | ⟨p1, c, v, m, r1, hc, hl, h⟩
  · rw [h] at e; cases e; exact CZ_pr hc (Nat.zero_le _)
  · have hg := CZ_pr hc (Nat.zero_le _)
    cases hr : r1 with
    | ok L => rw [h, hr] at e; cases e
    | error f' => rw [h, hr] at e; cases e; exact LZ_e m p1 _ r1 hg.2 hl hr
theorem stR_k {tx : Nat → Nat} {E p : Nat} {z : Nat × Int32 × Int32 × Int32} (h : stR' tx E p = .ok z) : ∃ c, c ≤ 3 ∧ z.2.1 = nI c := by
  unfold stR' at h
  cases hi : xsp 7 (cst tx E p) with
  | none => rw [hi] at h; cases h
  | some i =>
    have hi4 : i < 4 := xsp_lt (si := 7) hi
    rw [hi] at h
    dsimp only at h
    by_cases h0 : i = 0
    · rw [if_pos h0] at h; cases h; exact ⟨0, by decide, rfl⟩
    · rw [if_neg h0] at h
      cases hd : dg1 tx E (skw tx E p + 1) with
      | error f => rw [hd] at h; cases h
      | ok y =>
        rw [hd] at h
        dsimp only at h
        by_cases h3 : i < 3
        · rw [if_pos h3] at h
          cases hd2 : dg1 tx E y.1 with
          | error f => rw [hd2] at h; cases h
          | ok x => rw [hd2] at h; cases h; exact ⟨i, by omega, rfl⟩
        · rw [if_neg h3] at h; cases h; exact ⟨i, by omega, rfl⟩
theorem rgL_k {tx : Nat → Nat} {E : Nat} : ∀ (d m p : Nat) (F : Nat → Int32) (z : Nat × (Nat → Int32)), rgL tx E d m p F = .ok z → (∀ i, i < m → ∃ c, c ≤ 3 ∧ F (3 * i) = nI c) → ∀ i, i < z.1 → ∃ c, c ≤ 3 ∧ z.2 (3 * i) = nI c
  | 0, _, _, _, _, h, _ => by simp only [rgL] at h; cases h
  | d + 1, m, p, F, z, h, hF => by
    simp only [rgL] at h
    cases hc : stR' tx E p with
    | error e => rw [hc] at h; cases h
    | ok y =>
      rw [hc] at h
      dsimp only at h
      have hk := stR_k hc
      have hF' : ∀ i, i < m + 1 → ∃ c, c ≤ 3 ∧ st3 F (3 * m) y.2.1 y.2.2.1 y.2.2.2 (3 * i) = nI c := by
        intro i hi
        by_cases e : i = m
        · subst e
          unfold st3
          rw [upd_n (by omega), upd_n (by omega), upd_s]
          exact hk
        · rw [st3_o (by omega)]; exact hF i (by omega)
      by_cases h1 : cst tx E y.1 = 59
      · rw [if_pos h1] at h
        by_cases h2 : m + 1 = 16
        · rw [if_pos h2] at h; cases h
        · rw [if_neg h2] at h; exact rgL_k d _ _ _ _ h hF'
      · rw [if_neg h1] at h
        by_cases h2 : cst tx E y.1 = -1
        · rw [if_pos h2] at h; cases h; exact hF'
        · rw [if_neg h2] at h; cases h
theorem MIx_b {Vs : Nat → Ex} {m : Nat} {s : am_S} {n : am_N} (h : MIx Vs m s n) : ∀ i, i < 6 → bd (s 43 (asN i)) := by
  obtain ⟨K, -, -, -, h, -⟩ := h
  exact h
theorem BO_fault {l : Launch} {g : ag_G} (hx : aw_hx g) {x : Int32} : BO l g mi_X11_fault 29 0 0 mi_X12_fault 32 [.int x] := by
  rintro s n ⟨T, Q, hRS, hHE, hWR⟩
  obtain ⟨V, MI, hV, hLM, hMI, hB⟩ := WR_use (l := l) hx hWR
  obtain ⟨hS, ⟨N, hN⟩, hI, hkn, ⟨P, pL, pF, hR⟩, E, tx, hT⟩ := id hRS
  obtain ⟨K, Ls, hLs, hM, h7, h34, hc⟩ := hWR
  obtain ⟨r1, hr1⟩ := LW_ex tx E
  refine ⟨fVal tx E r1 x, aw_Mm (c_X11_fault hx hT.1 hr1) ?_⟩
  rintro _ _ ⟨rfl, s1, rfl, e⟩
  have hb1 := b1_skL e
  have hm3 := m3_skL e
  have hTb := TR_mv hT a1_r hb1
  refine ⟨rfl, s1, n, rfl, aw_Mm (c_m_fault hx hT.1.2.1 hTb.2.1 (fun i hi => ⟨(hT.1.2.2 i hi).2.1, hTb.2.2 i hi⟩) (fun i hi => by rw [hm3.2.2.2.2]; exact MIx_b hM i hi) hr1) ?_⟩
  rintro _ _ ⟨rfl, s2, n2, rfl, e2, en2, hn2, -, -⟩
  have hm4 := m3_t (m3_t hm3 m3_0) (m3_skU e2)
  exact ⟨rfl, s2, n2, rfl, q_post hRS hHE hB (a1_t (a1_t (a1_skL e) a1_0) (a1_skU e2)) (a2_t (a2_t (a2_skL e) a2_0) (a2_skU e2)) (b1_t (b1_t hb1 b1_0) (b1_skU e2)) (b2_t (b2_t (b2_skL e) b2_0) (b2_skU e2)) en2.2.1 en2.2.2 (hLM.2.2.1 s _ n n2 hMI hm4.1 hm4.2.1 hm4.2.2.1 hm4.2.2.2.1 hm4.2.2.2.2 (by rw [hn2]))⟩
theorem BO_text_no {l : Launch} {g : ag_G} (hx : aw_hx g) {x : Int32} {s : am_S} {n : am_N} {T Q N P E K : Nat} {pL : Nat → Nat} {pF : Nat → Nat → Int32} {tx : Nat → Nat} {r1 : Rl} (hRS : RS g s s n T Q) (hHE : HE s s T Q) (hWR : WR g s s n) (hR : RR g s s n P pL pF) (hT : TR s s E tx) (h3 : s 10 3 = nI K) (hK4 : K ≤ 4) (h7 : s 39 7 = nI K) (hr1 : LW tx E r1) (hno : ¬ (inn x.toInt64 0 2 = true ∧ (x = 1 → ¬ K = 4) ∧ (x = 2 → ¬ P = 4) ∧ fVal tx E r1 x = -1)) : aw_M l g mi_X11_text 30 1 240 [.ref (g_ad g 0), .int x] (hp g s n) (fun r w => r = some (.int (-1)) ∧ ∃ s1 n1, w = hp g s1 n1 ∧ aw_M l g mi_X12_text 33 0 0 [.ref (g_ad g 39), .int x] (hp g s1 n1) (fun r w => r = some (.int (-1)) ∧ ∃ s2 n2, w = hp g s2 n2 ∧ REL g s2 s2 n2)) := by
  obtain ⟨V, MI, hV, hLM, hMI, hB⟩ := WR_use (l := l) hx hWR
  obtain ⟨K', Ls, hLs, hM, -⟩ := hWR
  refine aw_Mm (c_X11_text_no hx hT.1 hr1 h3 hK4 hR.1.1 hR.1.2.1 hno) ?_
  rintro _ _ ⟨rfl, s1, rfl, e⟩
  have hb1 := b1_skL e
  have hm3 := m3_skL e
  have hTb := TR_mv hT a1_r hb1
  have hRb := RR_mv hR a1_r hb1 rfl rfl
  have hno' : ¬ (inn x.toInt64 0 2 = true ∧ (x = 1 → ¬ s1 39 7 = 4) ∧ (x = 2 → ¬ s1 39 30 = 4) ∧ fVal tx E r1 x = -1) := by
    rintro ⟨g1, g2, g3, g4⟩
    refine hno ⟨g1, fun z w => g2 z ?_, fun z w => g3 z ?_, g4⟩
    · rw [hb1.2.1, h7, w]; rfl
    · have hP4 : s1 39 30 = nI P := hRb.2.1
      rw [hP4, w]; rfl
  refine ⟨rfl, s1, n, rfl, aw_Mm (c_m_text_no hx hT.1.2.1 hTb.2.1 (fun i hi => ⟨(hT.1.2.2 i hi).2.1, hTb.2.2 i hi⟩) (fun i hi => by rw [hm3.2.2.2.2]; exact MIx_b hM i hi) hr1 hno') ?_⟩
  rintro _ _ ⟨rfl, s2, n2, rfl, e2, en2, hn2⟩
  have hm4 := m3_t (m3_t hm3 m3_0) (m3_skU e2)
  exact ⟨rfl, s2, n2, rfl, q_post hRS hHE hB (a1_t (a1_t (a1_skL e) a1_0) (a1_skU e2)) (a2_t (a2_t (a2_skL e) a2_0) (a2_skU e2)) (b1_t (b1_t hb1 b1_0) (b1_skU e2)) (b2_t (b2_t (b2_skL e) b2_0) (b2_skU e2)) en2.2.1 en2.2.2 (hLM.2.2.1 s _ n n2 hMI hm4.1 hm4.2.1 hm4.2.2.1 hm4.2.2.2.1 hm4.2.2.2.2 (by rw [hn2]))⟩
theorem RR_k {g : ag_G} {sc sm sc' sm' : am_S} {n n' : am_N} {P : Nat} {pL : Nat → Nat} {pF : Nat → Nat → Int32} (h : RR g sc sm n P pL pF) (h1 : sc' 0 6 = sc 0 6) (q5 : sm' 39 30 = sm 39 30) (q13 : ∀ j, j < 192 → sm' 50 j = sm 50 j) (q14 : ∀ j, j < 4 → sm' 51 j = sm 51 j) (n1 : n'.2.1 14 = n.2.1 14) (n2 : ∀ (j : Nat) x, n.2.2.2[j]? = some x → n'.2.2.2[j]? = some x) : RR g sc' sm' n' P pL pF := by
  obtain ⟨⟨g1, g2, g3⟩, g4, g5⟩ := h
  refine ⟨⟨h1.trans g1, g2, fun q hq => ?_⟩, q5.trans g4, fun q hq => ⟨(q14 q (by omega)).trans (g5 q hq).1, fun i hi => ?_⟩⟩
  · obtain ⟨k1, j, a, f, k2, k3, k4⟩ := g3 q hq
    exact ⟨k1, j, a, f, by rw [n1]; exact k2, n2 _ _ k3, k4⟩
  · obtain ⟨k1, k2⟩ := (g5 q hq).2 i hi
    have h16 := (g3 q hq).1
    exact ⟨fun x hx => (q13 _ (by omega)).trans (k1 x hx), k2⟩
theorem LWs_k {g : ag_G} {sc sc' : am_S} {n n' : am_N} {K : Nat} {Ls : Nat → List (Ex × Ex)} (h : LWs g sc n K Ls) (h1 : sc' 10 3 = sc 10 3) (n1 : n'.2.1 11 = n.2.1 11) (n2 : ∀ (j : Nat) x, n.2.2.2[j]? = some x → n'.2.2.2[j]? = some x) : LWs g sc' n' K Ls := by
  obtain ⟨g1, g2, g3⟩ := h
  refine ⟨h1.trans g1, g2, fun k hk => ?_⟩
  obtain ⟨k1, j, a, len, f, k2, k3, k4, k5⟩ := g3 k hk
  exact ⟨k1, j, a, len, f, n2 _ _ k2, k3, k4, by rw [n1]; exact k5⟩

