/-! a call on both sides: questions -/
theorem HR_b {g : ag_G} {s S : am_S} {n : am_N} {T Q q a : Nat} {tt : Nat → Nat} (hRS : RS g s s n T Q) (h : HR s s T Q q a tt) (hb : b2 s S) : HR s S T Q q a tt := HR_mv hRS.1.1.2.1 hRS.1.1.2.2.2.1 h (fun _ _ => rfl) rfl rfl rfl rfl hb.1 hb.2.1 hb.2.2
theorem q_post {g : ag_G} {s s2 : am_S} {n n' : am_N} {T Q : Nat} {MI : am_S → am_N → Prop} (hRS : RS g s s n T Q) (hHE : HE s s T Q) (hB : ∀ (sc' sm' : am_S) (n' : am_N), sc' 10 3 = s 10 3 → sc' 10 4 = s 10 4 → n'.2.1 = n.2.1 → n'.2.2.2 = n.2.2.2 → sm' 39 7 = s 39 7 → sm' 39 34 = s 39 34 → MI sm' n' → WR g sc' sm' n') (h1 : a1 s s2) (h2 : a2 s s2) (h3 : b1 s s2) (h4 : b2 s s2) (n1 : n'.2.1 = n.2.1) (n2 : n'.2.2.2 = n.2.2.2) (hM : MI s2 n') : REL g s2 s2 n' :=
  ⟨T, Q, RS_mv hRS h1 h3 n1 n2, HE_mv hRS.1.1.2.1 hRS.1.1.2.2.2.1 hHE h2 h4, hB s2 s2 n' h1.2.2.2.2.1 h1.2.2.2.2.2.1 n1 n2 h3.2.1 h3.2.2.2.2.2.1 hM⟩
theorem vb_of {g : ag_G} {s : am_S} {n : am_N} {T Q q a : Nat} {tt : Nat → Nat} (h : HR s s T Q q a tt) : vb s T := fun j hj => by
  obtain ⟨hw, hb, -⟩ := h.2.2.1
  obtain ⟨-, D, hD, e⟩ := hb.1.1 j hj
  exact ⟨D, hD, (hw.2.1 j hj).2.1.trans e⟩
theorem nb_of {sc sm : am_S} {T Q N : Nat} (hT : T ≤ 7) (h : NR sc sm T Q N) : nb sc N ∧ nbm sm N := by
  obtain ⟨h1, h2, h3, h4⟩ := h
  refine ⟨⟨h1, h3, fun i hi => ?_⟩, h2, h3, fun i hi => ?_⟩
  · obtain ⟨⟨j, hj, e⟩, -⟩ := h4 i hi
    exact ⟨j, by omega, e⟩
  · obtain ⟨⟨j, hj, e⟩, -, -, e2, -⟩ := h4 i hi
    exact ⟨j, by omega, e2.trans e⟩
theorem qp_of {s : am_S} {T Q : Nat} (h : kb s T Q) (h0 : 0 < s 15 6) : 0 < Q := by
  obtain ⟨h1, h2, h3, h4, h5⟩ := h
  rcases Nat.eq_zero_or_pos T with e | e
  · rw [h1, e] at h0; exact absurd h0 (by decide)
  · obtain ⟨o, ho, -⟩ := h5 0 e
    omega
theorem RR_h {g : ag_G} {sc sm : am_S} {n : am_N} {P : Nat} {pL : Nat → Nat} {pF : Nat → Nat → Int32} (h : RR g sc sm n P pL pF) : ∀ q, q < P → pL q ≤ 16 ∧ sm 51 q = nI (pL q) ∧ PRn sm q (pL q) (pF q) := fun q hq => ⟨(h.1.2.2 q hq).1, (h.2.2 q hq).1, (h.2.2 q hq).2⟩
theorem RR_l {g : ag_G} {sc sm : am_S} {n : am_N} {P : Nat} {pL : Nat → Nat} {pF : Nat → Nat → Int32} (h : RR g sc sm n P pL pF) : ∀ q, q < P → ∃ L, L ≤ 16 ∧ sm 51 q = nI L := fun q hq => ⟨pL q, (h.1.2.2 q hq).1, (h.2.2 q hq).1⟩
theorem t_count {g : ag_G} {sc S : am_S} {n : am_N} {T Q q a N : Nat} {tt : Nat → Nat} {P : Nat} {pL : Nat → Nat} {pF : Nat → Nat → Int32} {E : Nat} {tx : Nat → Nat} {x : Int32} (hS : SR sc S T Q) (hH : HR sc S T Q q a tt) (hN : NR sc S T Q N) (hkn : sc 0 7 = S 39 35) (hR : RR g sc S n P pL pF) (hT : TR sc S E tx) (h7 : sc 10 3 = S 39 7) (h34 : S 39 34 = sc 10 4) : q_count sc x = m_count S x := by
  unfold q_count m_count
  obtain ⟨hw, hb, ⟨ht, ht9, hg⟩, -⟩ := hH.2.2.1
  rw [hS.1.1, hS.1.2.2.1, hS.2.1.1, hS.2.1.2.2.1, h7, hR.1.1, hR.2.1, hT.1.1, hT.2.1, h34, hkn, hN.1, hN.2.1, hw.1.2.2.2.2, hw.1.2.2.1, ht, hg, show mn 60 (nI (tt a)) = nI (min 60 (tt a)) from mn_nI (a := 60) (by decide) (by omega), hH.1.2.2.1, hH.2.1]

theorem h73_of {g : ag_G} {s : am_S} {n : am_N} (h : WR g s s n) : s 10 3 = s 39 7 ∧ s 39 34 = s 10 4 := by
  obtain ⟨K, Ls, ⟨h3, -⟩, -, h7, h34, -⟩ := h
  exact ⟨h3.trans h7.symm, h34⟩
theorem BO_rule {l : Launch} {g : ag_G} (hx : aw_hx g) {x : Int32} : BO l g mi_X11_rule 1 0 0 mi_X12_rule 1 [.int x] := by
  rintro s n ⟨T, Q, hRS, ⟨q, a, tt, hHR⟩, hWR⟩
  obtain ⟨V, MI, hV, hLM, hMI, hB⟩ := WR_use (l := l) hx hWR
  obtain ⟨hS, ⟨N, hN⟩, hI, hkn, ⟨P, pL, pF, hR⟩, E, tx, hT⟩ := id hRS
  have hV0 := hV n rfl rfl
  have htm : s 16 4 = nI (tt a) := hHR.2.2.1.1.1.2.2.2.2.trans hHR.2.2.1.2.2.1.1
  have ht9 : tt a ≤ 9999 := hHR.2.2.1.2.2.1.2.1
  refine ⟨q_rule s x, aw_Mm (c_X11_rule) ?_⟩
  rintro _ _ ⟨s1, rfl, rfl, e⟩
  have hA1 := a1_skF e
  have hA2 := a2_skF e
  have hb1 := b1_skF e
  have hb2 := b2_skF e
  have hm3 := m3_skF e
  have hSa := SR_mv2 hS a1_r (b1_t hb1 b1_0)
  have hSb := SR_mv2 hS a1_r hb1
  have hNa := NR_mv hN a1_r (b1_t hb1 b1_0)
  have hNb := NR_mv hN a1_r hb1
  have hRa := RR_mv hR a1_r (b1_t hb1 b1_0) rfl rfl
  have hRb := RR_mv hR a1_r hb1 rfl rfl
  have hTa := TR_mv hT a1_r (b1_t hb1 b1_0)
  have hHa := HR_b hRS hHR (b2_t hb2 b2_0)
  have hHb := HR_b hRS hHR hb2
  have hM1 : MI s1 n := hLM.2.2.1 s s1 n n hMI hm3.1 hm3.2.1 hm3.2.2.1 hm3.2.2.2.1 hm3.2.2.2.2 rfl
  have hC : MC l g MI V s1 n T Q := ⟨hSb.2.1, by rw [hb1.2.2.2.2.2.1]; exact hLM, hM1, hSb.2.2.2.1⟩
  have hrw : rwb (s1 52) T Q := hHb.2.2.1.2.1.1
  have hrI : rI (s1 52) T Q := ⟨hrw, min 60 (tt a), by omega, hHb.2.2.1.2.2.1.2.2⟩
  refine ⟨rfl, s1, n, rfl, aw_Mm (c_m_rule) ?_⟩
  rintro _ _ ⟨rfl, rfl⟩
  refine ⟨congrArg (fun x => some (Value.int x)) (t_rule hSb hHb).symm, up s1 39 0 0, n, rfl, ?_⟩
  have hm4 := m3_t hm3 m3_0
  exact q_post hRS ⟨q, a, tt, hHR⟩ hB (a1_t hA1 a1_0) (a2_t hA2 a2_0) (b1_t hb1 b1_0) (b2_t hb2 b2_0) rfl rfl (hLM.2.2.1 s _ n n hMI hm4.1 hm4.2.1 hm4.2.2.1 hm4.2.2.2.1 hm4.2.2.2.2 rfl)
theorem BO_ring {l : Launch} {g : ag_G} (hx : aw_hx g) {r x : Int32} : BO l g mi_X11_ring 1 0 0 mi_X12_ring 1 [.int r, .int x] := by
  rintro s n ⟨T, Q, hRS, ⟨q, a, tt, hHR⟩, hWR⟩
  obtain ⟨V, MI, hV, hLM, hMI, hB⟩ := WR_use (l := l) hx hWR
  obtain ⟨hS, ⟨N, hN⟩, hI, hkn, ⟨P, pL, pF, hR⟩, E, tx, hT⟩ := id hRS
  have hV0 := hV n rfl rfl
  have htm : s 16 4 = nI (tt a) := hHR.2.2.1.1.1.2.2.2.2.trans hHR.2.2.1.2.2.1.1
  have ht9 : tt a ≤ 9999 := hHR.2.2.1.2.2.1.2.1
  refine ⟨q_ring s r x, aw_Mm (c_X11_ring hS.1) ?_⟩
  rintro _ _ ⟨s1, rfl, rfl, e⟩
  have hA1 := a1_skF e
  have hA2 := a2_skF e
  have hb1 := b1_skF e
  have hb2 := b2_skF e
  have hm3 := m3_skF e
  have hSa := SR_mv2 hS a1_r (b1_t hb1 b1_0)
  have hSb := SR_mv2 hS a1_r hb1
  have hNa := NR_mv hN a1_r (b1_t hb1 b1_0)
  have hNb := NR_mv hN a1_r hb1
  have hRa := RR_mv hR a1_r (b1_t hb1 b1_0) rfl rfl
  have hRb := RR_mv hR a1_r hb1 rfl rfl
  have hTa := TR_mv hT a1_r (b1_t hb1 b1_0)
  have hHa := HR_b hRS hHR (b2_t hb2 b2_0)
  have hHb := HR_b hRS hHR hb2
  have hM1 : MI s1 n := hLM.2.2.1 s s1 n n hMI hm3.1 hm3.2.1 hm3.2.2.1 hm3.2.2.2.1 hm3.2.2.2.2 rfl
  have hC : MC l g MI V s1 n T Q := ⟨hSb.2.1, by rw [hb1.2.2.2.2.2.1]; exact hLM, hM1, hSb.2.2.2.1⟩
  have hrw : rwb (s1 52) T Q := hHb.2.2.1.2.1.1
  have hrI : rI (s1 52) T Q := ⟨hrw, min 60 (tt a), by omega, hHb.2.2.1.2.2.1.2.2⟩
  refine ⟨rfl, s1, n, rfl, aw_Mm (c_m_ring hSb.2.1) ?_⟩
  rintro _ _ ⟨rfl, rfl⟩
  refine ⟨congrArg (fun x => some (Value.int x)) (t_ring hSb hHb).symm, up s1 39 0 0, n, rfl, ?_⟩
  have hm4 := m3_t hm3 m3_0
  exact q_post hRS ⟨q, a, tt, hHR⟩ hB (a1_t hA1 a1_0) (a2_t hA2 a2_0) (b1_t hb1 b1_0) (b2_t hb2 b2_0) rfl rfl (hLM.2.2.1 s _ n n hMI hm4.1 hm4.2.1 hm4.2.2.1 hm4.2.2.2.1 hm4.2.2.2.2 rfl)
theorem BO_warmth {l : Launch} {g : ag_G} (hx : aw_hx g) {k : Int32} : BO l g mi_X11_warmth 2 0 0 mi_X12_warmth 2 [.int k] := by
  rintro s n ⟨T, Q, hRS, ⟨q, a, tt, hHR⟩, hWR⟩
  obtain ⟨V, MI, hV, hLM, hMI, hB⟩ := WR_use (l := l) hx hWR
  obtain ⟨hS, ⟨N, hN⟩, hI, hkn, ⟨P, pL, pF, hR⟩, E, tx, hT⟩ := id hRS
  have hV0 := hV n rfl rfl
  have htm : s 16 4 = nI (tt a) := hHR.2.2.1.1.1.2.2.2.2.trans hHR.2.2.1.2.2.1.1
  have ht9 : tt a ≤ 9999 := hHR.2.2.1.2.2.1.2.1
  refine ⟨q_warmth s k, aw_Mm (c_X11_warmth) ?_⟩
  rintro _ _ ⟨s1, rfl, rfl, e⟩
  have hA1 := a1_skF e
  have hA2 := a2_skF e
  have hb1 := b1_skF e
  have hb2 := b2_skF e
  have hm3 := m3_skF e
  have hSa := SR_mv2 hS a1_r (b1_t hb1 b1_0)
  have hSb := SR_mv2 hS a1_r hb1
  have hNa := NR_mv hN a1_r (b1_t hb1 b1_0)
  have hNb := NR_mv hN a1_r hb1
  have hRa := RR_mv hR a1_r (b1_t hb1 b1_0) rfl rfl
  have hRb := RR_mv hR a1_r hb1 rfl rfl
  have hTa := TR_mv hT a1_r (b1_t hb1 b1_0)
  have hHa := HR_b hRS hHR (b2_t hb2 b2_0)
  have hHb := HR_b hRS hHR hb2
  have hM1 : MI s1 n := hLM.2.2.1 s s1 n n hMI hm3.1 hm3.2.1 hm3.2.2.1 hm3.2.2.2.1 hm3.2.2.2.2 rfl
  have hC : MC l g MI V s1 n T Q := ⟨hSb.2.1, by rw [hb1.2.2.2.2.2.1]; exact hLM, hM1, hSb.2.2.2.1⟩
  have hrw : rwb (s1 52) T Q := hHb.2.2.1.2.1.1
  have hrI : rI (s1 52) T Q := ⟨hrw, min 60 (tt a), by omega, hHb.2.2.1.2.2.1.2.2⟩
  refine ⟨rfl, s1, n, rfl, aw_Mm (c_m_warmth) ?_⟩
  rintro _ _ ⟨rfl, rfl⟩
  refine ⟨congrArg (fun x => some (Value.int x)) (t_warmth hSb hHb).symm, up s1 39 0 0, n, rfl, ?_⟩
  have hm4 := m3_t hm3 m3_0
  exact q_post hRS ⟨q, a, tt, hHR⟩ hB (a1_t hA1 a1_0) (a2_t hA2 a2_0) (b1_t hb1 b1_0) (b2_t hb2 b2_0) rfl rfl (hLM.2.2.1 s _ n n hMI hm4.1 hm4.2.1 hm4.2.2.1 hm4.2.2.2.1 hm4.2.2.2.2 rfl)
theorem BO_lasts {l : Launch} {g : ag_G} (hx : aw_hx g) {t : Int32} : BO l g mi_X11_lasts 7 0 0 mi_X12_lasts 104 [.int t] := by
  rintro s n ⟨T, Q, hRS, ⟨q, a, tt, hHR⟩, hWR⟩
  obtain ⟨V, MI, hV, hLM, hMI, hB⟩ := WR_use (l := l) hx hWR
  obtain ⟨hS, ⟨N, hN⟩, hI, hkn, ⟨P, pL, pF, hR⟩, E, tx, hT⟩ := id hRS
  have hV0 := hV n rfl rfl
  have htm : s 16 4 = nI (tt a) := hHR.2.2.1.1.1.2.2.2.2.trans hHR.2.2.1.2.2.1.1
  have ht9 : tt a ≤ 9999 := hHR.2.2.1.2.2.1.2.1
  refine ⟨q_lasts V s t, aw_Mm (c_X11_lasts hS.1 hV0) ?_⟩
  rintro _ _ ⟨s1, rfl, rfl, e⟩
  have hA1 := a1_skF e
  have hA2 := a2_skF e
  have hb1 := b1_skF e
  have hb2 := b2_skF e
  have hm3 := m3_skF e
  have hSa := SR_mv2 hS a1_r (b1_t hb1 b1_0)
  have hSb := SR_mv2 hS a1_r hb1
  have hNa := NR_mv hN a1_r (b1_t hb1 b1_0)
  have hNb := NR_mv hN a1_r hb1
  have hRa := RR_mv hR a1_r (b1_t hb1 b1_0) rfl rfl
  have hRb := RR_mv hR a1_r hb1 rfl rfl
  have hTa := TR_mv hT a1_r (b1_t hb1 b1_0)
  have hHa := HR_b hRS hHR (b2_t hb2 b2_0)
  have hHb := HR_b hRS hHR hb2
  have hM1 : MI s1 n := hLM.2.2.1 s s1 n n hMI hm3.1 hm3.2.1 hm3.2.2.1 hm3.2.2.2.1 hm3.2.2.2.2 rfl
  have hC : MC l g MI V s1 n T Q := ⟨hSb.2.1, by rw [hb1.2.2.2.2.2.1]; exact hLM, hM1, hSb.2.2.2.1⟩
  have hrw : rwb (s1 52) T Q := hHb.2.2.1.2.1.1
  have hrI : rI (s1 52) T Q := ⟨hrw, min 60 (tt a), by omega, hHb.2.2.1.2.2.1.2.2⟩
  refine ⟨rfl, s1, n, rfl, aw_Mm (c_m_lasts hC hrw) ?_⟩
  rintro _ _ ⟨s2, n2, rfl, rfl, e2, en2, hM2⟩
  refine ⟨congrArg (fun x => some (Value.int x)) (t_lasts hSa hHa).symm, s2, n2, rfl, ?_⟩
  exact q_post hRS ⟨q, a, tt, hHR⟩ hB (a1_t (a1_t hA1 a1_0) (a1_skM e2)) (a2_t (a2_t hA2 a2_0) (a2_skM e2)) (b1_t (b1_t hb1 b1_0) (b1_skM e2)) (b2_t (b2_t hb2 b2_0) (b2_skM e2)) en2.2.1 en2.2.2 hM2
theorem BO_least {l : Launch} {g : ag_G} (hx : aw_hx g) {x k t : Int32} : BO l g mi_X11_least 8 0 0 mi_X12_least 104 [.int x, .int k, .int t] := by
  rintro s n ⟨T, Q, hRS, ⟨q, a, tt, hHR⟩, hWR⟩
  obtain ⟨V, MI, hV, hLM, hMI, hB⟩ := WR_use (l := l) hx hWR
  obtain ⟨hS, ⟨N, hN⟩, hI, hkn, ⟨P, pL, pF, hR⟩, E, tx, hT⟩ := id hRS
  have hV0 := hV n rfl rfl
  have htm : s 16 4 = nI (tt a) := hHR.2.2.1.1.1.2.2.2.2.trans hHR.2.2.1.2.2.1.1
  have ht9 : tt a ≤ 9999 := hHR.2.2.1.2.2.1.2.1
  refine ⟨q_least V s T x k t, aw_Mm (c_X11_least hS.1 (vb_of (g := g) (n := n) hHR) hV0) ?_⟩
  rintro _ _ ⟨s1, rfl, rfl, e⟩
  have hA1 := a1_skF e
  have hA2 := a2_skF e
  have hb1 := b1_skF e
  have hb2 := b2_skF e
  have hm3 := m3_skF e
  have hSa := SR_mv2 hS a1_r (b1_t hb1 b1_0)
  have hSb := SR_mv2 hS a1_r hb1
  have hNa := NR_mv hN a1_r (b1_t hb1 b1_0)
  have hNb := NR_mv hN a1_r hb1
  have hRa := RR_mv hR a1_r (b1_t hb1 b1_0) rfl rfl
  have hRb := RR_mv hR a1_r hb1 rfl rfl
  have hTa := TR_mv hT a1_r (b1_t hb1 b1_0)
  have hHa := HR_b hRS hHR (b2_t hb2 b2_0)
  have hHb := HR_b hRS hHR hb2
  have hM1 : MI s1 n := hLM.2.2.1 s s1 n n hMI hm3.1 hm3.2.1 hm3.2.2.1 hm3.2.2.2.1 hm3.2.2.2.2 rfl
  have hC : MC l g MI V s1 n T Q := ⟨hSb.2.1, by rw [hb1.2.2.2.2.2.1]; exact hLM, hM1, hSb.2.2.2.1⟩
  have hrw : rwb (s1 52) T Q := hHb.2.2.1.2.1.1
  have hrI : rI (s1 52) T Q := ⟨hrw, min 60 (tt a), by omega, hHb.2.2.1.2.2.1.2.2⟩
  refine ⟨rfl, s1, n, rfl, aw_Mm (c_m_least hC hrw) ?_⟩
  rintro _ _ ⟨s2, n2, rfl, rfl, e2, en2, hM2⟩
  refine ⟨congrArg (fun x => some (Value.int x)) (t_least hSa hHa).symm, s2, n2, rfl, ?_⟩
  exact q_post hRS ⟨q, a, tt, hHR⟩ hB (a1_t (a1_t hA1 a1_0) (a1_skM e2)) (a2_t (a2_t hA2 a2_0) (a2_skM e2)) (b1_t (b1_t hb1 b1_0) (b1_skM e2)) (b2_t (b2_t hb2 b2_0) (b2_skM e2)) en2.2.1 en2.2.2 hM2
theorem BO_pack {l : Launch} {g : ag_G} (hx : aw_hx g) {k x : Int32} : BO l g mi_X11_pack 8 0 0 mi_X12_pack 104 [.int k, .int x] := by
  rintro s n ⟨T, Q, hRS, ⟨q, a, tt, hHR⟩, hWR⟩
  obtain ⟨V, MI, hV, hLM, hMI, hB⟩ := WR_use (l := l) hx hWR
  obtain ⟨hS, ⟨N, hN⟩, hI, hkn, ⟨P, pL, pF, hR⟩, E, tx, hT⟩ := id hRS
  have hV0 := hV n rfl rfl
  have htm : s 16 4 = nI (tt a) := hHR.2.2.1.1.1.2.2.2.2.trans hHR.2.2.1.2.2.1.1
  have ht9 : tt a ≤ 9999 := hHR.2.2.1.2.2.1.2.1
  refine ⟨q_pack V s T k x, aw_Mm (c_X11_pack hS.1 (vb_of (g := g) (n := n) hHR) hV0) ?_⟩
  rintro _ _ ⟨s1, rfl, rfl, e⟩
  have hA1 := a1_skF e
  have hA2 := a2_skF e
  have hb1 := b1_skF e
  have hb2 := b2_skF e
  have hm3 := m3_skF e
  have hSa := SR_mv2 hS a1_r (b1_t hb1 b1_0)
  have hSb := SR_mv2 hS a1_r hb1
  have hNa := NR_mv hN a1_r (b1_t hb1 b1_0)
  have hNb := NR_mv hN a1_r hb1
  have hRa := RR_mv hR a1_r (b1_t hb1 b1_0) rfl rfl
  have hRb := RR_mv hR a1_r hb1 rfl rfl
  have hTa := TR_mv hT a1_r (b1_t hb1 b1_0)
  have hHa := HR_b hRS hHR (b2_t hb2 b2_0)
  have hHb := HR_b hRS hHR hb2
  have hM1 : MI s1 n := hLM.2.2.1 s s1 n n hMI hm3.1 hm3.2.1 hm3.2.2.1 hm3.2.2.2.1 hm3.2.2.2.2 rfl
  have hC : MC l g MI V s1 n T Q := ⟨hSb.2.1, by rw [hb1.2.2.2.2.2.1]; exact hLM, hM1, hSb.2.2.2.1⟩
  have hrw : rwb (s1 52) T Q := hHb.2.2.1.2.1.1
  have hrI : rI (s1 52) T Q := ⟨hrw, min 60 (tt a), by omega, hHb.2.2.1.2.2.1.2.2⟩
  refine ⟨rfl, s1, n, rfl, aw_Mm (c_m_pack hC hrw) ?_⟩
  rintro _ _ ⟨s2, n2, rfl, rfl, e2, en2, hM2⟩
  refine ⟨congrArg (fun x => some (Value.int x)) (t_pack hSa hHa).symm, s2, n2, rfl, ?_⟩
  exact q_post hRS ⟨q, a, tt, hHR⟩ hB (a1_t (a1_t hA1 a1_0) (a1_skN e2)) (a2_t (a2_t hA2 a2_0) (a2_skN e2)) (b1_t (b1_t hb1 b1_0) (b1_skN e2)) (b2_t (b2_t hb2 b2_0) (b2_skN e2)) en2.2.1 en2.2.2 hM2
theorem BO_order {l : Launch} {g : ag_G} (hx : aw_hx g) {x : Int32} : BO l g mi_X11_order 7 0 0 mi_X12_order 104 [.int x] := by
  rintro s n ⟨T, Q, hRS, ⟨q, a, tt, hHR⟩, hWR⟩
  obtain ⟨V, MI, hV, hLM, hMI, hB⟩ := WR_use (l := l) hx hWR
  obtain ⟨hS, ⟨N, hN⟩, hI, hkn, ⟨P, pL, pF, hR⟩, E, tx, hT⟩ := id hRS
  have hV0 := hV n rfl rfl
  have htm : s 16 4 = nI (tt a) := hHR.2.2.1.1.1.2.2.2.2.trans hHR.2.2.1.2.2.1.1
  have ht9 : tt a ≤ 9999 := hHR.2.2.1.2.2.1.2.1
  refine ⟨q_order V s T x, aw_Mm (c_X11_order hS.1 hV0) ?_⟩
  rintro _ _ ⟨s1, rfl, rfl, e⟩
  have hA1 := a1_skF e
  have hA2 := a2_skF e
  have hb1 := b1_skF e
  have hb2 := b2_skF e
  have hm3 := m3_skF e
  have hSa := SR_mv2 hS a1_r (b1_t hb1 b1_0)
  have hSb := SR_mv2 hS a1_r hb1
  have hNa := NR_mv hN a1_r (b1_t hb1 b1_0)
  have hNb := NR_mv hN a1_r hb1
  have hRa := RR_mv hR a1_r (b1_t hb1 b1_0) rfl rfl
  have hRb := RR_mv hR a1_r hb1 rfl rfl
  have hTa := TR_mv hT a1_r (b1_t hb1 b1_0)
  have hHa := HR_b hRS hHR (b2_t hb2 b2_0)
  have hHb := HR_b hRS hHR hb2
  have hM1 : MI s1 n := hLM.2.2.1 s s1 n n hMI hm3.1 hm3.2.1 hm3.2.2.1 hm3.2.2.2.1 hm3.2.2.2.2 rfl
  have hC : MC l g MI V s1 n T Q := ⟨hSb.2.1, by rw [hb1.2.2.2.2.2.1]; exact hLM, hM1, hSb.2.2.2.1⟩
  have hrw : rwb (s1 52) T Q := hHb.2.2.1.2.1.1
  have hrI : rI (s1 52) T Q := ⟨hrw, min 60 (tt a), by omega, hHb.2.2.1.2.2.1.2.2⟩
  refine ⟨rfl, s1, n, rfl, aw_Mm (c_m_order hC hrw) ?_⟩
  rintro _ _ ⟨s2, n2, rfl, rfl, e2, en2, hM2⟩
  refine ⟨congrArg (fun x => some (Value.int x)) (t_order hSa hHa).symm, s2, n2, rfl, ?_⟩
  exact q_post hRS ⟨q, a, tt, hHR⟩ hB (a1_t (a1_t hA1 a1_0) (a1_skN e2)) (a2_t (a2_t hA2 a2_0) (a2_skN e2)) (b1_t (b1_t hb1 b1_0) (b1_skN e2)) (b2_t (b2_t hb2 b2_0) (b2_skN e2)) en2.2.1 en2.2.2 hM2
theorem BO_dealt {l : Launch} {g : ag_G} (hx : aw_hx g) {k x : Int32} : BO l g mi_X11_dealt 7 0 0 mi_X12_dealt 103 [.int k, .int x] := by
  rintro s n ⟨T, Q, hRS, ⟨q, a, tt, hHR⟩, hWR⟩
  obtain ⟨V, MI, hV, hLM, hMI, hB⟩ := WR_use (l := l) hx hWR
  obtain ⟨hS, ⟨N, hN⟩, hI, hkn, ⟨P, pL, pF, hR⟩, E, tx, hT⟩ := id hRS
  have hV0 := hV n rfl rfl
  have htm : s 16 4 = nI (tt a) := hHR.2.2.1.1.1.2.2.2.2.trans hHR.2.2.1.2.2.1.1
  have ht9 : tt a ≤ 9999 := hHR.2.2.1.2.2.1.2.1
  refine ⟨q_dealt V s T k x, aw_Mm (c_X11_dealt hS.1 hV0) ?_⟩
  rintro _ _ ⟨s1, rfl, rfl, e⟩
  have hA1 := a1_skF e
  have hA2 := a2_skF e
  have hb1 := b1_skF e
  have hb2 := b2_skF e
  have hm3 := m3_skF e
  have hSa := SR_mv2 hS a1_r (b1_t hb1 b1_0)
  have hSb := SR_mv2 hS a1_r hb1
  have hNa := NR_mv hN a1_r (b1_t hb1 b1_0)
  have hNb := NR_mv hN a1_r hb1
  have hRa := RR_mv hR a1_r (b1_t hb1 b1_0) rfl rfl
  have hRb := RR_mv hR a1_r hb1 rfl rfl
  have hTa := TR_mv hT a1_r (b1_t hb1 b1_0)
  have hHa := HR_b hRS hHR (b2_t hb2 b2_0)
  have hHb := HR_b hRS hHR hb2
  have hM1 : MI s1 n := hLM.2.2.1 s s1 n n hMI hm3.1 hm3.2.1 hm3.2.2.1 hm3.2.2.2.1 hm3.2.2.2.2 rfl
  have hC : MC l g MI V s1 n T Q := ⟨hSb.2.1, by rw [hb1.2.2.2.2.2.1]; exact hLM, hM1, hSb.2.2.2.1⟩
  have hrw : rwb (s1 52) T Q := hHb.2.2.1.2.1.1
  have hrI : rI (s1 52) T Q := ⟨hrw, min 60 (tt a), by omega, hHb.2.2.1.2.2.1.2.2⟩
  refine ⟨rfl, s1, n, rfl, aw_Mm (c_m_dealt hC hrw) ?_⟩
  rintro _ _ ⟨s2, n2, rfl, rfl, e2, en2, hM2⟩
  refine ⟨congrArg (fun x => some (Value.int x)) (t_dealt hSa hHa).symm, s2, n2, rfl, ?_⟩
  exact q_post hRS ⟨q, a, tt, hHR⟩ hB (a1_t (a1_t hA1 a1_0) (a1_skN e2)) (a2_t (a2_t hA2 a2_0) (a2_skN e2)) (b1_t (b1_t hb1 b1_0) (b1_skN e2)) (b2_t (b2_t hb2 b2_0) (b2_skN e2)) en2.2.1 en2.2.2 hM2
theorem BO_who {l : Launch} {g : ag_G} (hx : aw_hx g) {i : Int32} : BO l g mi_X11_who 5 0 0 mi_X12_who 3 [.int i] := by
  rintro s n ⟨T, Q, hRS, ⟨q, a, tt, hHR⟩, hWR⟩
  obtain ⟨V, MI, hV, hLM, hMI, hB⟩ := WR_use (l := l) hx hWR
  obtain ⟨hS, ⟨N, hN⟩, hI, hkn, ⟨P, pL, pF, hR⟩, E, tx, hT⟩ := id hRS
  have hV0 := hV n rfl rfl
  have htm : s 16 4 = nI (tt a) := hHR.2.2.1.1.1.2.2.2.2.trans hHR.2.2.1.2.2.1.1
  have ht9 : tt a ≤ 9999 := hHR.2.2.1.2.2.1.2.1
  refine ⟨q_who s N T Q i, aw_Mm (c_X11_who hS.1 (nb_of hS.1.2.1 hN).1) ?_⟩
  rintro _ _ ⟨s1, rfl, rfl, e⟩
  have hA1 := a1_skF e
  have hA2 := a2_skF e
  have hb1 := b1_skF e
  have hb2 := b2_skF e
  have hm3 := m3_skF e
  have hSa := SR_mv2 hS a1_r (b1_t hb1 b1_0)
  have hSb := SR_mv2 hS a1_r hb1
  have hNa := NR_mv hN a1_r (b1_t hb1 b1_0)
  have hNb := NR_mv hN a1_r hb1
  have hRa := RR_mv hR a1_r (b1_t hb1 b1_0) rfl rfl
  have hRb := RR_mv hR a1_r hb1 rfl rfl
  have hTa := TR_mv hT a1_r (b1_t hb1 b1_0)
  have hHa := HR_b hRS hHR (b2_t hb2 b2_0)
  have hHb := HR_b hRS hHR hb2
  have hM1 : MI s1 n := hLM.2.2.1 s s1 n n hMI hm3.1 hm3.2.1 hm3.2.2.1 hm3.2.2.2.1 hm3.2.2.2.2 rfl
  have hC : MC l g MI V s1 n T Q := ⟨hSb.2.1, by rw [hb1.2.2.2.2.2.1]; exact hLM, hM1, hSb.2.2.2.1⟩
  have hrw : rwb (s1 52) T Q := hHb.2.2.1.2.1.1
  have hrI : rI (s1 52) T Q := ⟨hrw, min 60 (tt a), by omega, hHb.2.2.1.2.2.1.2.2⟩
  refine ⟨rfl, s1, n, rfl, aw_Mm (c_m_who hSb.2.1 (nb_of hS.1.2.1 hNb).2) ?_⟩
  rintro _ _ ⟨rfl, rfl⟩
  refine ⟨congrArg (fun x => some (Value.int x)) (t_who hSa hHa hNa).symm, up s1 39 0 0, n, rfl, ?_⟩
  have hm4 := m3_t hm3 m3_0
  exact q_post hRS ⟨q, a, tt, hHR⟩ hB (a1_t hA1 a1_0) (a2_t hA2 a2_0) (b1_t hb1 b1_0) (b2_t hb2 b2_0) rfl rfl (hLM.2.2.1 s _ n n hMI hm4.1 hm4.2.1 hm4.2.2.1 hm4.2.2.2.1 hm4.2.2.2.2 rfl)
theorem BO_ask {l : Launch} {g : ag_G} (hx : aw_hx g) : BO l g mi_X11_ask 5 0 0 mi_X12_ask 3 [] := by
  rintro s n ⟨T, Q, hRS, ⟨q, a, tt, hHR⟩, hWR⟩
  obtain ⟨V, MI, hV, hLM, hMI, hB⟩ := WR_use (l := l) hx hWR
  obtain ⟨hS, ⟨N, hN⟩, hI, hkn, ⟨P, pL, pF, hR⟩, E, tx, hT⟩ := id hRS
  have hV0 := hV n rfl rfl
  have htm : s 16 4 = nI (tt a) := hHR.2.2.1.1.1.2.2.2.2.trans hHR.2.2.1.2.2.1.1
  have ht9 : tt a ≤ 9999 := hHR.2.2.1.2.2.1.2.1
  refine ⟨q_ask s N T Q, aw_Mm (c_X11_ask hS.1 (nb_of hS.1.2.1 hN).1) ?_⟩
  rintro _ _ ⟨s1, rfl, rfl, e⟩
  have hA1 := a1_skF e
  have hA2 := a2_skF e
  have hb1 := b1_skF e
  have hb2 := b2_skF e
  have hm3 := m3_skF e
  have hSa := SR_mv2 hS a1_r (b1_t hb1 b1_0)
  have hSb := SR_mv2 hS a1_r hb1
  have hNa := NR_mv hN a1_r (b1_t hb1 b1_0)
  have hNb := NR_mv hN a1_r hb1
  have hRa := RR_mv hR a1_r (b1_t hb1 b1_0) rfl rfl
  have hRb := RR_mv hR a1_r hb1 rfl rfl
  have hTa := TR_mv hT a1_r (b1_t hb1 b1_0)
  have hHa := HR_b hRS hHR (b2_t hb2 b2_0)
  have hHb := HR_b hRS hHR hb2
  have hM1 : MI s1 n := hLM.2.2.1 s s1 n n hMI hm3.1 hm3.2.1 hm3.2.2.1 hm3.2.2.2.1 hm3.2.2.2.2 rfl
  have hC : MC l g MI V s1 n T Q := ⟨hSb.2.1, by rw [hb1.2.2.2.2.2.1]; exact hLM, hM1, hSb.2.2.2.1⟩
  have hrw : rwb (s1 52) T Q := hHb.2.2.1.2.1.1
  have hrI : rI (s1 52) T Q := ⟨hrw, min 60 (tt a), by omega, hHb.2.2.1.2.2.1.2.2⟩
  refine ⟨rfl, s1, n, rfl, aw_Mm (c_m_ask hSb.2.1 (nb_of hS.1.2.1 hNb).2) ?_⟩
  rintro _ _ ⟨rfl, rfl⟩
  refine ⟨congrArg (fun x => some (Value.int x)) (t_ask hSa hHa hNa).symm, up s1 39 0 0, n, rfl, ?_⟩
  have hm4 := m3_t hm3 m3_0
  exact q_post hRS ⟨q, a, tt, hHR⟩ hB (a1_t hA1 a1_0) (a2_t hA2 a2_0) (b1_t hb1 b1_0) (b2_t hb2 b2_0) rfl rfl (hLM.2.2.1 s _ n n hMI hm4.1 hm4.2.1 hm4.2.2.1 hm4.2.2.2.1 hm4.2.2.2.2 rfl)
theorem BO_game {l : Launch} {g : ag_G} (hx : aw_hx g) {p1 p2 t x y v : Int32} : BO l g mi_X11_game 3 0 0 mi_X12_game 3 [.int p1, .int p2, .int t, .int x, .int y, .int v] := by
  rintro s n ⟨T, Q, hRS, ⟨q, a, tt, hHR⟩, hWR⟩
  obtain ⟨V, MI, hV, hLM, hMI, hB⟩ := WR_use (l := l) hx hWR
  obtain ⟨hS, ⟨N, hN⟩, hI, hkn, ⟨P, pL, pF, hR⟩, E, tx, hT⟩ := id hRS
  have hV0 := hV n rfl rfl
  have htm : s 16 4 = nI (tt a) := hHR.2.2.1.1.1.2.2.2.2.trans hHR.2.2.1.2.2.1.1
  have ht9 : tt a ≤ 9999 := hHR.2.2.1.2.2.1.2.1
  refine ⟨q_game s p1 p2 t x y v, aw_Mm (c_X11_game hS.1) ?_⟩
  rintro _ _ ⟨s1, rfl, rfl, e⟩
  have hA1 := a1_skF e
  have hA2 := a2_skF e
  have hb1 := b1_skF e
  have hb2 := b2_skF e
  have hm3 := m3_skF e
  have hSa := SR_mv2 hS a1_r (b1_t hb1 b1_0)
  have hSb := SR_mv2 hS a1_r hb1
  have hNa := NR_mv hN a1_r (b1_t hb1 b1_0)
  have hNb := NR_mv hN a1_r hb1
  have hRa := RR_mv hR a1_r (b1_t hb1 b1_0) rfl rfl
  have hRb := RR_mv hR a1_r hb1 rfl rfl
  have hTa := TR_mv hT a1_r (b1_t hb1 b1_0)
  have hHa := HR_b hRS hHR (b2_t hb2 b2_0)
  have hHb := HR_b hRS hHR hb2
  have hM1 : MI s1 n := hLM.2.2.1 s s1 n n hMI hm3.1 hm3.2.1 hm3.2.2.1 hm3.2.2.2.1 hm3.2.2.2.2 rfl
  have hC : MC l g MI V s1 n T Q := ⟨hSb.2.1, by rw [hb1.2.2.2.2.2.1]; exact hLM, hM1, hSb.2.2.2.1⟩
  have hrw : rwb (s1 52) T Q := hHb.2.2.1.2.1.1
  have hrI : rI (s1 52) T Q := ⟨hrw, min 60 (tt a), by omega, hHb.2.2.1.2.2.1.2.2⟩
  refine ⟨rfl, s1, n, rfl, aw_Mm (c_m_game hSb.2.1) ?_⟩
  rintro _ _ ⟨rfl, rfl⟩
  refine ⟨congrArg (fun x => some (Value.int x)) (t_game hSa hHa).symm, up s1 39 0 0, n, rfl, ?_⟩
  have hm4 := m3_t hm3 m3_0
  exact q_post hRS ⟨q, a, tt, hHR⟩ hB (a1_t hA1 a1_0) (a2_t hA2 a2_0) (b1_t hb1 b1_0) (b2_t hb2 b2_0) rfl rfl (hLM.2.2.1 s _ n n hMI hm4.1 hm4.2.1 hm4.2.2.1 hm4.2.2.2.1 hm4.2.2.2.2 rfl)
theorem BO_rests {l : Launch} {g : ag_G} (hx : aw_hx g) {p1 p2 t i : Int32} : BO l g mi_X11_rests 4 0 0 mi_X12_rests 3 [.int p1, .int p2, .int t, .int i] := by
  rintro s n ⟨T, Q, hRS, ⟨q, a, tt, hHR⟩, hWR⟩
  obtain ⟨V, MI, hV, hLM, hMI, hB⟩ := WR_use (l := l) hx hWR
  obtain ⟨hS, ⟨N, hN⟩, hI, hkn, ⟨P, pL, pF, hR⟩, E, tx, hT⟩ := id hRS
  have hV0 := hV n rfl rfl
  have htm : s 16 4 = nI (tt a) := hHR.2.2.1.1.1.2.2.2.2.trans hHR.2.2.1.2.2.1.1
  have ht9 : tt a ≤ 9999 := hHR.2.2.1.2.2.1.2.1
  refine ⟨q_rests s p1 p2 t i, aw_Mm (c_X11_rests hS.1) ?_⟩
  rintro _ _ ⟨s1, rfl, rfl, e⟩
  have hA1 := a1_skF e
  have hA2 := a2_skF e
  have hb1 := b1_skF e
  have hb2 := b2_skF e
  have hm3 := m3_skF e
  have hSa := SR_mv2 hS a1_r (b1_t hb1 b1_0)
  have hSb := SR_mv2 hS a1_r hb1
  have hNa := NR_mv hN a1_r (b1_t hb1 b1_0)
  have hNb := NR_mv hN a1_r hb1
  have hRa := RR_mv hR a1_r (b1_t hb1 b1_0) rfl rfl
  have hRb := RR_mv hR a1_r hb1 rfl rfl
  have hTa := TR_mv hT a1_r (b1_t hb1 b1_0)
  have hHa := HR_b hRS hHR (b2_t hb2 b2_0)
  have hHb := HR_b hRS hHR hb2
  have hM1 : MI s1 n := hLM.2.2.1 s s1 n n hMI hm3.1 hm3.2.1 hm3.2.2.1 hm3.2.2.2.1 hm3.2.2.2.2 rfl
  have hC : MC l g MI V s1 n T Q := ⟨hSb.2.1, by rw [hb1.2.2.2.2.2.1]; exact hLM, hM1, hSb.2.2.2.1⟩
  have hrw : rwb (s1 52) T Q := hHb.2.2.1.2.1.1
  have hrI : rI (s1 52) T Q := ⟨hrw, min 60 (tt a), by omega, hHb.2.2.1.2.2.1.2.2⟩
  refine ⟨rfl, s1, n, rfl, aw_Mm (c_m_rests hSb.2.1) ?_⟩
  rintro _ _ ⟨rfl, rfl⟩
  refine ⟨congrArg (fun x => some (Value.int x)) (t_rests hSa hHa).symm, up s1 39 0 0, n, rfl, ?_⟩
  have hm4 := m3_t hm3 m3_0
  exact q_post hRS ⟨q, a, tt, hHR⟩ hB (a1_t hA1 a1_0) (a2_t hA2 a2_0) (b1_t hb1 b1_0) (b2_t hb2 b2_0) rfl rfl (hLM.2.2.1 s _ n n hMI hm4.1 hm4.2.1 hm4.2.2.1 hm4.2.2.2.1 hm4.2.2.2.2 rfl)
theorem BO_odds {l : Launch} {g : ag_G} (hx : aw_hx g) {t k ch : Int32} : BO l g mi_X11_odds 5 0 0 mi_X12_odds 102 [.int t, .int k, .int ch] := by
  rintro s n ⟨T, Q, hRS, ⟨q, a, tt, hHR⟩, hWR⟩
  obtain ⟨V, MI, hV, hLM, hMI, hB⟩ := WR_use (l := l) hx hWR
  obtain ⟨hS, ⟨N, hN⟩, hI, hkn, ⟨P, pL, pF, hR⟩, E, tx, hT⟩ := id hRS
  have hV0 := hV n rfl rfl
  have htm : s 16 4 = nI (tt a) := hHR.2.2.1.1.1.2.2.2.2.trans hHR.2.2.1.2.2.1.1
  have ht9 : tt a ≤ 9999 := hHR.2.2.1.2.2.1.2.1
  refine ⟨q_odds V s t k ch, aw_Mm (c_X11_odds hS.1 hV0) ?_⟩
  rintro _ _ ⟨s1, rfl, rfl, e⟩
  have hA1 := a1_skF e
  have hA2 := a2_skF e
  have hb1 := b1_skF e
  have hb2 := b2_skF e
  have hm3 := m3_skF e
  have hSa := SR_mv2 hS a1_r (b1_t hb1 b1_0)
  have hSb := SR_mv2 hS a1_r hb1
  have hNa := NR_mv hN a1_r (b1_t hb1 b1_0)
  have hNb := NR_mv hN a1_r hb1
  have hRa := RR_mv hR a1_r (b1_t hb1 b1_0) rfl rfl
  have hRb := RR_mv hR a1_r hb1 rfl rfl
  have hTa := TR_mv hT a1_r (b1_t hb1 b1_0)
  have hHa := HR_b hRS hHR (b2_t hb2 b2_0)
  have hHb := HR_b hRS hHR hb2
  have hM1 : MI s1 n := hLM.2.2.1 s s1 n n hMI hm3.1 hm3.2.1 hm3.2.2.1 hm3.2.2.2.1 hm3.2.2.2.2 rfl
  have hC : MC l g MI V s1 n T Q := ⟨hSb.2.1, by rw [hb1.2.2.2.2.2.1]; exact hLM, hM1, hSb.2.2.2.1⟩
  have hrw : rwb (s1 52) T Q := hHb.2.2.1.2.1.1
  have hrI : rI (s1 52) T Q := ⟨hrw, min 60 (tt a), by omega, hHb.2.2.1.2.2.1.2.2⟩
  refine ⟨rfl, s1, n, rfl, aw_Mm (c_m_odds hC hrw) ?_⟩
  rintro _ _ ⟨s2, n2, rfl, rfl, e2, en2, hM2⟩
  refine ⟨congrArg (fun x => some (Value.int x)) (t_odds hSa hHa).symm, s2, n2, rfl, ?_⟩
  exact q_post hRS ⟨q, a, tt, hHR⟩ hB (a1_t (a1_t hA1 a1_0) (a1_skM e2)) (a2_t (a2_t hA2 a2_0) (a2_skM e2)) (b1_t (b1_t hb1 b1_0) (b1_skM e2)) (b2_t (b2_t hb2 b2_0) (b2_skM e2)) en2.2.1 en2.2.2 hM2
theorem BO_all {l : Launch} {g : ag_G} (hx : aw_hx g) {x : Int32} : BO l g mi_X11_all 6 0 0 mi_X12_all 104 [.int x] := by
  rintro s n ⟨T, Q, hRS, ⟨q, a, tt, hHR⟩, hWR⟩
  obtain ⟨V, MI, hV, hLM, hMI, hB⟩ := WR_use (l := l) hx hWR
  obtain ⟨hS, ⟨N, hN⟩, hI, hkn, ⟨P, pL, pF, hR⟩, E, tx, hT⟩ := id hRS
  have hV0 := hV n rfl rfl
  have htm : s 16 4 = nI (tt a) := hHR.2.2.1.1.1.2.2.2.2.trans hHR.2.2.1.2.2.1.1
  have ht9 : tt a ≤ 9999 := hHR.2.2.1.2.2.1.2.1
  refine ⟨q_all V s T Q x, aw_Mm (c_X11_all hS.1 (qp_of hS.1) hV0) ?_⟩
  rintro _ _ ⟨s1, rfl, rfl, e⟩
  have hA1 := a1_skF e
  have hA2 := a2_skF e
  have hb1 := b1_skF e
  have hb2 := b2_skF e
  have hm3 := m3_skF e
  have hSa := SR_mv2 hS a1_r (b1_t hb1 b1_0)
  have hSb := SR_mv2 hS a1_r hb1
  have hNa := NR_mv hN a1_r (b1_t hb1 b1_0)
  have hNb := NR_mv hN a1_r hb1
  have hRa := RR_mv hR a1_r (b1_t hb1 b1_0) rfl rfl
  have hRb := RR_mv hR a1_r hb1 rfl rfl
  have hTa := TR_mv hT a1_r (b1_t hb1 b1_0)
  have hHa := HR_b hRS hHR (b2_t hb2 b2_0)
  have hHb := HR_b hRS hHR hb2
  have hM1 : MI s1 n := hLM.2.2.1 s s1 n n hMI hm3.1 hm3.2.1 hm3.2.2.1 hm3.2.2.2.1 hm3.2.2.2.2 rfl
  have hC : MC l g MI V s1 n T Q := ⟨hSb.2.1, by rw [hb1.2.2.2.2.2.1]; exact hLM, hM1, hSb.2.2.2.1⟩
  have hrw : rwb (s1 52) T Q := hHb.2.2.1.2.1.1
  have hrI : rI (s1 52) T Q := ⟨hrw, min 60 (tt a), by omega, hHb.2.2.1.2.2.1.2.2⟩
  refine ⟨rfl, s1, n, rfl, aw_Mm (c_m_all hC hrw) ?_⟩
  rintro _ _ ⟨s2, n2, rfl, rfl, e2, en2, hM2⟩
  refine ⟨congrArg (fun x => some (Value.int x)) (t_all hSa hHa).symm, s2, n2, rfl, ?_⟩
  exact q_post hRS ⟨q, a, tt, hHR⟩ hB (a1_t (a1_t hA1 a1_0) (a1_skM e2)) (a2_t (a2_t hA2 a2_0) (a2_skM e2)) (b1_t (b1_t hb1 b1_0) (b1_skM e2)) (b2_t (b2_t hb2 b2_0) (b2_skM e2)) en2.2.1 en2.2.2 hM2
theorem BO_known {l : Launch} {g : ag_G} (hx : aw_hx g) {r : Int32} : BO l g mi_X11_known 3 0 0 mi_X12_known 1 [.int r] := by
  rintro s n ⟨T, Q, hRS, ⟨q, a, tt, hHR⟩, hWR⟩
  obtain ⟨V, MI, hV, hLM, hMI, hB⟩ := WR_use (l := l) hx hWR
  obtain ⟨hS, ⟨N, hN⟩, hI, hkn, ⟨P, pL, pF, hR⟩, E, tx, hT⟩ := id hRS
  have hV0 := hV n rfl rfl
  have htm : s 16 4 = nI (tt a) := hHR.2.2.1.1.1.2.2.2.2.trans hHR.2.2.1.2.2.1.1
  have ht9 : tt a ≤ 9999 := hHR.2.2.1.2.2.1.2.1
  refine ⟨q_known s T r, aw_Mm (c_X11_known hS.1) ?_⟩
  rintro _ _ ⟨s1, rfl, rfl, e⟩
  have hA1 := a1_skF e
  have hA2 := a2_skF e
  have hb1 := b1_skF e
  have hb2 := b2_skF e
  have hm3 := m3_skF e
  have hSa := SR_mv2 hS a1_r (b1_t hb1 b1_0)
  have hSb := SR_mv2 hS a1_r hb1
  have hNa := NR_mv hN a1_r (b1_t hb1 b1_0)
  have hNb := NR_mv hN a1_r hb1
  have hRa := RR_mv hR a1_r (b1_t hb1 b1_0) rfl rfl
  have hRb := RR_mv hR a1_r hb1 rfl rfl
  have hTa := TR_mv hT a1_r (b1_t hb1 b1_0)
  have hHa := HR_b hRS hHR (b2_t hb2 b2_0)
  have hHb := HR_b hRS hHR hb2
  have hM1 : MI s1 n := hLM.2.2.1 s s1 n n hMI hm3.1 hm3.2.1 hm3.2.2.1 hm3.2.2.2.1 hm3.2.2.2.2 rfl
  have hC : MC l g MI V s1 n T Q := ⟨hSb.2.1, by rw [hb1.2.2.2.2.2.1]; exact hLM, hM1, hSb.2.2.2.1⟩
  have hrw : rwb (s1 52) T Q := hHb.2.2.1.2.1.1
  have hrI : rI (s1 52) T Q := ⟨hrw, min 60 (tt a), by omega, hHb.2.2.1.2.2.1.2.2⟩
  refine ⟨rfl, s1, n, rfl, aw_Mm (c_m_known hSb.2.1) ?_⟩
  rintro _ _ ⟨rfl, rfl⟩
  refine ⟨congrArg (fun x => some (Value.int x)) (tq_known hSa hHa).symm, up s1 39 0 0, n, rfl, ?_⟩
  have hm4 := m3_t hm3 m3_0
  exact q_post hRS ⟨q, a, tt, hHR⟩ hB (a1_t hA1 a1_0) (a2_t hA2 a2_0) (b1_t hb1 b1_0) (b2_t hb2 b2_0) rfl rfl (hLM.2.2.1 s _ n n hMI hm4.1 hm4.2.1 hm4.2.2.1 hm4.2.2.2.1 hm4.2.2.2.2 rfl)
theorem BO_spare {l : Launch} {g : ag_G} (hx : aw_hx g) {t : Int32} : BO l g mi_X11_spare 5 0 0 mi_X12_spare 104 [.int t] := by
  rintro s n ⟨T, Q, hRS, ⟨q, a, tt, hHR⟩, hWR⟩
  obtain ⟨V, MI, hV, hLM, hMI, hB⟩ := WR_use (l := l) hx hWR
  obtain ⟨hS, ⟨N, hN⟩, hI, hkn, ⟨P, pL, pF, hR⟩, E, tx, hT⟩ := id hRS
  have hV0 := hV n rfl rfl
  have htm : s 16 4 = nI (tt a) := hHR.2.2.1.1.1.2.2.2.2.trans hHR.2.2.1.2.2.1.1
  have ht9 : tt a ≤ 9999 := hHR.2.2.1.2.2.1.2.1
  refine ⟨q_spare V s t, aw_Mm (c_X11_spare hS.1 hV0) ?_⟩
  rintro _ _ ⟨s1, rfl, rfl, e⟩
  have hA1 := a1_skF e
  have hA2 := a2_skF e
  have hb1 := b1_skF e
  have hb2 := b2_skF e
  have hm3 := m3_skF e
  have hSa := SR_mv2 hS a1_r (b1_t hb1 b1_0)
  have hSb := SR_mv2 hS a1_r hb1
  have hNa := NR_mv hN a1_r (b1_t hb1 b1_0)
  have hNb := NR_mv hN a1_r hb1
  have hRa := RR_mv hR a1_r (b1_t hb1 b1_0) rfl rfl
  have hRb := RR_mv hR a1_r hb1 rfl rfl
  have hTa := TR_mv hT a1_r (b1_t hb1 b1_0)
  have hHa := HR_b hRS hHR (b2_t hb2 b2_0)
  have hHb := HR_b hRS hHR hb2
  have hM1 : MI s1 n := hLM.2.2.1 s s1 n n hMI hm3.1 hm3.2.1 hm3.2.2.1 hm3.2.2.2.1 hm3.2.2.2.2 rfl
  have hC : MC l g MI V s1 n T Q := ⟨hSb.2.1, by rw [hb1.2.2.2.2.2.1]; exact hLM, hM1, hSb.2.2.2.1⟩
  have hrw : rwb (s1 52) T Q := hHb.2.2.1.2.1.1
  have hrI : rI (s1 52) T Q := ⟨hrw, min 60 (tt a), by omega, hHb.2.2.1.2.2.1.2.2⟩
  refine ⟨rfl, s1, n, rfl, aw_Mm (c_m_spare hC hrw) ?_⟩
  rintro _ _ ⟨s2, n2, rfl, rfl, e2, en2, hM2⟩
  refine ⟨congrArg (fun x => some (Value.int x)) (t_spare hSa hHa).symm, s2, n2, rfl, ?_⟩
  exact q_post hRS ⟨q, a, tt, hHR⟩ hB (a1_t (a1_t hA1 a1_0) (a1_skM e2)) (a2_t (a2_t hA2 a2_0) (a2_skM e2)) (b1_t (b1_t hb1 b1_0) (b1_skM e2)) (b2_t (b2_t hb2 b2_0) (b2_skM e2)) en2.2.1 en2.2.2 hM2
theorem BO_openers {l : Launch} {g : ag_G} (hx : aw_hx g) {t : Int32} : BO l g mi_X11_openers 3 0 0 mi_X12_openers 3 [.int t] := by
  rintro s n ⟨T, Q, hRS, ⟨q, a, tt, hHR⟩, hWR⟩
  obtain ⟨V, MI, hV, hLM, hMI, hB⟩ := WR_use (l := l) hx hWR
  obtain ⟨hS, ⟨N, hN⟩, hI, hkn, ⟨P, pL, pF, hR⟩, E, tx, hT⟩ := id hRS
  have hV0 := hV n rfl rfl
  have htm : s 16 4 = nI (tt a) := hHR.2.2.1.1.1.2.2.2.2.trans hHR.2.2.1.2.2.1.1
  have ht9 : tt a ≤ 9999 := hHR.2.2.1.2.2.1.2.1
  refine ⟨q_openers s Q t, aw_Mm (c_X11_openers hS.1) ?_⟩
  rintro _ _ ⟨s1, rfl, rfl, e⟩
  have hA1 := a1_skF e
  have hA2 := a2_skF e
  have hb1 := b1_skF e
  have hb2 := b2_skF e
  have hm3 := m3_skF e
  have hSa := SR_mv2 hS a1_r (b1_t hb1 b1_0)
  have hSb := SR_mv2 hS a1_r hb1
  have hNa := NR_mv hN a1_r (b1_t hb1 b1_0)
  have hNb := NR_mv hN a1_r hb1
  have hRa := RR_mv hR a1_r (b1_t hb1 b1_0) rfl rfl
  have hRb := RR_mv hR a1_r hb1 rfl rfl
  have hTa := TR_mv hT a1_r (b1_t hb1 b1_0)
  have hHa := HR_b hRS hHR (b2_t hb2 b2_0)
  have hHb := HR_b hRS hHR hb2
  have hM1 : MI s1 n := hLM.2.2.1 s s1 n n hMI hm3.1 hm3.2.1 hm3.2.2.1 hm3.2.2.2.1 hm3.2.2.2.2 rfl
  have hC : MC l g MI V s1 n T Q := ⟨hSb.2.1, by rw [hb1.2.2.2.2.2.1]; exact hLM, hM1, hSb.2.2.2.1⟩
  have hrw : rwb (s1 52) T Q := hHb.2.2.1.2.1.1
  have hrI : rI (s1 52) T Q := ⟨hrw, min 60 (tt a), by omega, hHb.2.2.1.2.2.1.2.2⟩
  refine ⟨rfl, s1, n, rfl, aw_Mm (c_m_openers hSb.2.1) ?_⟩
  rintro _ _ ⟨rfl, rfl⟩
  refine ⟨congrArg (fun x => some (Value.int x)) (t_openers hSa hHa).symm, up s1 39 0 0, n, rfl, ?_⟩
  have hm4 := m3_t hm3 m3_0
  exact q_post hRS ⟨q, a, tt, hHR⟩ hB (a1_t hA1 a1_0) (a2_t hA2 a2_0) (b1_t hb1 b1_0) (b2_t hb2 b2_0) rfl rfl (hLM.2.2.1 s _ n n hMI hm4.1 hm4.2.1 hm4.2.2.1 hm4.2.2.2.1 hm4.2.2.2.2 rfl)
theorem BO_tells {l : Launch} {g : ag_G} (hx : aw_hx g) {r : Int32} : BO l g mi_X11_tells 3 0 0 mi_X12_tells 1 [.int r] := by
  rintro s n ⟨T, Q, hRS, ⟨q, a, tt, hHR⟩, hWR⟩
  obtain ⟨V, MI, hV, hLM, hMI, hB⟩ := WR_use (l := l) hx hWR
  obtain ⟨hS, ⟨N, hN⟩, hI, hkn, ⟨P, pL, pF, hR⟩, E, tx, hT⟩ := id hRS
  have hV0 := hV n rfl rfl
  have htm : s 16 4 = nI (tt a) := hHR.2.2.1.1.1.2.2.2.2.trans hHR.2.2.1.2.2.1.1
  have ht9 : tt a ≤ 9999 := hHR.2.2.1.2.2.1.2.1
  refine ⟨q_tells s T r, aw_Mm (c_X11_tells hS.1) ?_⟩
  rintro _ _ ⟨s1, rfl, rfl, e⟩
  have hA1 := a1_skF e
  have hA2 := a2_skF e
  have hb1 := b1_skF e
  have hb2 := b2_skF e
  have hm3 := m3_skF e
  have hSa := SR_mv2 hS a1_r (b1_t hb1 b1_0)
  have hSb := SR_mv2 hS a1_r hb1
  have hNa := NR_mv hN a1_r (b1_t hb1 b1_0)
  have hNb := NR_mv hN a1_r hb1
  have hRa := RR_mv hR a1_r (b1_t hb1 b1_0) rfl rfl
  have hRb := RR_mv hR a1_r hb1 rfl rfl
  have hTa := TR_mv hT a1_r (b1_t hb1 b1_0)
  have hHa := HR_b hRS hHR (b2_t hb2 b2_0)
  have hHb := HR_b hRS hHR hb2
  have hM1 : MI s1 n := hLM.2.2.1 s s1 n n hMI hm3.1 hm3.2.1 hm3.2.2.1 hm3.2.2.2.1 hm3.2.2.2.2 rfl
  have hC : MC l g MI V s1 n T Q := ⟨hSb.2.1, by rw [hb1.2.2.2.2.2.1]; exact hLM, hM1, hSb.2.2.2.1⟩
  have hrw : rwb (s1 52) T Q := hHb.2.2.1.2.1.1
  have hrI : rI (s1 52) T Q := ⟨hrw, min 60 (tt a), by omega, hHb.2.2.1.2.2.1.2.2⟩
  refine ⟨rfl, s1, n, rfl, aw_Mm (c_m_tells hSb.2.1) ?_⟩
  rintro _ _ ⟨rfl, rfl⟩
  refine ⟨congrArg (fun x => some (Value.int x)) (t_tells hSa hHa).symm, up s1 39 0 0, n, rfl, ?_⟩
  have hm4 := m3_t hm3 m3_0
  exact q_post hRS ⟨q, a, tt, hHR⟩ hB (a1_t hA1 a1_0) (a2_t hA2 a2_0) (b1_t hb1 b1_0) (b2_t hb2 b2_0) rfl rfl (hLM.2.2.1 s _ n n hMI hm4.1 hm4.2.1 hm4.2.2.1 hm4.2.2.2.1 hm4.2.2.2.2 rfl)
theorem BO_harden {l : Launch} {g : ag_G} (hx : aw_hx g) {t k : Int32} : BO l g mi_X11_harden 7 0 0 mi_X12_harden 104 [.int t, .int k] := by
  rintro s n ⟨T, Q, hRS, ⟨q, a, tt, hHR⟩, hWR⟩
  obtain ⟨V, MI, hV, hLM, hMI, hB⟩ := WR_use (l := l) hx hWR
  obtain ⟨hS, ⟨N, hN⟩, hI, hkn, ⟨P, pL, pF, hR⟩, E, tx, hT⟩ := id hRS
  have hV0 := hV n rfl rfl
  have htm : s 16 4 = nI (tt a) := hHR.2.2.1.1.1.2.2.2.2.trans hHR.2.2.1.2.2.1.1
  have ht9 : tt a ≤ 9999 := hHR.2.2.1.2.2.1.2.1
  refine ⟨q_harden V s t k, aw_Mm (c_X11_harden hS.1 hV0) ?_⟩
  rintro _ _ ⟨s1, rfl, rfl, e⟩
  have hA1 := a1_skF e
  have hA2 := a2_skF e
  have hb1 := b1_skF e
  have hb2 := b2_skF e
  have hm3 := m3_skF e
  have hSa := SR_mv2 hS a1_r (b1_t hb1 b1_0)
  have hSb := SR_mv2 hS a1_r hb1
  have hNa := NR_mv hN a1_r (b1_t hb1 b1_0)
  have hNb := NR_mv hN a1_r hb1
  have hRa := RR_mv hR a1_r (b1_t hb1 b1_0) rfl rfl
  have hRb := RR_mv hR a1_r hb1 rfl rfl
  have hTa := TR_mv hT a1_r (b1_t hb1 b1_0)
  have hHa := HR_b hRS hHR (b2_t hb2 b2_0)
  have hHb := HR_b hRS hHR hb2
  have hM1 : MI s1 n := hLM.2.2.1 s s1 n n hMI hm3.1 hm3.2.1 hm3.2.2.1 hm3.2.2.2.1 hm3.2.2.2.2 rfl
  have hC : MC l g MI V s1 n T Q := ⟨hSb.2.1, by rw [hb1.2.2.2.2.2.1]; exact hLM, hM1, hSb.2.2.2.1⟩
  have hrw : rwb (s1 52) T Q := hHb.2.2.1.2.1.1
  have hrI : rI (s1 52) T Q := ⟨hrw, min 60 (tt a), by omega, hHb.2.2.1.2.2.1.2.2⟩
  refine ⟨rfl, s1, n, rfl, aw_Mm (c_m_harden hC hrw) ?_⟩
  rintro _ _ ⟨s2, n2, rfl, rfl, e2, en2, hM2⟩
  refine ⟨congrArg (fun x => some (Value.int x)) (t_harden hSa hHa).symm, s2, n2, rfl, ?_⟩
  exact q_post hRS ⟨q, a, tt, hHR⟩ hB (a1_t (a1_t hA1 a1_0) (a1_skM e2)) (a2_t (a2_t hA2 a2_0) (a2_skM e2)) (b1_t (b1_t hb1 b1_0) (b1_skM e2)) (b2_t (b2_t hb2 b2_0) (b2_skM e2)) en2.2.1 en2.2.2 hM2
theorem BO_log {l : Launch} {g : ag_G} (hx : aw_hx g) {i x : Int32} : BO l g mi_X11_log 2 0 0 mi_X12_log 1 [.int i, .int x] := by
  rintro s n ⟨T, Q, hRS, ⟨q, a, tt, hHR⟩, hWR⟩
  obtain ⟨V, MI, hV, hLM, hMI, hB⟩ := WR_use (l := l) hx hWR
  obtain ⟨hS, ⟨N, hN⟩, hI, hkn, ⟨P, pL, pF, hR⟩, E, tx, hT⟩ := id hRS
  have hV0 := hV n rfl rfl
  have htm : s 16 4 = nI (tt a) := hHR.2.2.1.1.1.2.2.2.2.trans hHR.2.2.1.2.2.1.1
  have ht9 : tt a ≤ 9999 := hHR.2.2.1.2.2.1.2.1
  refine ⟨q_log s (tt a) i x, aw_Mm (c_X11_log htm (by omega)) ?_⟩
  rintro _ _ ⟨rfl, rfl⟩
  obtain ⟨s1, hs1⟩ : ∃ s1, s1 = s := ⟨s, rfl⟩
  have hA1 : a1 s s1 := by rw [hs1]; exact a1_r
  have hA2 : a2 s s1 := by rw [hs1]; exact a2_r
  have hb1 : b1 s s1 := by rw [hs1]; exact b1_r
  have hb2 : b2 s s1 := by rw [hs1]; exact b2_r
  have hm3 : m3 s s1 := by rw [hs1]; exact m3_r
  have hSa := SR_mv2 hS a1_r (b1_t hb1 b1_0)
  have hSb := SR_mv2 hS a1_r hb1
  have hNa := NR_mv hN a1_r (b1_t hb1 b1_0)
  have hNb := NR_mv hN a1_r hb1
  have hRa := RR_mv hR a1_r (b1_t hb1 b1_0) rfl rfl
  have hRb := RR_mv hR a1_r hb1 rfl rfl
  have hTa := TR_mv hT a1_r (b1_t hb1 b1_0)
  have hHa := HR_b hRS hHR (b2_t hb2 b2_0)
  have hHb := HR_b hRS hHR hb2
  have hM1 : MI s1 n := hLM.2.2.1 s s1 n n hMI hm3.1 hm3.2.1 hm3.2.2.1 hm3.2.2.2.1 hm3.2.2.2.2 rfl
  have hC : MC l g MI V s1 n T Q := ⟨hSb.2.1, by rw [hb1.2.2.2.2.2.1]; exact hLM, hM1, hSb.2.2.2.1⟩
  have hrw : rwb (s1 52) T Q := hHb.2.2.1.2.1.1
  have hrI : rI (s1 52) T Q := ⟨hrw, min 60 (tt a), by omega, hHb.2.2.1.2.2.1.2.2⟩
  refine ⟨rfl, s1, n, by rw [hs1], aw_Mm (c_m_log (G := min 60 (tt a)) hHb.2.2.1.2.2.1.2.2 (by omega)) ?_⟩
  rintro _ _ ⟨rfl, rfl⟩
  refine ⟨congrArg (fun x => some (Value.int x)) (t_log hHa).symm, up s1 39 0 0, n, rfl, ?_⟩
  have hm4 := m3_t hm3 m3_0
  exact q_post hRS ⟨q, a, tt, hHR⟩ hB (a1_t hA1 a1_0) (a2_t hA2 a2_0) (b1_t hb1 b1_0) (b2_t hb2 b2_0) rfl rfl (hLM.2.2.1 s _ n n hMI hm4.1 hm4.2.1 hm4.2.2.1 hm4.2.2.2.1 hm4.2.2.2.2 rfl)
theorem BO_step {l : Launch} {g : ag_G} (hx : aw_hx g) {k i x : Int32} : BO l g mi_X11_step 1 0 0 mi_X12_step 1 [.int k, .int i, .int x] := by
  rintro s n ⟨T, Q, hRS, ⟨q, a, tt, hHR⟩, hWR⟩
  obtain ⟨V, MI, hV, hLM, hMI, hB⟩ := WR_use (l := l) hx hWR
  obtain ⟨hS, ⟨N, hN⟩, hI, hkn, ⟨P, pL, pF, hR⟩, E, tx, hT⟩ := id hRS
  have hV0 := hV n rfl rfl
  have htm : s 16 4 = nI (tt a) := hHR.2.2.1.1.1.2.2.2.2.trans hHR.2.2.1.2.2.1.1
  have ht9 : tt a ≤ 9999 := hHR.2.2.1.2.2.1.2.1
  refine ⟨q_step s pL pF k i x, aw_Mm (c_X11_step hR.1) ?_⟩
  rintro _ _ ⟨rfl, rfl⟩
  obtain ⟨s1, hs1⟩ : ∃ s1, s1 = s := ⟨s, rfl⟩
  have hA1 : a1 s s1 := by rw [hs1]; exact a1_r
  have hA2 : a2 s s1 := by rw [hs1]; exact a2_r
  have hb1 : b1 s s1 := by rw [hs1]; exact b1_r
  have hb2 : b2 s s1 := by rw [hs1]; exact b2_r
  have hm3 : m3 s s1 := by rw [hs1]; exact m3_r
  have hSa := SR_mv2 hS a1_r (b1_t hb1 b1_0)
  have hSb := SR_mv2 hS a1_r hb1
  have hNa := NR_mv hN a1_r (b1_t hb1 b1_0)
  have hNb := NR_mv hN a1_r hb1
  have hRa := RR_mv hR a1_r (b1_t hb1 b1_0) rfl rfl
  have hRb := RR_mv hR a1_r hb1 rfl rfl
  have hTa := TR_mv hT a1_r (b1_t hb1 b1_0)
  have hHa := HR_b hRS hHR (b2_t hb2 b2_0)
  have hHb := HR_b hRS hHR hb2
  have hM1 : MI s1 n := hLM.2.2.1 s s1 n n hMI hm3.1 hm3.2.1 hm3.2.2.1 hm3.2.2.2.1 hm3.2.2.2.2 rfl
  have hC : MC l g MI V s1 n T Q := ⟨hSb.2.1, by rw [hb1.2.2.2.2.2.1]; exact hLM, hM1, hSb.2.2.2.1⟩
  have hrw : rwb (s1 52) T Q := hHb.2.2.1.2.1.1
  have hrI : rI (s1 52) T Q := ⟨hrw, min 60 (tt a), by omega, hHb.2.2.1.2.2.1.2.2⟩
  refine ⟨rfl, s1, n, by rw [hs1], aw_Mm (c_m_step hRb.2.1 hRb.1.2.1 (RR_l hRb)) ?_⟩
  rintro _ _ ⟨rfl, rfl⟩
  refine ⟨congrArg (fun x => some (Value.int x)) (t_step hRa.1.1 hRa.2.1 hRa.1.2.1 (RR_h hRa)).symm, up s1 39 0 0, n, rfl, ?_⟩
  have hm4 := m3_t hm3 m3_0
  exact q_post hRS ⟨q, a, tt, hHR⟩ hB (a1_t hA1 a1_0) (a2_t hA2 a2_0) (b1_t hb1 b1_0) (b2_t hb2 b2_0) rfl rfl (hLM.2.2.1 s _ n n hMI hm4.1 hm4.2.1 hm4.2.2.1 hm4.2.2.2.1 hm4.2.2.2.2 rfl)
theorem BO_run {l : Launch} {g : ag_G} (hx : aw_hx g) {k x : Int32} : BO l g mi_X11_run 7 0 0 mi_X12_run 104 [.int k, .int x] := by
  rintro s n ⟨T, Q, hRS, ⟨q, a, tt, hHR⟩, hWR⟩
  obtain ⟨V, MI, hV, hLM, hMI, hB⟩ := WR_use (l := l) hx hWR
  obtain ⟨hS, ⟨N, hN⟩, hI, hkn, ⟨P, pL, pF, hR⟩, E, tx, hT⟩ := id hRS
  have hV0 := hV n rfl rfl
  have htm : s 16 4 = nI (tt a) := hHR.2.2.1.1.1.2.2.2.2.trans hHR.2.2.1.2.2.1.1
  have ht9 : tt a ≤ 9999 := hHR.2.2.1.2.2.1.2.1
  refine ⟨q_run V s T pL pF k x, aw_Mm (c_X11_run hR.1 hS.1 hV0) ?_⟩
  rintro _ _ ⟨s1, rfl, rfl, e⟩
  have hA1 := a1_skH e
  have hA2 := a2_skH e
  have hb1 := b1_skH e
  have hb2 := b2_skH e
  have hm3 := m3_skH e
  have hSa := SR_mv2 hS a1_r (b1_t hb1 b1_0)
  have hSb := SR_mv2 hS a1_r hb1
  have hNa := NR_mv hN a1_r (b1_t hb1 b1_0)
  have hNb := NR_mv hN a1_r hb1
  have hRa := RR_mv hR a1_r (b1_t hb1 b1_0) rfl rfl
  have hRb := RR_mv hR a1_r hb1 rfl rfl
  have hTa := TR_mv hT a1_r (b1_t hb1 b1_0)
  have hHa := HR_b hRS hHR (b2_t hb2 b2_0)
  have hHb := HR_b hRS hHR hb2
  have hM1 : MI s1 n := hLM.2.2.1 s s1 n n hMI hm3.1 hm3.2.1 hm3.2.2.1 hm3.2.2.2.1 hm3.2.2.2.2 rfl
  have hC : MC l g MI V s1 n T Q := ⟨hSb.2.1, by rw [hb1.2.2.2.2.2.1]; exact hLM, hM1, hSb.2.2.2.1⟩
  have hrw : rwb (s1 52) T Q := hHb.2.2.1.2.1.1
  have hrI : rI (s1 52) T Q := ⟨hrw, min 60 (tt a), by omega, hHb.2.2.1.2.2.1.2.2⟩
  refine ⟨rfl, s1, n, rfl, aw_Mm (c_m_run hC hrI hRb.2.1 hRb.1.2.1 (RR_l hRb)) ?_⟩
  rintro _ _ ⟨s2, n2, rfl, rfl, e2, en2, hM2⟩
  refine ⟨congrArg (fun x => some (Value.int x)) (t_run hSa hHa hRa.1.1 hRa.2.1 hRa.1.2.1 (RR_h hRa)).symm, s2, n2, rfl, ?_⟩
  exact q_post hRS ⟨q, a, tt, hHR⟩ hB (a1_t (a1_t hA1 a1_0) (a1_skN e2)) (a2_t (a2_t hA2 a2_0) (a2_skN e2)) (b1_t (b1_t hb1 b1_0) (b1_skN e2)) (b2_t (b2_t hb2 b2_0) (b2_skN e2)) en2.2.1 en2.2.2 hM2
theorem BO_count {l : Launch} {g : ag_G} (hx : aw_hx g) {x : Int32} : BO l g mi_X11_count 2 0 0 mi_X12_count 0 [.int x] := by
  rintro s n ⟨T, Q, hRS, ⟨q, a, tt, hHR⟩, hWR⟩
  obtain ⟨V, MI, hV, hLM, hMI, hB⟩ := WR_use (l := l) hx hWR
  obtain ⟨hS, ⟨N, hN⟩, hI, hkn, ⟨P, pL, pF, hR⟩, E, tx, hT⟩ := id hRS
  have hV0 := hV n rfl rfl
  have htm : s 16 4 = nI (tt a) := hHR.2.2.1.1.1.2.2.2.2.trans hHR.2.2.1.2.2.1.1
  have ht9 : tt a ≤ 9999 := hHR.2.2.1.2.2.1.2.1
  refine ⟨q_count s x, aw_Mm (c_X11_count) ?_⟩
  rintro _ _ ⟨rfl, rfl⟩
  obtain ⟨s1, hs1⟩ : ∃ s1, s1 = s := ⟨s, rfl⟩
  have hA1 : a1 s s1 := by rw [hs1]; exact a1_r
  have hA2 : a2 s s1 := by rw [hs1]; exact a2_r
  have hb1 : b1 s s1 := by rw [hs1]; exact b1_r
  have hb2 : b2 s s1 := by rw [hs1]; exact b2_r
  have hm3 : m3 s s1 := by rw [hs1]; exact m3_r
  have hSa := SR_mv2 hS a1_r (b1_t hb1 b1_0)
  have hSb := SR_mv2 hS a1_r hb1
  have hNa := NR_mv hN a1_r (b1_t hb1 b1_0)
  have hNb := NR_mv hN a1_r hb1
  have hRa := RR_mv hR a1_r (b1_t hb1 b1_0) rfl rfl
  have hRb := RR_mv hR a1_r hb1 rfl rfl
  have hTa := TR_mv hT a1_r (b1_t hb1 b1_0)
  have hHa := HR_b hRS hHR (b2_t hb2 b2_0)
  have hHb := HR_b hRS hHR hb2
  have hM1 : MI s1 n := hLM.2.2.1 s s1 n n hMI hm3.1 hm3.2.1 hm3.2.2.1 hm3.2.2.2.1 hm3.2.2.2.2 rfl
  have hC : MC l g MI V s1 n T Q := ⟨hSb.2.1, by rw [hb1.2.2.2.2.2.1]; exact hLM, hM1, hSb.2.2.2.1⟩
  have hrw : rwb (s1 52) T Q := hHb.2.2.1.2.1.1
  have hrI : rI (s1 52) T Q := ⟨hrw, min 60 (tt a), by omega, hHb.2.2.1.2.2.1.2.2⟩
  obtain ⟨h73, h34⟩ := h73_of hWR
  have h73 : s 10 3 = up s1 39 0 0 39 7 := h73.trans (b1_t hb1 b1_0).2.1.symm
  have h34a : up s1 39 0 0 39 34 = s 10 4 := (b1_t hb1 b1_0).2.2.2.2.2.1.trans h34
  have hkn : s 0 7 = up s1 39 0 0 39 35 := hkn.trans (b1_t hb1 b1_0).2.2.2.2.2.2.1.symm
  refine ⟨rfl, s1, n, by rw [hs1], aw_Mm (c_m_count) ?_⟩
  rintro _ _ ⟨rfl, rfl⟩
  refine ⟨congrArg (fun x => some (Value.int x)) (t_count hSa hHa hNa hkn hRa hTa h73 h34a).symm, up s1 39 0 0, n, rfl, ?_⟩
  have hm4 := m3_t hm3 m3_0
  exact q_post hRS ⟨q, a, tt, hHR⟩ hB (a1_t hA1 a1_0) (a2_t hA2 a2_0) (b1_t hb1 b1_0) (b2_t hb2 b2_0) rfl rfl (hLM.2.2.1 s _ n n hMI hm4.1 hm4.2.1 hm4.2.2.1 hm4.2.2.2.1 hm4.2.2.2.2 rfl)
