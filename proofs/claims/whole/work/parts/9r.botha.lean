/-! a call on both sides: acts -/
theorem eE_keep {s s1 : am_S} {q a : Nat} (h : eo skE s s1) : eo skE s (keep s1 q a) := eo_upI rfl (eo_upI rfl (eo_upRK (fun _ => rfl) h))
theorem eE_wr {s s1 : am_S} {m : Nat} {a b : Int32} (h : eo skE s s1) : eo skE s (wr s1 m a b) := eo_upI rfl (eo_upI rfl (eo_upI rfl h))
theorem eE_16 {s : am_S} {f : Nat → Int32} : eo skE s (upR (cp s 16 23 0 0 36) 16 f) := eo_upRK (fun _ => rfl) (eo_upRK (fun _ => rfl) eo_rf)
theorem eE_dDo {V : (Nat → Int32) → Int32} {s : am_S} {T tm q a : Nat} {act f h : Int32} : eo skE s (dDo V s T tm q a act f h).2 := by
  rw [dDo_r]
  unfold kDo
  by_cases h1 : (kAct V s T (s 16) act f h).1 = -1
  · rw [if_pos h1]; exact eE_16
  · rw [if_neg h1]
    refine eE_keep ?_
    by_cases h0 : act = 0
    · rw [if_pos h0]; exact eE_wr eE_16
    · rw [if_neg h0]; exact eE_16
theorem eE_pcL {V : (Nat → Int32) → Int32} {T : Nat} {F : Nat → Int32} : ∀ (d i : Nat) (s : am_S), eo skE s (pcL V T F d i s).2
  | 0, _, _ => eo_rf
  | d + 1, i, s => by
    simp only [pcL]
    by_cases h : (dAt V s T (F (3 * i)) (F (3 * i + 1)) (F (3 * i + 2))).1 = -1
    · rw [if_pos h]; exact eE_dDo
    · rw [if_neg h]; exact eo_tr eE_dDo (eE_pcL d (i + 1) _)
theorem eE_perf {V : (Nat → Int32) → Int32} {s : am_S} {T : Nat} {pL : Nat → Nat} {pF : Nat → Nat → Int32} {k : Int32} : eo skE s (q_perf V s T pL pF k).2 := by
  unfold q_perf
  (repeat' split) <;> first | exact eE_pcL _ _ _ | exact eo_rf
theorem eE_ycG {V : (Nat → Int32) → Int32} {s : am_S} {T tm : Nat} {f : Nat → Int32} : eo skE s (ycG V s T tm f) := by
  unfold ycG
  split
  · exact eE_16
  · exact eE_wr eE_16
theorem eE_ycL {DX : Int64 → Int64} {DV : Int64 → Int32 → Int32} {V : (Nat → Int32) → Int32} {T : Nat} : ∀ (d : Nat) (s : am_S) (x : Int64), eo skE s (ycL DX DV V T d s x)
  | 0, _, _ => eo_rf
  | d + 1, s, x => by
    simp only [ycL]
    exact eo_tr (eE_keep eE_ycG) (eE_ycL d _ _)
theorem eE_years {DX : Int64 → Int64} {DV : Int64 → Int32 → Int32} {V : (Nat → Int32) → Int32} {s : am_S} {T : Nat} {m : Int32} {x : Int64} : eo skE s (q_years DX DV V s T m x).2 := by
  unfold q_years
  (repeat' split) <;> first | exact eE_ycL _ _ _ | exact eo_rf
theorem eE_undo {s : am_S} {q a : Nat} : eo skE s (aUndo s q a).2 := by
  unfold aUndo
  split
  · exact eo_rf
  · exact eo_upRK (fun _ => rfl) (eo_upI rfl (eo_upI rfl eo_rf))
theorem eV_of {S M : am_S} (h : ∀ j, j ≠ 56 → j ≠ 52 → ∀ x, (j ≠ 39 ∨ x ≠ 39) → M j x = S j x) : eo skV S M := by
  intro k j e
  refine h k (fun z => ?_) (fun z => ?_) j ?_
  · subst z; exact absurd (show true = false from e) (by decide)
  · subst z; exact absurd (show true = false from e) (by decide)
  · by_cases h1 : k = 39
    · refine Or.inr (fun z => ?_)
      subst h1 z
      exact absurd (show true = false from e) (by decide)
    · exact Or.inl h1
theorem eV_rem {S : am_S} {a : Nat} {f : Nat → Int32} : eo skV S (upR (mRem S a) 52 f) := eV_of (fun _ h1 h2 _ h3 => mRem_n h1 h2 h3)
theorem eV_seal {S : am_S} {a : Nat} {t v : Int32} : eo skV S (m_seal S a t v).2 := by
  unfold m_seal
  (repeat' split) <;> first | exact eV_rem | exact eo_rf
theorem eV_open {S : am_S} {a : Nat} {t : Int32} : eo skV S (m_open S a t).2 := by
  unfold m_open
  (repeat' split) <;> first | exact eV_rem | exact eo_rf
theorem eV_pry {S : am_S} {a : Nat} {t r : Int32} : eo skV S (m_pry S a t r).2 := by
  unfold m_pry
  (repeat' split) <;> first | exact eV_rem | exact eo_rf
theorem eV_carry {S : am_S} {a : Nat} {t v : Int32} : eo skV S (m_carry S a t v).2 := by
  unfold m_carry
  (repeat' split) <;> first | exact eV_rem | exact eo_rf
theorem eV_heat {S : am_S} {a : Nat} {v : Int32} : eo skV S (m_heat S a v).2 := by
  unfold m_heat
  (repeat' split) <;> first | exact eV_rem | exact eo_rf
theorem eV_month {V : (Nat → Int32) → Int32} {S : am_S} {T Q G a : Nat} : eo skV S (m_month V S T Q G a).2 := by
  unfold m_month
  (repeat' split) <;> first | exact eV_rem | exact eo_rf
theorem eV_undo {S : am_S} {a : Nat} : eo skV (up S 39 0 0) (m_undo S a).2 := by
  unfold m_undo
  split
  · exact eo_rf
  · exact eo_upRK (fun _ => rfl) (eo_upI rfl eo_rf)
theorem t_undo {sc S : am_S} {T Q q a : Nat} {tt : Nat → Nat} (hS : SR sc S T Q) (hH : HR sc S T Q q a tt) : (aUndo sc q a).1 = (m_undo S a).1 ∧ HE (aUndo sc q a).2 (m_undo S a).2 T Q := by
  have hT := hS.1.2.1
  have hQ := hS.1.2.2.2.1
  unfold aUndo m_undo
  by_cases h0 : a = 0
  · rw [if_pos h0, if_pos h0]
    exact ⟨rfl, q, a, tt, HR_mv hT hQ hH (fun _ _ => rfl) rfl rfl rfl rfl rfl rfl rfl⟩
  · rw [if_neg h0, if_neg h0]
    obtain ⟨b, rfl⟩ : ∃ b, a = b + 1 := ⟨a - 1, by omega⟩
    refine ⟨rfl, (q + 39) % 40, b, tt, HR_undo hT hQ hH (fun j hj => ?_) rfl rfl rfl rfl (fun j hj => ?_) rfl rfl⟩
    · show va_cpy (sc 24) (sc 16) ((q + 39) % 40 * 36) 0 36 j = _
      rw [pk_cpy_in (by omega) (by omega)]
      exact congrArg (sc 24) (by omega)
    · show va_cpy (S 56) (S 52) (217 * (b + 1 - 1)) 0 217 j = _
      rw [pk_cpy_in (by omega) (by omega)]
      exact congrArg (S 56) (by omega)
/-- the relation behind an act -/
theorem r_post {g : ag_G} {s D M2 s2 : am_S} {n n' : am_N} {T Q : Nat} {MI : am_S → am_N → Prop} (hRS : RS g s s n T Q) (hHE : HE D M2 T Q) (hB : ∀ (sc' sm' : am_S) (n' : am_N), sc' 10 3 = s 10 3 → sc' 10 4 = s 10 4 → n'.2.1 = n.2.1 → n'.2.2.2 = n.2.2.2 → sm' 39 7 = s 39 7 → sm' 39 34 = s 39 34 → MI sm' n' → WR g sc' sm' n') (h1 : a1 s s2) (h2 : a2 D s2) (h3 : b1 s s2) (h4 : b2 M2 s2) (n1 : n'.2.1 = n.2.1) (n2 : n'.2.2.2 = n.2.2.2) (hM : MI s2 n') : REL g s2 s2 n' :=
  ⟨T, Q, RS_mv hRS h1 h3 n1 n2, HE_mv hRS.1.1.2.1 hRS.1.1.2.2.2.1 hHE h2 h4, hB s2 s2 n' h1.2.2.2.2.1 h1.2.2.2.2.2.1 n1 n2 h3.2.1 h3.2.2.2.2.2.1 hM⟩

theorem BO_seal {l : Launch} {g : ag_G} (hx : aw_hx g) {t v : Int32} : BO l g mi_X11_seal 8 0 0 mi_X12_seal 2 [.int t, .int v] := by
  rintro s n ⟨T, Q, hRS, ⟨q, a, tt, hHR⟩, hWR⟩
  obtain ⟨V, MI, hV, hLM, hMI, hB⟩ := WR_use (l := l) hx hWR
  obtain ⟨hS, ⟨N, hN⟩, hI, hkn, ⟨P, pL, pF, hR⟩, E, tx, hT⟩ := id hRS
  have hV0 := hV n rfl rfl
  have htm : s 16 4 = nI (tt a) := hHR.2.2.1.1.1.2.2.2.2.trans hHR.2.2.1.2.2.1.1
  have ht9 : tt a ≤ 9999 := hHR.2.2.1.2.2.1.2.1
  have hI9 : PJ s T Q := ⟨hS.1, ⟨q, a, hHR.1⟩, tt a, htm, ht9⟩
  have eD : eo skE s (dDo V s T (tt a) q a 1 t v).2 := eE_dDo
  refine ⟨(dDo V s T (tt a) q a 1 t v).1, aw_Mm (c_X11_seal hS.1 htm (by omega) hHR.1 hV0) ?_⟩
  rintro _ _ ⟨s1, rfl, rfl, e⟩
  have hD1 := a1_skC e
  have hD2 := a2_skC e
  have hD3 := b1_skC e
  have hD4 := b2_skC e
  have hD5 := m3_skC e
  obtain ⟨n1, hn1⟩ : ∃ n1, n1 = n := ⟨n, rfl⟩
  have hN1 : n1.2.1 = n.2.1 ∧ n1.2.2.2 = n.2.2.2 ∧ n1.1 54 = n.1 54 := by rw [hn1]; exact ⟨rfl, rfl, rfl⟩
  have hA1 := a1_t (a1_skE eD) hD1
  have hb1 := b1_t (b1_skE eD) hD3
  have hb2 := b2_t (b2_skE eD) hD4
  have hm3 := m3_t (m3_skE eD) hD5
  have hSa := SR_mv2 hS a1_r (b1_t hb1 b1_0)
  have hSb := SR_mv2 hS a1_r hb1
  have hRa := RR_mv hR a1_r (b1_t hb1 b1_0) rfl rfl
  have hRb := RR_mv hR a1_r hb1 rfl rfl
  have hHa := HR_b hRS hHR (b2_t hb2 b2_0)
  have hHb := HR_b hRS hHR hb2
  have hkna : s 0 7 = up s1 39 0 0 39 35 := hkn.trans (b1_t hb1 b1_0).2.2.2.2.2.2.1.symm
  have hM1 : MI s1 n1 := hLM.2.2.1 s s1 n n1 hMI hm3.1 hm3.2.1 hm3.2.2.1 hm3.2.2.2.1 hm3.2.2.2.2 hN1.2.2
  have hC : MC l g MI V s1 n1 T Q := ⟨hSb.2.1, by rw [hb1.2.2.2.2.2.1]; exact hLM, hM1, hSb.2.2.2.1⟩
  have hrw : rwb (s1 52) T Q := hHb.2.2.1.2.1.1
  have hrI : rI (s1 52) T Q := ⟨hrw, min 60 (tt a), by omega, hHb.2.2.1.2.2.1.2.2⟩
  have ht := t_seal (V := V) (tm := tt a) (t := t) (v := v) hSa hHa
  have eM2 : eo skV (up s1 39 0 0) (m_seal (up s1 39 0 0) a t v).2 := eV_seal
  refine ⟨rfl, s1, n1, by rw [hn1], aw_Mm (c_m_seal hSb.2.1 hHb.2.1 hHR.1.2.2.2) ?_⟩
  rintro _ _ ⟨rfl, rfl⟩
  refine ⟨congrArg (fun x => some (Value.int x)) ht.1.symm, (m_seal (up s1 39 0 0) a t v).2, n1, rfl, ?_⟩
  have hm4 := m3_t (m3_t hm3 m3_0) (m3_skV eM2)
  exact r_post (M2 := (m_seal (up s1 39 0 0) a t v).2) hRS ht.2 hB (a1_t (a1_t hA1 a1_0) (a1_skV eM2)) (a2_t (a2_t hD2 a2_0) (a2_skV eM2)) (b1_t (b1_t hb1 b1_0) (b1_skV eM2)) b2_r hN1.1 hN1.2.1 (hLM.2.2.1 s _ n n1 hMI hm4.1 hm4.2.1 hm4.2.2.1 hm4.2.2.2.1 hm4.2.2.2.2 hN1.2.2)
theorem BO_open {l : Launch} {g : ag_G} (hx : aw_hx g) {t : Int32} : BO l g mi_X11_open 8 0 0 mi_X12_open 2 [.int t] := by
  rintro s n ⟨T, Q, hRS, ⟨q, a, tt, hHR⟩, hWR⟩
  obtain ⟨V, MI, hV, hLM, hMI, hB⟩ := WR_use (l := l) hx hWR
  obtain ⟨hS, ⟨N, hN⟩, hI, hkn, ⟨P, pL, pF, hR⟩, E, tx, hT⟩ := id hRS
  have hV0 := hV n rfl rfl
  have htm : s 16 4 = nI (tt a) := hHR.2.2.1.1.1.2.2.2.2.trans hHR.2.2.1.2.2.1.1
  have ht9 : tt a ≤ 9999 := hHR.2.2.1.2.2.1.2.1
  have hI9 : PJ s T Q := ⟨hS.1, ⟨q, a, hHR.1⟩, tt a, htm, ht9⟩
  have eD : eo skE s (dDo V s T (tt a) q a 3 t 0).2 := eE_dDo
  refine ⟨(dDo V s T (tt a) q a 3 t 0).1, aw_Mm (c_X11_open hS.1 htm (by omega) hHR.1 hV0) ?_⟩
  rintro _ _ ⟨s1, rfl, rfl, e⟩
  have hD1 := a1_skC e
  have hD2 := a2_skC e
  have hD3 := b1_skC e
  have hD4 := b2_skC e
  have hD5 := m3_skC e
  obtain ⟨n1, hn1⟩ : ∃ n1, n1 = n := ⟨n, rfl⟩
  have hN1 : n1.2.1 = n.2.1 ∧ n1.2.2.2 = n.2.2.2 ∧ n1.1 54 = n.1 54 := by rw [hn1]; exact ⟨rfl, rfl, rfl⟩
  have hA1 := a1_t (a1_skE eD) hD1
  have hb1 := b1_t (b1_skE eD) hD3
  have hb2 := b2_t (b2_skE eD) hD4
  have hm3 := m3_t (m3_skE eD) hD5
  have hSa := SR_mv2 hS a1_r (b1_t hb1 b1_0)
  have hSb := SR_mv2 hS a1_r hb1
  have hRa := RR_mv hR a1_r (b1_t hb1 b1_0) rfl rfl
  have hRb := RR_mv hR a1_r hb1 rfl rfl
  have hHa := HR_b hRS hHR (b2_t hb2 b2_0)
  have hHb := HR_b hRS hHR hb2
  have hkna : s 0 7 = up s1 39 0 0 39 35 := hkn.trans (b1_t hb1 b1_0).2.2.2.2.2.2.1.symm
  have hM1 : MI s1 n1 := hLM.2.2.1 s s1 n n1 hMI hm3.1 hm3.2.1 hm3.2.2.1 hm3.2.2.2.1 hm3.2.2.2.2 hN1.2.2
  have hC : MC l g MI V s1 n1 T Q := ⟨hSb.2.1, by rw [hb1.2.2.2.2.2.1]; exact hLM, hM1, hSb.2.2.2.1⟩
  have hrw : rwb (s1 52) T Q := hHb.2.2.1.2.1.1
  have hrI : rI (s1 52) T Q := ⟨hrw, min 60 (tt a), by omega, hHb.2.2.1.2.2.1.2.2⟩
  have ht := t_open (V := V) (tm := tt a) (t := t) hSa hHa
  have eM2 : eo skV (up s1 39 0 0) (m_open (up s1 39 0 0) a t).2 := eV_open
  refine ⟨rfl, s1, n1, by rw [hn1], aw_Mm (c_m_open hSb.2.1 hHb.2.1 hHR.1.2.2.2) ?_⟩
  rintro _ _ ⟨rfl, rfl⟩
  refine ⟨congrArg (fun x => some (Value.int x)) ht.1.symm, (m_open (up s1 39 0 0) a t).2, n1, rfl, ?_⟩
  have hm4 := m3_t (m3_t hm3 m3_0) (m3_skV eM2)
  exact r_post (M2 := (m_open (up s1 39 0 0) a t).2) hRS ht.2 hB (a1_t (a1_t hA1 a1_0) (a1_skV eM2)) (a2_t (a2_t hD2 a2_0) (a2_skV eM2)) (b1_t (b1_t hb1 b1_0) (b1_skV eM2)) b2_r hN1.1 hN1.2.1 (hLM.2.2.1 s _ n n1 hMI hm4.1 hm4.2.1 hm4.2.2.1 hm4.2.2.2.1 hm4.2.2.2.2 hN1.2.2)
theorem BO_pry {l : Launch} {g : ag_G} (hx : aw_hx g) {t r : Int32} : BO l g mi_X11_pry 8 0 0 mi_X12_pry 3 [.int t, .int r] := by
  rintro s n ⟨T, Q, hRS, ⟨q, a, tt, hHR⟩, hWR⟩
  obtain ⟨V, MI, hV, hLM, hMI, hB⟩ := WR_use (l := l) hx hWR
  obtain ⟨hS, ⟨N, hN⟩, hI, hkn, ⟨P, pL, pF, hR⟩, E, tx, hT⟩ := id hRS
  have hV0 := hV n rfl rfl
  have htm : s 16 4 = nI (tt a) := hHR.2.2.1.1.1.2.2.2.2.trans hHR.2.2.1.2.2.1.1
  have ht9 : tt a ≤ 9999 := hHR.2.2.1.2.2.1.2.1
  have hI9 : PJ s T Q := ⟨hS.1, ⟨q, a, hHR.1⟩, tt a, htm, ht9⟩
  have eD : eo skE s (dDo V s T (tt a) q a 2 t r).2 := eE_dDo
  refine ⟨(dDo V s T (tt a) q a 2 t r).1, aw_Mm (c_X11_pry hS.1 htm (by omega) hHR.1 hV0) ?_⟩
  rintro _ _ ⟨s1, rfl, rfl, e⟩
  have hD1 := a1_skC e
  have hD2 := a2_skC e
  have hD3 := b1_skC e
  have hD4 := b2_skC e
  have hD5 := m3_skC e
  obtain ⟨n1, hn1⟩ : ∃ n1, n1 = n := ⟨n, rfl⟩
  have hN1 : n1.2.1 = n.2.1 ∧ n1.2.2.2 = n.2.2.2 ∧ n1.1 54 = n.1 54 := by rw [hn1]; exact ⟨rfl, rfl, rfl⟩
  have hA1 := a1_t (a1_skE eD) hD1
  have hb1 := b1_t (b1_skE eD) hD3
  have hb2 := b2_t (b2_skE eD) hD4
  have hm3 := m3_t (m3_skE eD) hD5
  have hSa := SR_mv2 hS a1_r (b1_t hb1 b1_0)
  have hSb := SR_mv2 hS a1_r hb1
  have hRa := RR_mv hR a1_r (b1_t hb1 b1_0) rfl rfl
  have hRb := RR_mv hR a1_r hb1 rfl rfl
  have hHa := HR_b hRS hHR (b2_t hb2 b2_0)
  have hHb := HR_b hRS hHR hb2
  have hkna : s 0 7 = up s1 39 0 0 39 35 := hkn.trans (b1_t hb1 b1_0).2.2.2.2.2.2.1.symm
  have hM1 : MI s1 n1 := hLM.2.2.1 s s1 n n1 hMI hm3.1 hm3.2.1 hm3.2.2.1 hm3.2.2.2.1 hm3.2.2.2.2 hN1.2.2
  have hC : MC l g MI V s1 n1 T Q := ⟨hSb.2.1, by rw [hb1.2.2.2.2.2.1]; exact hLM, hM1, hSb.2.2.2.1⟩
  have hrw : rwb (s1 52) T Q := hHb.2.2.1.2.1.1
  have hrI : rI (s1 52) T Q := ⟨hrw, min 60 (tt a), by omega, hHb.2.2.1.2.2.1.2.2⟩
  have ht := t_pry (V := V) (tm := tt a) (t := t) (r := r) hSa hHa
  have eM2 : eo skV (up s1 39 0 0) (m_pry (up s1 39 0 0) a t r).2 := eV_pry
  refine ⟨rfl, s1, n1, by rw [hn1], aw_Mm (c_m_pry hSb.2.1 hHb.2.1 hHR.1.2.2.2) ?_⟩
  rintro _ _ ⟨rfl, rfl⟩
  refine ⟨congrArg (fun x => some (Value.int x)) ht.1.symm, (m_pry (up s1 39 0 0) a t r).2, n1, rfl, ?_⟩
  have hm4 := m3_t (m3_t hm3 m3_0) (m3_skV eM2)
  exact r_post (M2 := (m_pry (up s1 39 0 0) a t r).2) hRS ht.2 hB (a1_t (a1_t hA1 a1_0) (a1_skV eM2)) (a2_t (a2_t hD2 a2_0) (a2_skV eM2)) (b1_t (b1_t hb1 b1_0) (b1_skV eM2)) b2_r hN1.1 hN1.2.1 (hLM.2.2.1 s _ n n1 hMI hm4.1 hm4.2.1 hm4.2.2.1 hm4.2.2.2.1 hm4.2.2.2.2 hN1.2.2)
theorem BO_carry {l : Launch} {g : ag_G} (hx : aw_hx g) {t v : Int32} : BO l g mi_X11_carry 8 0 0 mi_X12_carry 2 [.int t, .int v] := by
  rintro s n ⟨T, Q, hRS, ⟨q, a, tt, hHR⟩, hWR⟩
  obtain ⟨V, MI, hV, hLM, hMI, hB⟩ := WR_use (l := l) hx hWR
  obtain ⟨hS, ⟨N, hN⟩, hI, hkn, ⟨P, pL, pF, hR⟩, E, tx, hT⟩ := id hRS
  have hV0 := hV n rfl rfl
  have htm : s 16 4 = nI (tt a) := hHR.2.2.1.1.1.2.2.2.2.trans hHR.2.2.1.2.2.1.1
  have ht9 : tt a ≤ 9999 := hHR.2.2.1.2.2.1.2.1
  have hI9 : PJ s T Q := ⟨hS.1, ⟨q, a, hHR.1⟩, tt a, htm, ht9⟩
  have eD : eo skE s (dDo V s T (tt a) q a 4 t v).2 := eE_dDo
  refine ⟨(dDo V s T (tt a) q a 4 t v).1, aw_Mm (c_X11_carry hS.1 htm (by omega) hHR.1 hV0) ?_⟩
  rintro _ _ ⟨s1, rfl, rfl, e⟩
  have hD1 := a1_skC e
  have hD2 := a2_skC e
  have hD3 := b1_skC e
  have hD4 := b2_skC e
  have hD5 := m3_skC e
  obtain ⟨n1, hn1⟩ : ∃ n1, n1 = n := ⟨n, rfl⟩
  have hN1 : n1.2.1 = n.2.1 ∧ n1.2.2.2 = n.2.2.2 ∧ n1.1 54 = n.1 54 := by rw [hn1]; exact ⟨rfl, rfl, rfl⟩
  have hA1 := a1_t (a1_skE eD) hD1
  have hb1 := b1_t (b1_skE eD) hD3
  have hb2 := b2_t (b2_skE eD) hD4
  have hm3 := m3_t (m3_skE eD) hD5
  have hSa := SR_mv2 hS a1_r (b1_t hb1 b1_0)
  have hSb := SR_mv2 hS a1_r hb1
  have hRa := RR_mv hR a1_r (b1_t hb1 b1_0) rfl rfl
  have hRb := RR_mv hR a1_r hb1 rfl rfl
  have hHa := HR_b hRS hHR (b2_t hb2 b2_0)
  have hHb := HR_b hRS hHR hb2
  have hkna : s 0 7 = up s1 39 0 0 39 35 := hkn.trans (b1_t hb1 b1_0).2.2.2.2.2.2.1.symm
  have hM1 : MI s1 n1 := hLM.2.2.1 s s1 n n1 hMI hm3.1 hm3.2.1 hm3.2.2.1 hm3.2.2.2.1 hm3.2.2.2.2 hN1.2.2
  have hC : MC l g MI V s1 n1 T Q := ⟨hSb.2.1, by rw [hb1.2.2.2.2.2.1]; exact hLM, hM1, hSb.2.2.2.1⟩
  have hrw : rwb (s1 52) T Q := hHb.2.2.1.2.1.1
  have hrI : rI (s1 52) T Q := ⟨hrw, min 60 (tt a), by omega, hHb.2.2.1.2.2.1.2.2⟩
  have ht := t_carry (V := V) (tm := tt a) (t := t) (v := v) hSa hHa
  have eM2 : eo skV (up s1 39 0 0) (m_carry (up s1 39 0 0) a t v).2 := eV_carry
  refine ⟨rfl, s1, n1, by rw [hn1], aw_Mm (c_m_carry hSb.2.1 hHb.2.1 hHR.1.2.2.2) ?_⟩
  rintro _ _ ⟨rfl, rfl⟩
  refine ⟨congrArg (fun x => some (Value.int x)) ht.1.symm, (m_carry (up s1 39 0 0) a t v).2, n1, rfl, ?_⟩
  have hm4 := m3_t (m3_t hm3 m3_0) (m3_skV eM2)
  exact r_post (M2 := (m_carry (up s1 39 0 0) a t v).2) hRS ht.2 hB (a1_t (a1_t hA1 a1_0) (a1_skV eM2)) (a2_t (a2_t hD2 a2_0) (a2_skV eM2)) (b1_t (b1_t hb1 b1_0) (b1_skV eM2)) b2_r hN1.1 hN1.2.1 (hLM.2.2.1 s _ n n1 hMI hm4.1 hm4.2.1 hm4.2.2.1 hm4.2.2.2.1 hm4.2.2.2.2 hN1.2.2)
theorem BO_heat {l : Launch} {g : ag_G} (hx : aw_hx g) {v : Int32} : BO l g mi_X11_heat 8 0 0 mi_X12_heat 2 [.int v] := by
  rintro s n ⟨T, Q, hRS, ⟨q, a, tt, hHR⟩, hWR⟩
  obtain ⟨V, MI, hV, hLM, hMI, hB⟩ := WR_use (l := l) hx hWR
  obtain ⟨hS, ⟨N, hN⟩, hI, hkn, ⟨P, pL, pF, hR⟩, E, tx, hT⟩ := id hRS
  have hV0 := hV n rfl rfl
  have htm : s 16 4 = nI (tt a) := hHR.2.2.1.1.1.2.2.2.2.trans hHR.2.2.1.2.2.1.1
  have ht9 : tt a ≤ 9999 := hHR.2.2.1.2.2.1.2.1
  have hI9 : PJ s T Q := ⟨hS.1, ⟨q, a, hHR.1⟩, tt a, htm, ht9⟩
  have eD : eo skE s (dDo V s T (tt a) q a 5 v 0).2 := eE_dDo
  refine ⟨(dDo V s T (tt a) q a 5 v 0).1, aw_Mm (c_X11_heat hS.1 htm (by omega) hHR.1 hV0) ?_⟩
  rintro _ _ ⟨s1, rfl, rfl, e⟩
  have hD1 := a1_skC e
  have hD2 := a2_skC e
  have hD3 := b1_skC e
  have hD4 := b2_skC e
  have hD5 := m3_skC e
  obtain ⟨n1, hn1⟩ : ∃ n1, n1 = n := ⟨n, rfl⟩
  have hN1 : n1.2.1 = n.2.1 ∧ n1.2.2.2 = n.2.2.2 ∧ n1.1 54 = n.1 54 := by rw [hn1]; exact ⟨rfl, rfl, rfl⟩
  have hA1 := a1_t (a1_skE eD) hD1
  have hb1 := b1_t (b1_skE eD) hD3
  have hb2 := b2_t (b2_skE eD) hD4
  have hm3 := m3_t (m3_skE eD) hD5
  have hSa := SR_mv2 hS a1_r (b1_t hb1 b1_0)
  have hSb := SR_mv2 hS a1_r hb1
  have hRa := RR_mv hR a1_r (b1_t hb1 b1_0) rfl rfl
  have hRb := RR_mv hR a1_r hb1 rfl rfl
  have hHa := HR_b hRS hHR (b2_t hb2 b2_0)
  have hHb := HR_b hRS hHR hb2
  have hkna : s 0 7 = up s1 39 0 0 39 35 := hkn.trans (b1_t hb1 b1_0).2.2.2.2.2.2.1.symm
  have hM1 : MI s1 n1 := hLM.2.2.1 s s1 n n1 hMI hm3.1 hm3.2.1 hm3.2.2.1 hm3.2.2.2.1 hm3.2.2.2.2 hN1.2.2
  have hC : MC l g MI V s1 n1 T Q := ⟨hSb.2.1, by rw [hb1.2.2.2.2.2.1]; exact hLM, hM1, hSb.2.2.2.1⟩
  have hrw : rwb (s1 52) T Q := hHb.2.2.1.2.1.1
  have hrI : rI (s1 52) T Q := ⟨hrw, min 60 (tt a), by omega, hHb.2.2.1.2.2.1.2.2⟩
  have ht := t_heat (V := V) (tm := tt a) (v := v) hSa hHa
  have eM2 : eo skV (up s1 39 0 0) (m_heat (up s1 39 0 0) a v).2 := eV_heat
  refine ⟨rfl, s1, n1, by rw [hn1], aw_Mm (c_m_heat hHb.2.1 hHR.1.2.2.2) ?_⟩
  rintro _ _ ⟨rfl, rfl⟩
  refine ⟨congrArg (fun x => some (Value.int x)) ht.1.symm, (m_heat (up s1 39 0 0) a v).2, n1, rfl, ?_⟩
  have hm4 := m3_t (m3_t hm3 m3_0) (m3_skV eM2)
  exact r_post (M2 := (m_heat (up s1 39 0 0) a v).2) hRS ht.2 hB (a1_t (a1_t hA1 a1_0) (a1_skV eM2)) (a2_t (a2_t hD2 a2_0) (a2_skV eM2)) (b1_t (b1_t hb1 b1_0) (b1_skV eM2)) b2_r hN1.1 hN1.2.1 (hLM.2.2.1 s _ n n1 hMI hm4.1 hm4.2.1 hm4.2.2.1 hm4.2.2.2.1 hm4.2.2.2.2 hN1.2.2)
theorem BO_month {l : Launch} {g : ag_G} (hx : aw_hx g) : BO l g mi_X11_month 8 0 0 mi_X12_month 103 [] := by
  rintro s n ⟨T, Q, hRS, ⟨q, a, tt, hHR⟩, hWR⟩
  obtain ⟨V, MI, hV, hLM, hMI, hB⟩ := WR_use (l := l) hx hWR
  obtain ⟨hS, ⟨N, hN⟩, hI, hkn, ⟨P, pL, pF, hR⟩, E, tx, hT⟩ := id hRS
  have hV0 := hV n rfl rfl
  have htm : s 16 4 = nI (tt a) := hHR.2.2.1.1.1.2.2.2.2.trans hHR.2.2.1.2.2.1.1
  have ht9 : tt a ≤ 9999 := hHR.2.2.1.2.2.1.2.1
  have hI9 : PJ s T Q := ⟨hS.1, ⟨q, a, hHR.1⟩, tt a, htm, ht9⟩
  have eD : eo skE s (dDo V s T (tt a) q a 0 0 0).2 := eE_dDo
  refine ⟨(if (dDo V s T (tt a) q a 0 0 0).1 = -1 then -1 else bitc (dDo V s T (tt a) q a 0 0 0).1), aw_Mm (c_X11_month hS.1 htm (by omega) hHR.1 hV0) ?_⟩
  rintro _ _ ⟨s1, rfl, rfl, e⟩
  have hD1 := a1_skC e
  have hD2 := a2_skC e
  have hD3 := b1_skC e
  have hD4 := b2_skC e
  have hD5 := m3_skC e
  obtain ⟨n1, hn1⟩ : ∃ n1, n1 = n := ⟨n, rfl⟩
  have hN1 : n1.2.1 = n.2.1 ∧ n1.2.2.2 = n.2.2.2 ∧ n1.1 54 = n.1 54 := by rw [hn1]; exact ⟨rfl, rfl, rfl⟩
  have hA1 := a1_t (a1_skE eD) hD1
  have hb1 := b1_t (b1_skE eD) hD3
  have hb2 := b2_t (b2_skE eD) hD4
  have hm3 := m3_t (m3_skE eD) hD5
  have hSa := SR_mv2 hS a1_r (b1_t hb1 b1_0)
  have hSb := SR_mv2 hS a1_r hb1
  have hRa := RR_mv hR a1_r (b1_t hb1 b1_0) rfl rfl
  have hRb := RR_mv hR a1_r hb1 rfl rfl
  have hHa := HR_b hRS hHR (b2_t hb2 b2_0)
  have hHb := HR_b hRS hHR hb2
  have hkna : s 0 7 = up s1 39 0 0 39 35 := hkn.trans (b1_t hb1 b1_0).2.2.2.2.2.2.1.symm
  have hM1 : MI s1 n1 := hLM.2.2.1 s s1 n n1 hMI hm3.1 hm3.2.1 hm3.2.2.1 hm3.2.2.2.1 hm3.2.2.2.2 hN1.2.2
  have hC : MC l g MI V s1 n1 T Q := ⟨hSb.2.1, by rw [hb1.2.2.2.2.2.1]; exact hLM, hM1, hSb.2.2.2.1⟩
  have hrw : rwb (s1 52) T Q := hHb.2.2.1.2.1.1
  have hrI : rI (s1 52) T Q := ⟨hrw, min 60 (tt a), by omega, hHb.2.2.1.2.2.1.2.2⟩
  have ht := t_month (V := V) hSa hHa
  have eM2 : eo skV (up s1 39 0 0) (m_month V (up s1 39 0 0) T Q (min 60 (tt a)) a).2 := eV_month
  refine ⟨rfl, s1, n1, by rw [hn1], aw_Mm (c_m_month hC hrw (G := min 60 (tt a)) (by omega) hHb.2.2.1.2.2.1.2.2 hHb.2.1 hHR.1.2.2.2) ?_⟩
  rintro _ _ ⟨s2, n2, rfl, rfl, e2, en2, hM2⟩
  refine ⟨congrArg (fun x => some (Value.int x)) ht.1.symm, s2, n2, rfl, ?_⟩
  exact r_post (M2 := (m_month V (up s1 39 0 0) T Q (min 60 (tt a)) a).2) hRS ht.2 hB (a1_t (a1_t (a1_t hA1 a1_0) (a1_skV eM2)) (a1_skM e2)) (a2_t (a2_t (a2_t hD2 a2_0) (a2_skV eM2)) (a2_skM e2)) (b1_t (b1_t (b1_t hb1 b1_0) (b1_skV eM2)) (b1_skM e2)) (b2_skM e2) (en2.2.1.trans hN1.1) (en2.2.2.trans hN1.2.1) hM2
theorem BO_undo {l : Launch} {g : ag_G} (hx : aw_hx g) : BO l g mi_X11_undo 2 0 0 mi_X12_undo 0 [] := by
  rintro s n ⟨T, Q, hRS, ⟨q, a, tt, hHR⟩, hWR⟩
  obtain ⟨V, MI, hV, hLM, hMI, hB⟩ := WR_use (l := l) hx hWR
  obtain ⟨hS, ⟨N, hN⟩, hI, hkn, ⟨P, pL, pF, hR⟩, E, tx, hT⟩ := id hRS
  have hV0 := hV n rfl rfl
  have htm : s 16 4 = nI (tt a) := hHR.2.2.1.1.1.2.2.2.2.trans hHR.2.2.1.2.2.1.1
  have ht9 : tt a ≤ 9999 := hHR.2.2.1.2.2.1.2.1
  have hI9 : PJ s T Q := ⟨hS.1, ⟨q, a, hHR.1⟩, tt a, htm, ht9⟩
  have eD : eo skE s (aUndo s q a).2 := eE_undo
  refine ⟨(aUndo s q a).1, aw_Mm (c_X11_undo hHR.1) ?_⟩
  rintro _ _ ⟨rfl, rfl⟩
  obtain ⟨s1, hs1⟩ : ∃ s1, s1 = (aUndo s q a).2 := ⟨_, rfl⟩
  have hD1 : a1 (aUndo s q a).2 s1 := by rw [hs1]; exact a1_r
  have hD2 : a2 (aUndo s q a).2 s1 := by rw [hs1]; exact a2_r
  have hD3 : b1 (aUndo s q a).2 s1 := by rw [hs1]; exact b1_r
  have hD4 : b2 (aUndo s q a).2 s1 := by rw [hs1]; exact b2_r
  have hD5 : m3 (aUndo s q a).2 s1 := by rw [hs1]; exact m3_r
  obtain ⟨n1, hn1⟩ : ∃ n1, n1 = n := ⟨n, rfl⟩
  have hN1 : n1.2.1 = n.2.1 ∧ n1.2.2.2 = n.2.2.2 ∧ n1.1 54 = n.1 54 := by rw [hn1]; exact ⟨rfl, rfl, rfl⟩
  have hA1 := a1_t (a1_skE eD) hD1
  have hb1 := b1_t (b1_skE eD) hD3
  have hb2 := b2_t (b2_skE eD) hD4
  have hm3 := m3_t (m3_skE eD) hD5
  have hSa := SR_mv2 hS a1_r (b1_t hb1 b1_0)
  have hSb := SR_mv2 hS a1_r hb1
  have hRa := RR_mv hR a1_r (b1_t hb1 b1_0) rfl rfl
  have hRb := RR_mv hR a1_r hb1 rfl rfl
  have hHa := HR_b hRS hHR (b2_t hb2 b2_0)
  have hHb := HR_b hRS hHR hb2
  have hkna : s 0 7 = up s1 39 0 0 39 35 := hkn.trans (b1_t hb1 b1_0).2.2.2.2.2.2.1.symm
  have hM1 : MI s1 n1 := hLM.2.2.1 s s1 n n1 hMI hm3.1 hm3.2.1 hm3.2.2.1 hm3.2.2.2.1 hm3.2.2.2.2 hN1.2.2
  have hC : MC l g MI V s1 n1 T Q := ⟨hSb.2.1, by rw [hb1.2.2.2.2.2.1]; exact hLM, hM1, hSb.2.2.2.1⟩
  have hrw : rwb (s1 52) T Q := hHb.2.2.1.2.1.1
  have hrI : rI (s1 52) T Q := ⟨hrw, min 60 (tt a), by omega, hHb.2.2.1.2.2.1.2.2⟩
  have ht := t_undo hSb hHb
  have eM2 : eo skV (up s1 39 0 0) (m_undo s1 a).2 := eV_undo
  refine ⟨rfl, s1, n1, by rw [hs1, hn1], aw_Mm (c_m_undo hHb.2.1 hHR.1.2.2.2) ?_⟩
  rintro _ _ ⟨rfl, rfl⟩
  refine ⟨congrArg (fun x => some (Value.int x)) ht.1.symm, (m_undo s1 a).2, n1, rfl, ?_⟩
  have hm4 := m3_t (m3_t hm3 m3_0) (m3_skV eM2)
  exact r_post (M2 := (m_undo s1 a).2) hRS ht.2 hB (a1_t (a1_t hA1 a1_0) (a1_skV eM2)) (a2_t (a2_t hD2 a2_0) (a2_skV eM2)) (b1_t (b1_t hb1 b1_0) (b1_skV eM2)) b2_r hN1.1 hN1.2.1 (hLM.2.2.1 s _ n n1 hMI hm4.1 hm4.2.1 hm4.2.2.1 hm4.2.2.2.1 hm4.2.2.2.2 hN1.2.2)
theorem BO_perform {l : Launch} {g : ag_G} (hx : aw_hx g) {k : Int32} : BO l g mi_X11_perform 8 0 0 mi_X12_perform 104 [.int k] := by
  rintro s n ⟨T, Q, hRS, ⟨q, a, tt, hHR⟩, hWR⟩
  obtain ⟨V, MI, hV, hLM, hMI, hB⟩ := WR_use (l := l) hx hWR
  obtain ⟨hS, ⟨N, hN⟩, hI, hkn, ⟨P, pL, pF, hR⟩, E, tx, hT⟩ := id hRS
  have hV0 := hV n rfl rfl
  have htm : s 16 4 = nI (tt a) := hHR.2.2.1.1.1.2.2.2.2.trans hHR.2.2.1.2.2.1.1
  have ht9 : tt a ≤ 9999 := hHR.2.2.1.2.2.1.2.1
  have hI9 : PJ s T Q := ⟨hS.1, ⟨q, a, hHR.1⟩, tt a, htm, ht9⟩
  have eD : eo skE s (q_perf V s T pL pF k).2 := eE_perf
  refine ⟨(q_perf V s T pL pF k).1, aw_Mm (c_X11_perform hR.1 hI9 hV0) ?_⟩
  rintro _ _ ⟨s1, rfl, rfl, e⟩
  have hD1 := a1_skC e
  have hD2 := a2_skC e
  have hD3 := b1_skC e
  have hD4 := b2_skC e
  have hD5 := m3_skC e
  obtain ⟨n1, hn1⟩ : ∃ n1, n1 = n := ⟨n, rfl⟩
  have hN1 : n1.2.1 = n.2.1 ∧ n1.2.2.2 = n.2.2.2 ∧ n1.1 54 = n.1 54 := by rw [hn1]; exact ⟨rfl, rfl, rfl⟩
  have hA1 := a1_t (a1_skE eD) hD1
  have hb1 := b1_t (b1_skE eD) hD3
  have hb2 := b2_t (b2_skE eD) hD4
  have hm3 := m3_t (m3_skE eD) hD5
  have hSa := SR_mv2 hS a1_r (b1_t hb1 b1_0)
  have hSb := SR_mv2 hS a1_r hb1
  have hRa := RR_mv hR a1_r (b1_t hb1 b1_0) rfl rfl
  have hRb := RR_mv hR a1_r hb1 rfl rfl
  have hHa := HR_b hRS hHR (b2_t hb2 b2_0)
  have hHb := HR_b hRS hHR hb2
  have hkna : s 0 7 = up s1 39 0 0 39 35 := hkn.trans (b1_t hb1 b1_0).2.2.2.2.2.2.1.symm
  have hM1 : MI s1 n1 := hLM.2.2.1 s s1 n n1 hMI hm3.1 hm3.2.1 hm3.2.2.1 hm3.2.2.2.1 hm3.2.2.2.2 hN1.2.2
  have hC : MC l g MI V s1 n1 T Q := ⟨hSb.2.1, by rw [hb1.2.2.2.2.2.1]; exact hLM, hM1, hSb.2.2.2.1⟩
  have hrw : rwb (s1 52) T Q := hHb.2.2.1.2.1.1
  have hrI : rI (s1 52) T Q := ⟨hrw, min 60 (tt a), by omega, hHb.2.2.1.2.2.1.2.2⟩
  have ht := t_perf (V := V) (k := k) hSa ⟨q, a, tt, hHa⟩ hRa.1.1 hRa.2.1 hRa.1.2.1 (RR_h hRa)
  have eM2 : eo skV (up s1 39 0 0) (m_perform V (up s1 39 0 0) T Q k).2 := (eV_of ht.2.2.2)
  refine ⟨rfl, s1, n1, by rw [hn1], aw_Mm (c_m_perform hC hrI hHb.2.1 hHR.1.2.2.2 hRb.2.1 hRb.1.2.1 (RR_l hRb)) ?_⟩
  rintro _ _ ⟨s2, n2, rfl, rfl, e2, en2, hM2⟩
  refine ⟨congrArg (fun x => some (Value.int x)) ht.1.symm, s2, n2, rfl, ?_⟩
  exact r_post (M2 := (m_perform V (up s1 39 0 0) T Q k).2) hRS ht.2.1 hB (a1_t (a1_t (a1_t hA1 a1_0) (a1_skV eM2)) (a1_skM e2)) (a2_t (a2_t (a2_t hD2 a2_0) (a2_skV eM2)) (a2_skM e2)) (b1_t (b1_t (b1_t hb1 b1_0) (b1_skV eM2)) (b1_skM e2)) (b2_skM e2) (en2.2.1.trans hN1.1) (en2.2.2.trans hN1.2.1) hM2
theorem BO_years {l : Launch} {g : ag_G} (hx : aw_hx g) {m : Int32} {x : Int64} : BO l g mi_X11_years 8 0 0 mi_X12_years 103 [.int m, .long x] := by
  rintro s n ⟨T, Q, hRS, ⟨q, a, tt, hHR⟩, hWR⟩
  obtain ⟨V, MI, hV, hLM, hMI, hB⟩ := WR_use (l := l) hx hWR
  obtain ⟨hS, ⟨N, hN⟩, hI, hkn, ⟨P, pL, pF, hR⟩, E, tx, hT⟩ := id hRS
  have hV0 := hV n rfl rfl
  have htm : s 16 4 = nI (tt a) := hHR.2.2.1.1.1.2.2.2.2.trans hHR.2.2.1.2.2.1.1
  have ht9 : tt a ≤ 9999 := hHR.2.2.1.2.2.1.2.1
  have hI9 : PJ s T Q := ⟨hS.1, ⟨q, a, hHR.1⟩, tt a, htm, ht9⟩
  have eD : eo skE s (q_years dx dv V s T m x).2 := eE_years
  refine ⟨(q_years dx dv V s T m x).1, aw_Mm (c_X11_yearsD hI9 (fun x => hV _ rfl rfl)) ?_⟩
  rintro _ _ ⟨s1, n1, rfl, rfl, e, hn⟩
  have hD1 := a1_skC e
  have hD2 := a2_skC e
  have hD3 := b1_skC e
  have hD4 := b2_skC e
  have hD5 := m3_skC e
  have hN1 : n1.2.1 = n.2.1 ∧ n1.2.2.2 = n.2.2.2 ∧ n1.1 54 = n.1 54 := by
    rcases hn with rfl | ⟨y, rfl⟩
    · exact ⟨rfl, rfl, rfl⟩
    · exact ⟨rfl, rfl, rfl⟩
  have hA1 := a1_t (a1_skE eD) hD1
  have hb1 := b1_t (b1_skE eD) hD3
  have hb2 := b2_t (b2_skE eD) hD4
  have hm3 := m3_t (m3_skE eD) hD5
  have hSa := SR_mv2 hS a1_r (b1_t hb1 b1_0)
  have hSb := SR_mv2 hS a1_r hb1
  have hRa := RR_mv hR a1_r (b1_t hb1 b1_0) rfl rfl
  have hRb := RR_mv hR a1_r hb1 rfl rfl
  have hHa := HR_b hRS hHR (b2_t hb2 b2_0)
  have hHb := HR_b hRS hHR hb2
  have hkna : s 0 7 = up s1 39 0 0 39 35 := hkn.trans (b1_t hb1 b1_0).2.2.2.2.2.2.1.symm
  have hM1 : MI s1 n1 := hLM.2.2.1 s s1 n n1 hMI hm3.1 hm3.2.1 hm3.2.2.1 hm3.2.2.2.1 hm3.2.2.2.2 hN1.2.2
  have hC : MC l g MI V s1 n1 T Q := ⟨hSb.2.1, by rw [hb1.2.2.2.2.2.1]; exact hLM, hM1, hSb.2.2.2.1⟩
  have hrw : rwb (s1 52) T Q := hHb.2.2.1.2.1.1
  have hrI : rI (s1 52) T Q := ⟨hrw, min 60 (tt a), by omega, hHb.2.2.1.2.2.1.2.2⟩
  have ht := t_years (DX := dx) (DV := dv) (V := V) (m := m) (x := x) hSa ⟨q, a, tt, hHa⟩ hkna
  have eM2 : eo skV (up s1 39 0 0) (m_years dx dv V (up s1 39 0 0) T Q m x).2 := (eV_of ht.2.2.2)
  refine ⟨rfl, s1, n1, rfl, aw_Mm (c_m_years hC hrI hHb.2.1 hHR.1.2.2.2) ?_⟩
  rintro _ _ ⟨s2, n2, rfl, rfl, e2, en2, hM2⟩
  refine ⟨congrArg (fun x => some (Value.int x)) ht.1.symm, s2, n2, rfl, ?_⟩
  exact r_post (M2 := (m_years dx dv V (up s1 39 0 0) T Q m x).2) hRS ht.2.1 hB (a1_t (a1_t (a1_t hA1 a1_0) (a1_skV eM2)) (a1_skM e2)) (a2_t (a2_t (a2_t hD2 a2_0) (a2_skV eM2)) (a2_skM e2)) (b1_t (b1_t (b1_t hb1 b1_0) (b1_skV eM2)) (b1_skM e2)) (b2_skM e2) (en2.2.1.trans hN1.1) (en2.2.2.trans hN1.2.1) hM2
