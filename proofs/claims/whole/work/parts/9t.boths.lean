/-! a call on both sides: what is set, the walks -/
theorem RX_cp {ring ring' f f' h h' : Nat → Int32} {T Q t : Nat} (hT : T ≤ 7) (hQ : Q ≤ 5) (hx : RX ring f h T Q t) (e0 : ∀ j, j < 384 → ring' j = ring j) (e1 : ∀ j, j < 36 → f' j = f j) (e2 : ∀ j, j < 217 → h' j = h j) : RX ring' f' h' T Q t :=
  RX_cong hT hQ (RX_ring hx (fun hl e x he hx => (hl e x he hx).trans (e0 _ (by have := Nat.mod_lt (t - min 60 t + e) (show 0 < 128 by decide); omega)).symm)) e1 e2
theorem cpy0 {α : Type} {f g : Nat → α} {n j : Nat} (h : j < n) : va_cpy f g 0 0 n j = f j := by
  rw [pk_cpy_in (by omega) (by omega)]
  exact congrArg f (by omega)
theorem BO_knives {l : Launch} {g : ag_G} (hx : aw_hx g) {v : Int32} : BO l g mi_X11_knives 0 0 0 mi_X12_knives 1 [.int v] := by
  rintro s n ⟨T, Q, hRS, hHE, hWR⟩
  obtain ⟨V, MI, hV, hLM, hMI, hB⟩ := WR_use (l := l) hx hWR
  obtain ⟨hS, ⟨N, hN⟩, hI, hkn, ⟨P, pL, pF, hR⟩, E, tx, hT⟩ := id hRS
  rcases t_knives (s := s) (v := v) with ⟨e1, e2⟩ | ⟨e1, e2⟩
  · refine ⟨0, aw_Mm c_X11_knives ?_⟩
    rintro _ _ ⟨rfl, rfl⟩
    rw [e1]
    refine ⟨rfl, s, n, rfl, aw_Mm c_m_knives ?_⟩
    rintro _ _ ⟨rfl, rfl⟩
    rw [e2 s hkn.symm]
    exact ⟨rfl, up s 39 0 0, n, rfl, q_post hRS hHE hB a1_0 a2_0 b1_0 b2_0 rfl rfl (hLM.2.2.1 s _ n n hMI rfl rfl rfl rfl rfl rfl)⟩
  · refine ⟨1, aw_Mm c_X11_knives ?_⟩
    rintro _ _ ⟨rfl, rfl⟩
    rw [e1]
    refine ⟨rfl, up s 0 7 v, n, rfl, aw_Mm c_m_knives ?_⟩
    rintro _ _ ⟨rfl, rfl⟩
    rw [e2 (up s 0 7 v) hkn.symm]
    refine ⟨rfl, up (z0 (up s 0 7 v)) 39 35 v, n, rfl, T, Q, ⟨SR_mv hS (fun _ => rfl) rfl rfl rfl rfl rfl rfl rfl, ⟨N, hN⟩, hI, rfl, ⟨P, pL, pF, hR⟩, E, tx, hT⟩, HE_mv hS.1.2.1 hS.1.2.2.2.1 hHE ⟨rfl, rfl, rfl, rfl, rfl⟩ ⟨rfl, rfl, rfl⟩, hB _ _ n rfl rfl rfl rfl rfl rfl (hLM.2.2.1 s _ n n hMI rfl rfl rfl rfl rfl rfl)⟩
theorem BO_law {l : Launch} {g : ag_G} (hx : aw_hx g) {v : Int32} : BO l g mi_X11_law 0 0 0 mi_X12_law 1 [.int v] := by
  rintro s n ⟨T, Q, hRS, hHE, hWR⟩
  obtain ⟨V, MI, hV, hLM, hMI, hB⟩ := WR_use (l := l) hx hWR
  obtain ⟨hS, ⟨N, hN⟩, hI, hkn, ⟨P, pL, pF, hR⟩, E, tx, hT⟩ := id hRS
  obtain ⟨K, Ls, hLs, hM, h7, h34, hc⟩ := hWR
  rcases t_law (v := v) hLs.1 hLs.2.1 with ⟨e1, e2⟩ | ⟨hv, e1, e2⟩
  · refine ⟨0, aw_Mm c_X11_law ?_⟩
    rintro _ _ ⟨rfl, rfl⟩
    rw [e1]
    refine ⟨rfl, s, n, rfl, aw_Mm c_m_law ?_⟩
    rintro _ _ ⟨rfl, rfl⟩
    rw [e2 s h7]
    exact ⟨rfl, up s 39 0 0, n, rfl, q_post hRS hHE hB a1_0 a2_0 b1_0 b2_0 rfl rfl (hLM.2.2.1 s _ n n hMI rfl rfl rfl rfl rfl rfl)⟩
  · refine ⟨1, aw_Mm c_X11_law ?_⟩
    rintro _ _ ⟨rfl, rfl⟩
    rw [e1]
    refine ⟨rfl, up s 10 4 v, n, rfl, aw_Mm c_m_law ?_⟩
    rintro _ _ ⟨rfl, rfl⟩
    rw [e2 (up s 10 4 v) h7]
    exact ⟨rfl, up (z0 (up s 10 4 v)) 39 34 v, n, rfl, T, Q, ⟨SR_mv hS (fun _ => rfl) rfl rfl rfl rfl rfl rfl rfl, ⟨N, hN⟩, hI, hkn, ⟨P, pL, pF, hR⟩, E, tx, hT⟩, HE_mv hS.1.2.1 hS.1.2.2.2.1 hHE ⟨rfl, rfl, rfl, rfl, rfl⟩ ⟨rfl, rfl, rfl⟩, K, Ls, hLs, hM, h7, rfl, hv⟩
theorem BO_end {l : Launch} {g : ag_G} (hx : aw_hx g) {v : Int32} : BO l g mi_X11_end 0 0 0 mi_X12_end 0 [.int v] := by
  rintro s n ⟨T, Q, hRS, hHE, hWR⟩
  obtain ⟨V, MI, hV, hLM, hMI, hB⟩ := WR_use (l := l) hx hWR
  obtain ⟨hS, ⟨N, hN⟩, hI, hkn, ⟨P, pL, pF, hR⟩, E, tx, hT⟩ := id hRS
  rcases t_end (v := v) hT.1.1 hT.1.2.1 with ⟨e1, e2⟩ | ⟨e, he, hv, e1, e2⟩
  · refine ⟨0, aw_Mm c_X11_end ?_⟩
    rintro _ _ ⟨rfl, rfl⟩
    rw [e1]
    refine ⟨rfl, s, n, rfl, aw_Mm c_m_end ?_⟩
    rintro _ _ ⟨rfl, rfl⟩
    rw [e2 s hT.2.1]
    exact ⟨rfl, up s 39 0 0, n, rfl, q_post hRS hHE hB a1_0 a2_0 b1_0 b2_0 rfl rfl (hLM.2.2.1 s _ n n hMI rfl rfl rfl rfl rfl rfl)⟩
  · refine ⟨1, aw_Mm c_X11_end ?_⟩
    rintro _ _ ⟨rfl, rfl⟩
    rw [e1]
    refine ⟨rfl, up s 1 1 v, n, rfl, aw_Mm c_m_end ?_⟩
    rintro _ _ ⟨rfl, rfl⟩
    rw [e2 (up s 1 1 v) hT.2.1]
    have hT' : TR (up (z0 (up s 1 1 v)) 39 6 v) (up (z0 (up s 1 1 v)) 39 6 v) e tx := ⟨⟨hv, Nat.le_trans he hT.1.2.1, fun i hi => hT.1.2.2 i (by omega)⟩, hv, fun i hi => hT.2.2 i (by omega)⟩
    exact ⟨rfl, up (z0 (up s 1 1 v)) 39 6 v, n, rfl, T, Q, ⟨SR_mv hS (fun _ => rfl) rfl rfl rfl rfl rfl rfl rfl, ⟨N, hN⟩, hI, hkn, ⟨P, pL, pF, hR⟩, e, tx, hT'⟩, HE_mv hS.1.2.1 hS.1.2.2.2.1 hHE ⟨rfl, rfl, rfl, rfl, rfl⟩ ⟨rfl, rfl, rfl⟩, hB _ _ n rfl rfl rfl rfl rfl rfl (hLM.2.2.1 s _ n n hMI rfl rfl rfl rfl rfl rfl)⟩
theorem BO_feed {l : Launch} {g : ag_G} (hx : aw_hx g) {x1 x2 x3 x4 x5 : Int32} : BO l g mi_X11_feed 1 0 0 mi_X12_feed 1 [.int x1, .int x2, .int x3, .int x4, .int x5] := by
  rintro s n ⟨T, Q, hRS, hHE, hWR⟩
  obtain ⟨V, MI, hV, hLM, hMI, hB⟩ := WR_use (l := l) hx hWR
  obtain ⟨hS, ⟨N, hN⟩, hI, hkn, ⟨P, pL, pF, hR⟩, E, tx, hT⟩ := id hRS
  have hF : ∃ tx, FT (s 2) (s 40) E tx := ⟨tx, fun i hi => ⟨(hT.1.2.2 i hi).1, (hT.1.2.2 i hi).2.1, (hT.1.2.2 i hi).2.2, hT.2.2 i hi⟩⟩
  rcases t_feed (x1 := x1) (x2 := x2) (x3 := x3) (x4 := x4) (x5 := x5) hT.1.1 hT.1.2.1 hF with ⟨e1, e2⟩ | ⟨E', f, h, hE', ⟨tx', hF'⟩, e1, e2⟩
  · refine ⟨-1, aw_Mm (c_X11_feed hT.1.1 hT.1.2.1) ?_⟩
    rintro _ _ ⟨rfl, rfl⟩
    rw [e1]
    refine ⟨rfl, s, n, rfl, aw_Mm (c_m_feed hT.2.1 hT.1.2.1) ?_⟩
    rintro _ _ ⟨rfl, rfl⟩
    rw [e2 (up s 39 0 0) hT.2.1]
    exact ⟨rfl, up s 39 0 0, n, rfl, q_post hRS hHE hB a1_0 a2_0 b1_0 b2_0 rfl rfl (hLM.2.2.1 s _ n n hMI rfl rfl rfl rfl rfl rfl)⟩
  · refine ⟨nI E', aw_Mm (c_X11_feed hT.1.1 hT.1.2.1) ?_⟩
    rintro _ _ ⟨rfl, rfl⟩
    rw [e1]
    refine ⟨rfl, tpM s f E', n, rfl, aw_Mm (c_m_feed (s := tpM s f E') hT.2.1 hT.1.2.1) ?_⟩
    rintro _ _ ⟨rfl, rfl⟩
    rw [e2 (up (tpM s f E') 39 0 0) hT.2.1 rfl]
    have hT' : TR (tmM (up (tpM s f E') 39 0 0) h E') (tmM (up (tpM s f E') 39 0 0) h E') E' tx' := ⟨⟨rfl, hE', fun i hi => ⟨(hF' i hi).1, (hF' i hi).2.1, (hF' i hi).2.2.1⟩⟩, rfl, fun i hi => (hF' i hi).2.2.2⟩
    exact ⟨rfl, tmM (up (tpM s f E') 39 0 0) h E', n, rfl, T, Q, ⟨SR_mv hS (fun _ => rfl) rfl rfl rfl rfl rfl rfl rfl, ⟨N, hN⟩, hI, hkn, ⟨P, pL, pF, hR⟩, E', tx', hT'⟩, HE_mv hS.1.2.1 hS.1.2.2.2.1 hHE ⟨rfl, rfl, rfl, rfl, rfl⟩ ⟨rfl, rfl, rfl⟩, hB _ _ n rfl rfl rfl rfl rfl rfl (hLM.2.2.1 s _ n n hMI rfl rfl rfl rfl rfl rfl)⟩
theorem BO_image {l : Launch} {g : ag_G} (hx : aw_hx g) : BO l g mi_X11_image 2 0 0 mi_X12_image 0 [] := by
  rintro s n ⟨T, Q, hRS, hHE, hWR⟩
  obtain ⟨V, MI, hV, hLM, hMI, hB⟩ := WR_use (l := l) hx hWR
  obtain ⟨hS, ⟨N, hN⟩, hI, hkn, ⟨P, pL, pF, hR⟩, E, tx, hT⟩ := id hRS
  by_cases h0 : s 39 26 = 0
  · have e1 : q_image s = (-1, s) := if_neg (fun z => (rl_0 hS).mp z h0)
    have e2 : m_image s = (-1, z0 s) := if_pos h0
    refine ⟨-1, aw_Mm c_X11_image ?_⟩
    rintro _ _ ⟨rfl, rfl⟩
    rw [e1]
    refine ⟨rfl, s, n, rfl, aw_Mm c_m_image ?_⟩
    rintro _ _ ⟨rfl, rfl⟩
    rw [e2]
    exact ⟨rfl, up s 39 0 0, n, rfl, q_post hRS hHE hB a1_0 a2_0 b1_0 b2_0 rfl rfl (hLM.2.2.1 s _ n n hMI rfl rfl rfl rfl rfl rfl)⟩
  · obtain ⟨q, a, tt, hHR⟩ := id hHE
    obtain ⟨D, hD⟩ : ∃ D : am_S, D = up (cp (cp s 16 25 0 0 36) 22 26 0 0 384) 21 7 1 := ⟨_, rfl⟩
    have e1 : q_image s = (s 16 4, D) := by rw [hD]; exact if_pos ((rl_0 hS).mpr h0)
    have e2 : m_image D = (s 52 35, up (upR (z0 D) 61 (va_cpy (s 52) (s 61) 0 0 217)) 39 49 1) := by
      rw [hD]
      exact if_neg h0
    refine ⟨s 16 4, aw_Mm c_X11_image ?_⟩
    rintro _ _ ⟨rfl, rfl⟩
    rw [e1]
    refine ⟨rfl, D, n, rfl, aw_Mm c_m_image ?_⟩
    rintro _ _ ⟨rfl, rfl⟩
    rw [e2]
    refine ⟨congrArg (fun x => some (Value.int x)) hHR.2.2.1.1.1.2.2.2.2.symm, _, n, rfl, ?_⟩
    subst hD
    refine ⟨T, Q, ⟨SR_mv hS (fun _ => rfl) rfl rfl rfl rfl rfl rfl rfl, ⟨N, hN⟩, ?_, hkn, ⟨P, pL, pF, hR⟩, E, tx, hT⟩, HE_mv hS.1.2.1 hS.1.2.2.2.1 hHE ⟨rfl, rfl, rfl, rfl, rfl⟩ ⟨rfl, rfl, rfl⟩, hB _ _ n rfl rfl rfl rfl rfl rfl (hLM.2.2.1 s _ n n hMI rfl rfl rfl rfl rfl rfl)⟩
    exact ⟨rfl, Or.inr ⟨rfl, tt a, RX_cp hS.1.2.1 hS.1.2.2.2.1 hHR.2.2.1 (fun j hj => cpy0 hj) (fun j hj => cpy0 hj) (fun j hj => cpy0 hj)⟩⟩
theorem BO_back {l : Launch} {g : ag_G} (hx : aw_hx g) : BO l g mi_X11_back 2 0 0 mi_X12_back 0 [] := by
  rintro s n ⟨T, Q, hRS, hHE, hWR⟩
  obtain ⟨V, MI, hV, hLM, hMI, hB⟩ := WR_use (l := l) hx hWR
  obtain ⟨hS, ⟨N, hN⟩, hI, hkn, ⟨P, pL, pF, hR⟩, E, tx, hT⟩ := id hRS
  rcases hI.2 with h0 | ⟨h1, t, hRX⟩
  · have e1 : q_back s = (-1, s) := if_pos (hI.1.trans h0)
    have e2 : m_back s = (-1, z0 s) := if_pos h0
    refine ⟨-1, aw_Mm c_X11_back ?_⟩
    rintro _ _ ⟨rfl, rfl⟩
    rw [e1]
    refine ⟨rfl, s, n, rfl, aw_Mm c_m_back ?_⟩
    rintro _ _ ⟨rfl, rfl⟩
    rw [e2]
    exact ⟨rfl, up s 39 0 0, n, rfl, q_post hRS hHE hB a1_0 a2_0 b1_0 b2_0 rfl rfl (hLM.2.2.1 s _ n n hMI rfl rfl rfl rfl rfl rfl)⟩
  · obtain ⟨q, a, tt, hHR⟩ := id hHE
    have hn1 : ¬ s 39 49 = 0 := by rw [h1]; decide
    obtain ⟨D, hD⟩ : ∃ D : am_S, D = up (cp (cp s 25 16 0 0 36) 26 22 0 0 384) 21 4 0 := ⟨_, rfl⟩
    have e1 : q_back s = (s 25 4, D) := by rw [hD]; exact if_neg (by rw [hI.1]; exact hn1)
    have e2 : m_back D = (s 61 35, up (upR (z0 D) 52 (va_cpy (s 61) (s 52) 0 0 217)) 39 39 0) := by
      rw [hD]
      exact if_neg hn1
    refine ⟨s 25 4, aw_Mm c_X11_back ?_⟩
    rintro _ _ ⟨rfl, rfl⟩
    rw [e1]
    refine ⟨rfl, D, n, rfl, aw_Mm c_m_back ?_⟩
    rintro _ _ ⟨rfl, rfl⟩
    rw [e2]
    refine ⟨congrArg (fun x => some (Value.int x)) hRX.1.1.2.2.2.2.symm, _, n, rfl, ?_⟩
    subst hD
    refine ⟨T, Q, ⟨SR_mv hS (fun _ => rfl) rfl rfl rfl rfl rfl rfl rfl, ⟨N, hN⟩, hI, hkn, ⟨P, pL, pF, hR⟩, E, tx, hT⟩, ?_, hB _ _ n rfl rfl rfl rfl rfl rfl (hLM.2.2.1 s _ n n hMI rfl rfl rfl rfl rfl rfl)⟩
    exact ⟨q, 0, fun _ => t, ⟨hHR.1.1, hHR.1.2.1, rfl, Nat.zero_le _⟩, rfl, RX_cp hS.1.2.1 hS.1.2.2.2.1 hRX (fun j hj => cpy0 hj) (fun j hj => cpy0 hj) (fun j hj => cpy0 hj), fun i hi => absurd hi (by omega), fun i hi => absurd hi (by omega)⟩
theorem t_noted2 {s : am_S} {T Q N : Nat} {r t b : Int32} (hN : N ≤ 10) : (q_noted s N r t b = (-1, s) ∧ ∀ S : am_S, SR s S T Q → m_noted S N r t b = (-1, S)) ∨ (q_noted s N r t b = (nI (N + 1), aNote s N r t b) ∧ ∀ S : am_S, SR s S T Q → m_noted S N r t b = (nI (N + 1), up (up (up (up S 60 (3 * N) r) 60 (3 * N + 1) t) 60 (3 * N + 2) b) 39 47 (nI (N + 1)))) := by
  unfold q_noted m_noted
  by_cases h1 : isR s r = false
  · exact Or.inl ⟨if_pos h1, fun S hS => if_pos ((rl_R hS).trans h1)⟩
  · by_cases h2 : isT s t = false
    · exact Or.inl ⟨by rw [if_neg h1, if_pos h2], fun S hS => by rw [rl_R hS, rl_T hS, if_neg h1, if_pos h2]⟩
    · by_cases h3 : N = 10
      · exact Or.inl ⟨by rw [if_neg h1, if_neg h2, if_neg (by omega)], fun S hS => by rw [rl_R hS, rl_T hS, if_neg h1, if_neg h2, if_pos h3]⟩
      · exact Or.inr ⟨by rw [if_neg h1, if_neg h2, if_pos (by omega)], fun S hS => by rw [rl_R hS, rl_T hS, if_neg h1, if_neg h2, if_neg h3]⟩
theorem BO_noted {l : Launch} {g : ag_G} (hx : aw_hx g) {r t b : Int32} (hb : b = 0 ∨ b = 1) : BO l g mi_X11_noted 1 0 0 mi_X12_noted 1 [.int r, .int t, .int b] := by
  rintro s n ⟨T, Q, hRS, hHE, hWR⟩
  obtain ⟨V, MI, hV, hLM, hMI, hB⟩ := WR_use (l := l) hx hWR
  obtain ⟨hS, ⟨N, hN⟩, hI, hkn, ⟨P, pL, pF, hR⟩, E, tx, hT⟩ := id hRS
  rcases t_noted2 (s := s) (T := T) (Q := Q) (r := r) (t := t) (b := b) hN.2.2.1 with ⟨e1, e2⟩ | ⟨e1, e2⟩
  · refine ⟨-1, aw_Mm (c_X11_noted hN.1 hN.2.2.1 hb) ?_⟩
    rintro _ _ ⟨rfl, rfl⟩
    rw [e1]
    refine ⟨rfl, s, n, rfl, aw_Mm (c_m_noted hN.2.1 hN.2.2.1 hb) ?_⟩
    rintro _ _ ⟨rfl, rfl⟩
    rw [e2 (up s 39 0 0) (SR_mv hS (fun _ => rfl) rfl rfl rfl rfl rfl rfl rfl)]
    exact ⟨rfl, up s 39 0 0, n, rfl, q_post hRS hHE hB a1_0 a2_0 b1_0 b2_0 rfl rfl (hLM.2.2.1 s _ n n hMI rfl rfl rfl rfl rfl rfl)⟩
  · refine ⟨nI (N + 1), aw_Mm (c_X11_noted hN.1 hN.2.2.1 hb) ?_⟩
    rintro _ _ ⟨rfl, rfl⟩
    rw [e1]
    refine ⟨rfl, aNote s N r t b, n, rfl, aw_Mm (c_m_noted (s := aNote s N r t b) hN.2.1 hN.2.2.1 hb) ?_⟩
    rintro _ _ ⟨rfl, rfl⟩
    have hS' : SR s (up (aNote s N r t b) 39 0 0) T Q := SR_mv hS (fun _ => rfl) rfl rfl rfl rfl rfl rfl rfl
    obtain ⟨-, N', hN'⟩ := t_noted (r := r) (t := t) (b := b) hS' (show NR s (up (aNote s N r t b) 39 0 0) T Q N from hN) hb
    rw [e1, e2 _ hS'] at hN'
    rw [e2 _ hS']
    exact ⟨rfl, _, n, rfl, T, Q, ⟨SR_mv hS (fun _ => rfl) rfl rfl rfl rfl rfl rfl rfl, ⟨N', hN'⟩, hI, hkn, ⟨P, pL, pF, hR⟩, E, tx, hT⟩, HE_mv hS.1.2.1 hS.1.2.2.2.1 hHE ⟨rfl, rfl, rfl, rfl, rfl⟩ ⟨rfl, rfl, rfl⟩, hB _ _ n rfl rfl rfl rfl rfl rfl (hLM.2.2.1 s _ n n hMI rfl rfl rfl rfl rfl rfl)⟩

