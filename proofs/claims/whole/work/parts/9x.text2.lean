/-! a call on both sides: text that is taken -/
theorem upR_ne {s : am_S} {k k' : Nat} {f : Nat → Int32} (h : ¬ k' = k) : upR s k f k' = s k' := by
  unfold upR
  rw [nbeq h]
  rfl
theorem ap_old {α : Type} {W : List α} {x y : α} {j : Nat} (h : W[j]? = some y) : (W ++ [x])[j]? = some y := by
  have hj : j < W.length := by
    rcases Nat.lt_or_ge j W.length with q | q
    · exact q
    · rw [List.getElem?_eq_none q] at h; cases h
  rw [List.getElem?_append_left hj]
  exact h
theorem ap_new {α : Type} {W : List α} {x : α} : (W ++ [x])[W.length]? = some x := by
  rw [List.getElem?_append_right (Nat.le_refl _), Nat.sub_self]
  rfl
theorem BO_text_king {l : Launch} {g : ag_G} (hx : aw_hx g) {s : am_S} {n : am_N} {T Q E K P : Nat} {pL : Nat → Nat} {pF : Nat → Nat → Int32} {tx : Nat → Nat} {r1 : Rl} {Kg : Kd} (hRS : RS g s s n T Q) (hHE : HE s s T Q) (hWR : WR g s s n) (hR : RR g s s n P pL pF) (hT : TR s s E tx) (hr1 : LW tx E r1) (hf : kgR tx E = .ok Kg) : aw_M l g mi_X11_text 30 1 240 [.ref (g_ad g 0), .int 0] (hp g s n) (fun r w => r = some (.int (nI Kg.2.1)) ∧ ∃ s1 n1, w = hp g s1 n1 ∧ aw_M l g mi_X12_text 33 0 0 [.ref (g_ad g 39), .int 0] (hp g s1 n1) (fun r w => r = some (.int (nI Kg.2.1)) ∧ ∃ s2 n2, w = hp g s2 n2 ∧ REL g s2 s2 n2)) := by
  obtain ⟨V, MI, hV, hLM, hMI, hB⟩ := WR_use (l := l) hx hWR
  obtain ⟨K', Ls, hLs, hM, -⟩ := hWR
  obtain ⟨hbd, hO⟩ := kgR_bd hf
  refine aw_Mm (c_X11_text_king hx hT.1 hr1 hf) ?_
  rintro _ _ ⟨rfl, s', rfl, e, hKC⟩
  obtain ⟨s1, hs1⟩ : ∃ s1 : am_S, s1 = up (bgS s' Kg.2.1 Kg.2.2.1) 1 1 0 := ⟨_, rfl⟩
  rw [← hs1]
  have hb1 := b1_skL e
  have hm3' := m3_skL e
  have hb1' : b1 s' s1 := by rw [hs1]; exact ⟨rfl, rfl, rfl, rfl, rfl, rfl, rfl, rfl, rfl, rfl, rfl, rfl, fun _ _ => rfl, fun _ _ => rfl, rfl, rfl⟩
  have hm3 : m3 s s1 := m3_t hm3' (by rw [hs1]; exact ⟨rfl, rfl, rfl, rfl, rfl⟩)
  have hb1s := b1_t hb1 hb1'
  have hTb := TR_mv hT a1_r hb1s
  refine ⟨rfl, s1, n, rfl, aw_Mm (c_m_text_king hx hT.1.2.1 hTb.2.1 (fun i hi => ⟨(hT.1.2.2 i hi).2.1, hTb.2.2 i hi⟩) (fun i hi => by rw [hm3.2.2.2.2]; exact MIx_b hM i hi) hr1 hf) ?_⟩
  rintro _ _ ⟨rfl, s2, n2, rfl, e2, en2, hn2, hKR⟩
  refine ⟨rfl, tKg s2 Kg.2.1 Kg.2.2.1, n2, rfl, ?_⟩
  obtain ⟨hSR, hRX⟩ := king_SR hKC hKR hbd hO
  have hb2 := b1_t (b1_t hb1s b1_0) (b1_skU e2)
  have hm4 := m3_t (m3_t hm3 m3_0) (m3_skU e2)
  have ha : ∀ k, k < 39 → s2 k = s1 k := by
    intro k hk
    have h0 : up s1 39 0 0 k = s1 k := up_n (nbeq (by omega))
    refine Eq.trans ?_ h0
    refine eo_cell e2 k (fun j => ?_)
    unfold skU skT skR skG skK
    simp only [nbeq (show ¬ k = 39 by omega), nbeq (show ¬ k = 45 by omega), nbeq (show ¬ k = 47 by omega), nbeq (show ¬ k = 49 by omega), nbeq (show ¬ k = 50 by omega), nbeq (show ¬ k = 51 by omega), Bool.false_and, Bool.or_self]
  have hk : ∀ k, k < 39 → tKg s2 Kg.2.1 Kg.2.2.1 k = s1 k := by
    intro k hk
    have h0 : tKg s2 Kg.2.1 Kg.2.2.1 k = s2 k := by
      unfold tKg tK4 tK3 tK2 tK1
      rw [up_n (nbeq (by omega)), up_n (nbeq (by omega)), up_n (nbeq (by omega)), upR_ne (by omega), upR_ne (by omega), upR_ne (by omega), upR_ne (by omega), up_n (nbeq (by omega)), up_n (nbeq (by omega)), up_n (nbeq (by omega))]
    exact h0.trans (ha k hk)
  have hk15 := hk 15 (by decide)
  have hk16 := hk 16 (by decide)
  have hq21 := hk 21 (by decide)
  obtain ⟨q, a, tt, hHR⟩ := hHE
  refine ⟨Kg.2.1, Kg.2.2.1, ⟨?_, ⟨0, ?_⟩, ?_, ?_, ⟨P, pL, pF, ?_⟩, 0, tx, ?_⟩, ⟨q, 0, fun _ => 0, ?_⟩, ?_⟩
  · refine SR_mv hSR (fun j => ?_) ?_ ?_ ?_ rfl rfl rfl rfl
    · rw [hk15, hs1]; rfl
    · rw [hk 18 (by decide), hs1]; rfl
    · rw [hk 19 (by decide), hs1]; rfl
    · rw [hk 20 (by decide), hs1]; rfl
  · refine ⟨?_, rfl, by decide, fun i hi => absurd hi (by omega)⟩
    rw [hk 32 (by decide), hs1]; rfl
  · refine ⟨?_, Or.inl rfl⟩
    rw [hq21, hs1]; rfl
  · rw [hk 0 (by decide), hs1]
    show s' 0 7 = s2 39 35
    rw [hb2.2.2.2.2.2.2.1, e 0 7 rfl]
    exact hRS.2.2.2.1
  · refine RR_k hR ?_ (show s2 39 30 = s 39 30 from hb2.2.2.2.2.1) (fun j hj => hb2.2.2.2.2.2.2.2.2.2.2.2.2.1 j hj) (fun j hj => hb2.2.2.2.2.2.2.2.2.2.2.2.2.2.1 j hj) (by rw [en2.2.1]) (fun j x hj => by rw [en2.2.2]; exact hj)
    rw [hk 0 (by decide), hs1]
    exact e 0 6 rfl
  · refine ⟨⟨?_, by decide, fun i hi => absurd hi (by omega)⟩, rfl, fun i hi => absurd hi (by omega)⟩
    rw [hk 1 (by decide), hs1]; rfl
  · refine ⟨⟨?_, hHR.1.2.1, ?_, Nat.zero_le _⟩, rfl, ?_, fun i hi => absurd hi (by omega), fun i hi => absurd hi (by omega)⟩
    · rw [hq21, hs1]
      exact (e 21 3 rfl).trans hHR.1.1
    · rw [hq21, hs1]; rfl
    · have := hRX (tKg s2 Kg.2.1 Kg.2.2.1 22)
      rw [hk16, hs1]
      exact this
  · refine hB _ _ n2 ?_ ?_ en2.2.1 en2.2.2 hm4.2.2.2.1 hb2.2.2.2.2.2.1 ?_
    · rw [hk 10 (by decide), hs1]; exact e 10 3 rfl
    · rw [hk 10 (by decide), hs1]; exact e 10 4 rfl
    · exact hLM.2.2.1 s _ n n2 hMI hm4.1 hm4.2.1 hm4.2.2.1 hm4.2.2.2.1 hm4.2.2.2.2 (by rw [hn2])
theorem BO_text_law {l : Launch} {g : ag_G} (hx : aw_hx g) (hz : aw_hz g) {s : am_S} {n : am_N} {T Q E K P : Nat} {pL : Nat → Nat} {pF : Nat → Nat → Int32} {tx : Nat → Nat} {L : List (Ex × Ex)} {Ls : Nat → List (Ex × Ex)} (hRS : RS g s s n T Q) (hHE : HE s s T Q) (hLs : LWs g s n K Ls) (hM : MIx (fun k => vL (Ls k)) K s n) (h7 : s 39 7 = nI K) (h34 : s 39 34 = s 10 4) (hc : s 10 4 = -1 ∨ ∃ k, k < K ∧ s 10 4 = nI k) (hR : RR g s s n P pL pF) (hT : TR s s E tx) (hr1 : LW tx E (.ok L)) (hK4 : K < 4) : aw_M l g mi_X11_text 30 1 240 [.ref (g_ad g 0), .int 1] (hp g s n) (fun r w => r = some (.int (nI K)) ∧ ∃ s1 n1, w = hp g s1 n1 ∧ aw_M l g mi_X12_text 33 0 0 [.ref (g_ad g 39), .int 1] (hp g s1 n1) (fun r w => r = some (.int (nI K)) ∧ ∃ s2 n2, w = hp g s2 n2 ∧ REL g s2 s2 n2)) := by
  refine aw_Mm (c_X11_text_law hx hz hT.1 hr1 hLs.1 hK4) ?_
  rintro _ _ ⟨rfl, s', q0, f, len, rfl, e, hlen, hCL⟩
  obtain ⟨s1, hs1⟩ : ∃ s1 : am_S, s1 = up (up s' 1 1 0) 10 3 (nI (K + 1)) := ⟨_, rfl⟩
  obtain ⟨n1, hn1⟩ : ∃ n1 : am_N, n1 = upQ (upW n (n.2.2.2 ++ [(q0, .inl (g_ca g 0, len, .inl f))])) 11 K (some q0) := ⟨_, rfl⟩
  rw [← hs1, ← hn1]
  have hb1 := b1_skL e
  have hb1' : b1 s' s1 := by rw [hs1]; exact ⟨rfl, rfl, rfl, rfl, rfl, rfl, rfl, rfl, rfl, rfl, rfl, rfl, fun _ _ => rfl, fun _ _ => rfl, rfl, rfl⟩
  have hb1s := b1_t hb1 hb1'
  have hb2s : b2 s s1 := b2_t (b2_skL e) (by rw [hs1]; exact ⟨rfl, rfl, rfl⟩)
  have hm3 : m3 s s1 := m3_t (m3_skL e) (by rw [hs1]; exact ⟨rfl, rfl, rfl, rfl, rfl⟩)
  have hTb := TR_mv hT a1_r hb1s
  refine ⟨rfl, s1, n1, rfl, aw_Mm (c_m_text_law hx hT.1.2.1 hTb.2.1 (fun i hi => ⟨(hT.1.2.2 i hi).2.1, hTb.2.2 i hi⟩) (fun i hi => by rw [hm3.2.2.2.2]; exact MIx_b hM i hi) hr1 (K := K) (hb1s.2.1.trans h7) hK4 rfl) ?_⟩
  rintro _ _ ⟨rfl, s2, n2, rfl, e2, en2, hn2⟩
  refine ⟨rfl, tLw s2 K E, n2, rfl, ?_⟩
  have hb2 := b1_t (b1_t hb1s b1_0) (b1_skU e2)
  have hbb := b2_t (b2_t hb2s b2_0) (b2_skU e2)
  have hm4 := m3_t (m3_t hm3 m3_0) (m3_skU e2)
  have ha1 := a1_t (a1_0 (s := s1)) (a1_skU e2)
  have ha2 := a2_t (a2_0 (s := s1)) (a2_skU e2)
  have hL2 : n2.2.2.2 = n.2.2.2 ++ [(q0, .inl (g_ca g 0, len, .inl f))] := by rw [en2.2.2, hn1]; rfl
  have hq2 : n2.2.1 = fun k' => cond (Nat.beq k' 11) (va_up (n.2.1 11) K (some q0)) (n.2.1 k') := by rw [en2.2.1, hn1]; rfl
  have hn54 : n2.1 = n.1 := by rw [hn2, hn1]; rfl
  obtain ⟨hS, ⟨N, hN⟩, hI, hkn, -⟩ := id hRS
  have c1 : ∀ k j, k < 39 → (k ≠ 1 ∨ j ≠ 1) → (k ≠ 10 ∨ j ≠ 3) → (skL k j = false) → tLw s2 K E k j = s k j := by
    intro k j hk h1 h10 hsk
    have h0 : tLw s2 K E k = s2 k := by
      unfold tLw
      rw [up_n (nbeq (by omega)), up_n (nbeq (by omega)), upR_ne (by omega), up_n (nbeq (by omega))]
    have h2 : s2 k j = s1 k j := by
      have h0 : up s1 39 0 0 k j = s1 k j := congrFun (up_n (nbeq (by omega))) j
      refine Eq.trans (e2 k j ?_) h0
      unfold skU skT skR skG skK
      simp only [nbeq (show ¬ k = 39 by omega), nbeq (show ¬ k = 45 by omega), nbeq (show ¬ k = 47 by omega), nbeq (show ¬ k = 49 by omega), nbeq (show ¬ k = 50 by omega), nbeq (show ¬ k = 51 by omega), Bool.false_and, Bool.or_self]
    rw [h0, h2, hs1]
    have h3 : ∀ (u : am_S) (a b : Nat) (v : Int32), (k ≠ a ∨ j ≠ b) → up u a b v k j = u k j := by
      intro u a b v hab
      by_cases ea : k = a
      · subst ea
        rw [up_s, if_neg (by omega)]
      · rw [up_e (nbeq ea)]
    rw [h3 _ 10 3 _ h10, h3 _ 1 1 _ h1]
    exact e k j hsk
  have cF : ∀ k, k < 39 → k ≠ 1 → k ≠ 10 → (∀ j, skL k j = false) → tLw s2 K E k = s k := fun k hk h1 h10 hsk => funext fun j => c1 k j hk (Or.inl h1) (Or.inl h10) (hsk j)
  refine ⟨T, Q, ⟨?_, ⟨N, ?_⟩, ?_, ?_, ⟨P, pL, pF, ?_⟩, 0, tx, ?_⟩, ?_, K + 1, fun k => if k = K then L else Ls k, ?_, ?_, rfl, ?_, ?_⟩
  · exact SR_mv hS (fun j => congrFun (cF 15 (by decide) (by decide) (by decide) (fun _ => rfl)) j) (cF 18 (by decide) (by decide) (by decide) (fun _ => rfl)) (cF 19 (by decide) (by decide) (by decide) (fun _ => rfl)) (cF 20 (by decide) (by decide) (by decide) (fun _ => rfl)) hb2.2.2.1 hb2.2.2.2.1 hb2.2.2.2.2.2.2.2.2.2.2.1 hb2.2.2.2.2.2.2.2.2.2.2.2.1
  · unfold NR at hN ⊢
    rw [cF 32 (by decide) (by decide) (by decide) (fun _ => rfl), cF 33 (by decide) (by decide) (by decide) (fun _ => rfl), cF 34 (by decide) (by decide) (by decide) (fun _ => rfl), cF 35 (by decide) (by decide) (by decide) (fun _ => rfl), show tLw s2 K E 39 47 = s 39 47 from hb2.2.2.2.2.2.2.2.1, show tLw s2 K E 60 = s 60 from hb2.2.2.2.2.2.2.2.2.2.2.2.2.2.2.1]
    exact hN
  · unfold IR at hI ⊢
    rw [cF 21 (by decide) (by decide) (by decide) (fun _ => rfl), cF 25 (by decide) (by decide) (by decide) (fun _ => rfl), cF 26 (by decide) (by decide) (by decide) (fun _ => rfl), show tLw s2 K E 39 49 = s 39 49 from hb2.2.2.2.2.2.2.2.2.1, show tLw s2 K E 61 = s 61 from hb2.2.2.2.2.2.2.2.2.2.2.2.2.2.2.2]
    exact hI
  · rw [cF 0 (by decide) (by decide) (by decide) (fun _ => rfl), show tLw s2 K E 39 35 = s 39 35 from hb2.2.2.2.2.2.2.1]
    exact hkn
  · refine RR_k hR (congrFun (cF 0 (by decide) (by decide) (by decide) (fun _ => rfl)) 6) hb2.2.2.2.2.1 (fun j hj => hb2.2.2.2.2.2.2.2.2.2.2.2.2.1 j hj) (fun j hj => hb2.2.2.2.2.2.2.2.2.2.2.2.2.2.1 j hj) (by rw [hq2]; rfl) (fun j x hj => by rw [hL2]; exact ap_old hj)
  · refine ⟨⟨?_, by decide, fun i hi => absurd hi (by omega)⟩, rfl, fun i hi => absurd hi (by omega)⟩
    have : tLw s2 K E 1 1 = s1 1 1 := ha1.2.2.1
    rw [this, hs1]; rfl
  · exact HE_mv hS.1.2.1 hS.1.2.2.2.1 hHE ⟨cF 16 (by decide) (by decide) (by decide) (fun _ => rfl), cF 22 (by decide) (by decide) (by decide) (fun _ => rfl), cF 24 (by decide) (by decide) (by decide) (fun _ => rfl), congrFun (cF 21 (by decide) (by decide) (by decide) (fun _ => rfl)) 3, congrFun (cF 21 (by decide) (by decide) (by decide) (fun _ => rfl)) 4⟩ hbb
  · obtain ⟨g1, g2, g3⟩ := hLs
    refine ⟨?_, by omega, fun k hk => ?_⟩
    · have : tLw s2 K E 10 3 = s1 10 3 := ha1.2.2.2.2.1
      rw [this, hs1]; rfl
    · by_cases ek : k = K
      · subst ek
        dsimp only
        rw [if_pos rfl]
        refine ⟨LW_ag hr1, n.2.2.2.length, q0, len, f, by rw [hL2]; exact ap_new, hlen, hCL, ?_⟩
        rw [hq2]
        exact if_pos rfl
      · dsimp only
        rw [if_neg ek]
        obtain ⟨k1, j, a, ln, f', k2, k3, k4, k5⟩ := g3 k (by omega)
        refine ⟨k1, j, a, ln, f', by rw [hL2]; exact ap_old k2, k3, k4, ?_⟩
        rw [hq2]
        exact (if_neg ek).trans k5
  · obtain ⟨K2, r1, r2, r3, r4, r5, r6⟩ := hM
    have hK2 : K2 = K := (nI_eq (by omega) (by omega)).mp (r3.symm.trans h7)
    subst hK2
    have e41 : s2 41 = s 41 := hm4.1
    have e42 : s2 42 = s 42 := hm4.2.1
    have e55 : s2 55 = s 55 := hm4.2.2.1
    have e43 : s2 43 = s 43 := hm4.2.2.2.2
    have e40 : s2 40 = s 40 := hb2.2.2.2.2.2.2.2.2.2.1
    have t43 : tLw s2 K2 E 43 = s2 43 := rfl
    have t55 : tLw s2 K2 E 55 = s2 55 := rfl
    have t41 : tLw s2 K2 E 41 = va_cpy (s2 40) (s2 41) 0 (240 * K2) E := rfl
    have t42 : tLw s2 K2 E 42 = upd (s2 42) K2 (nI E) := rfl
    refine ⟨K2 + 1, by omega, Nat.le_refl _, rfl, by rw [t43, e43]; exact r4, fun k hk => ?_, fun sp hsp k a b c d e' f' hk ha hb hc' hd he hf' hn => ?_⟩
    · by_cases ek : k = K2
      · subst ek
        refine ⟨E, tx, L, hT.1.2.1, ?_, fun i hi => ⟨(hT.1.2.2 i hi).2.1, ?_⟩, hr1, by dsimp only; rw [if_pos rfl]⟩
        · rw [t42, upd_s]
        · rw [t41, pk_cpy_in (by omega) (by omega), e40, show 0 + (240 * k + i - 240 * k) = i by omega]
          exact hT.2.2 i hi
      · obtain ⟨E', tx', L', q1, q2, q3, q4, q5⟩ := r5 k (by omega)
        refine ⟨E', tx', L', q1, ?_, fun i hi => ⟨(q3 i hi).1, ?_⟩, q4, by dsimp only; rw [if_neg ek]; exact q5⟩
        · rw [t42, upd_n ek, e42]; exact q2
        · rw [t41, pk_cpy_out (by omega), e41]; exact (q3 i hi).2
    · rw [hn54] at hn
      obtain ⟨p1, p2⟩ := r6 sp hsp k a b c d e' f' hk ha hb hc' hd he hf' hn
      refine ⟨by omega, ?_⟩
      dsimp only
      rw [t55, e55, if_neg (show ¬ k = K2 by omega)]
      exact p2
  · have x1 : tLw s2 K E 39 34 = s 39 34 := hb2.2.2.2.2.2.1
    rw [x1, c1 10 4 (by decide) (Or.inl (by decide)) (Or.inr (by decide)) rfl]
    exact h34
  · rw [c1 10 4 (by decide) (Or.inl (by decide)) (Or.inr (by decide)) rfl]
    rcases hc with hc | ⟨k, hk, hc⟩
    · exact Or.inl hc
    · exact Or.inr ⟨k, by omega, hc⟩

