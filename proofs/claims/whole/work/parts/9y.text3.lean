/-! a call on both sides: a reign is told; text; thing -/
theorem BO_text_reign {l : Launch} {g : ag_G} (hx : aw_hx g) (hz : aw_hz g) {s : am_S} {n : am_N} {T Q E P : Nat} {pL : Nat → Nat} {pF : Nat → Nat → Int32} {tx : Nat → Nat} {r1 : Rl} {z : Nat × (Nat → Int32)} (hRS : RS g s s n T Q) (hHE : HE s s T Q) (hWR : WR g s s n) (hR : RR g s s n P pL pF) (hT : TR s s E tx) (hr1 : LW tx E r1) (hf : rgR tx E = .ok z) (hP4 : P < 4) : aw_M l g mi_X11_text 30 1 240 [.ref (g_ad g 0), .int 2] (hp g s n) (fun r w => r = some (.int (nI P)) ∧ ∃ s1 n1, w = hp g s1 n1 ∧ aw_M l g mi_X12_text 33 0 0 [.ref (g_ad g 39), .int 2] (hp g s1 n1) (fun r w => r = some (.int (nI P)) ∧ ∃ s2 n2, w = hp g s2 n2 ∧ REL g s2 s2 n2)) := by
  obtain ⟨K, Ls, hLs, hM, h7, h34, hc⟩ := hWR
  have hkind := rgL_k _ _ _ _ _ hf (fun i hi => absurd hi (by omega))
  refine aw_Mm (c_X11_text_reign hx hz hT.1 hf hR.1.1 hP4) ?_
  rintro _ _ ⟨rfl, s', q0, f, rfl, e, hz16, hzf⟩
  obtain ⟨s1, hs1⟩ : ∃ s1 : am_S, s1 = up (up s' 1 1 0) 0 6 (nI (P + 1)) := ⟨_, rfl⟩
  obtain ⟨n1, hn1⟩ : ∃ n1 : am_N, n1 = upQ (upW n (n.2.2.2 ++ [(q0, .inl (g_ca g 0, 3 * z.1, .inl f))])) 14 P (some q0) := ⟨_, rfl⟩
  rw [← hs1, ← hn1]
  have hb1 := b1_skL e
  have hb1' : b1 s' s1 := by rw [hs1]; exact ⟨rfl, rfl, rfl, rfl, rfl, rfl, rfl, rfl, rfl, rfl, rfl, rfl, fun _ _ => rfl, fun _ _ => rfl, rfl, rfl⟩
  have hb1s := b1_t hb1 hb1'
  have hb2s : b2 s s1 := b2_t (b2_skL e) (by rw [hs1]; exact ⟨rfl, rfl, rfl⟩)
  have hm3 : m3 s s1 := m3_t (m3_skL e) (by rw [hs1]; exact ⟨rfl, rfl, rfl, rfl, rfl⟩)
  have hTb := TR_mv hT a1_r hb1s
  refine ⟨rfl, s1, n1, rfl, aw_Mm (c_m_text_reign hx hT.1.2.1 hTb.2.1 (fun i hi => ⟨(hT.1.2.2 i hi).2.1, hTb.2.2 i hi⟩) (fun i hi => by rw [hm3.2.2.2.2]; exact MIx_b hM i hi) hr1 (P := P) (hb1s.2.2.2.2.1.trans hR.2.1) hP4 hf) ?_⟩
  rintro _ _ ⟨rfl, s2, n2, rfl, e2, en2, hn2, h51, h50⟩
  refine ⟨rfl, tRg s2 P, n2, rfl, ?_⟩
  have hb2 := b1_t (b1_t hb1s b1_0) (b1_skU e2)
  have hbb := b2_t (b2_t hb2s b2_0) (b2_skU e2)
  have hm4 := m3_t (m3_t hm3 m3_0) (m3_skU e2)
  have ha1 := a1_t (a1_0 (s := s1)) (a1_skU e2)
  have hL2 : n2.2.2.2 = n.2.2.2 ++ [(q0, .inl (g_ca g 0, 3 * z.1, .inl f))] := by rw [en2.2.2, hn1]; rfl
  have hq2 : n2.2.1 = fun k' => cond (Nat.beq k' 14) (va_up (n.2.1 14) P (some q0)) (n.2.1 k') := by rw [en2.2.1, hn1]; rfl
  have hn54 : n2.1 = n.1 := by rw [hn2, hn1]; rfl
  obtain ⟨hS, ⟨N, hN⟩, hI, hkn, -⟩ := id hRS
  have c1 : ∀ k j, k < 39 → (k ≠ 1 ∨ j ≠ 1) → (k ≠ 0 ∨ j ≠ 6) → (skL k j = false) → tRg s2 P k j = s k j := by
    intro k j hk h1 h10 hsk
    have h0 : tRg s2 P k = s2 k := by
      unfold tRg
      rw [up_n (nbeq (by omega)), up_n (nbeq (by omega)), upR_ne (by omega), up_n (nbeq (by omega))]
    have h2 : s2 k j = s1 k j := by
      have h0 : up s1 39 0 0 k j = s1 k j := congrFun (up_n (nbeq (by omega))) j
      refine Eq.trans (e2 k j ?_) h0
      unfold skU skT skR skG skK
      simp only [nbeq (show ¬ k = 39 by omega), nbeq (show ¬ k = 45 by omega), nbeq (show ¬ k = 47 by omega), nbeq (show ¬ k = 49 by omega), nbeq (show ¬ k = 50 by omega), nbeq (show ¬ k = 51 by omega), Bool.false_and, Bool.or_self]
    rw [h0, h2, hs1]
    have h3 : ∀ (u : am_S) (a b : Nat) (v : Int32), (k ≠ a ∨ j ≠ b) → up u a b v k j = u k j := by
      intro u a b v hab
      by_cases ea : k = a
      · subst ea
        rw [up_s, if_neg (by omega)]
      · rw [up_e (nbeq ea)]
    rw [h3 _ 0 6 _ h10, h3 _ 1 1 _ h1]
    exact e k j hsk
  have cF : ∀ k, k < 39 → k ≠ 1 → k ≠ 0 → (∀ j, skL k j = false) → tRg s2 P k = s k := fun k hk h1 h10 hsk => funext fun j => c1 k j hk (Or.inl h1) (Or.inl h10) (hsk j)
  have e50 : tRg s2 P 50 = va_cpy (s2 50) (s2 50) 192 (48 * P) 48 := rfl
  have e51 : tRg s2 P 51 = upd (s2 51) P (s2 51 4) := rfl
  refine ⟨T, Q, ⟨?_, ⟨N, ?_⟩, ?_, ?_, ⟨P + 1, fun q => if q = P then z.1 else pL q, fun q => if q = P then z.2 else pF q, ?_⟩, 0, tx, ?_⟩, ?_, K, Ls, ?_, ?_, ?_, ?_, ?_⟩
  · exact SR_mv hS (fun j => congrFun (cF 15 (by decide) (by decide) (by decide) (fun _ => rfl)) j) (cF 18 (by decide) (by decide) (by decide) (fun _ => rfl)) (cF 19 (by decide) (by decide) (by decide) (fun _ => rfl)) (cF 20 (by decide) (by decide) (by decide) (fun _ => rfl)) hb2.2.2.1 hb2.2.2.2.1 hb2.2.2.2.2.2.2.2.2.2.2.1 hb2.2.2.2.2.2.2.2.2.2.2.2.1
  · unfold NR at hN ⊢
    rw [cF 32 (by decide) (by decide) (by decide) (fun _ => rfl), cF 33 (by decide) (by decide) (by decide) (fun _ => rfl), cF 34 (by decide) (by decide) (by decide) (fun _ => rfl), cF 35 (by decide) (by decide) (by decide) (fun _ => rfl), show tRg s2 P 39 47 = s 39 47 from hb2.2.2.2.2.2.2.2.1, show tRg s2 P 60 = s 60 from hb2.2.2.2.2.2.2.2.2.2.2.2.2.2.2.1]
    exact hN
  · unfold IR at hI ⊢
    rw [cF 21 (by decide) (by decide) (by decide) (fun _ => rfl), cF 25 (by decide) (by decide) (by decide) (fun _ => rfl), cF 26 (by decide) (by decide) (by decide) (fun _ => rfl), show tRg s2 P 39 49 = s 39 49 from hb2.2.2.2.2.2.2.2.2.1, show tRg s2 P 61 = s 61 from hb2.2.2.2.2.2.2.2.2.2.2.2.2.2.2.2]
    exact hI
  · rw [c1 0 7 (by decide) (Or.inl (by decide)) (Or.inr (by decide)) rfl, show tRg s2 P 39 35 = s 39 35 from hb2.2.2.2.2.2.2.1]
    exact hkn
  · obtain ⟨⟨g1, g2, g3⟩, g4, g5⟩ := hR
    refine ⟨⟨?_, by omega, fun q hq => ?_⟩, rfl, fun q hq => ?_⟩
    · have : tRg s2 P 0 6 = s1 0 6 := ha1.1
      rw [this, hs1]; rfl
    · by_cases eq : q = P
      · subst eq
        dsimp only
        rw [if_pos rfl, if_pos rfl]
        refine ⟨hz16, n.2.2.2.length, q0, f, ?_, by rw [hL2]; exact ap_new, hzf⟩
        rw [hq2]
        exact if_pos rfl
      · dsimp only
        rw [if_neg eq, if_neg eq]
        obtain ⟨k1, j, a, f', k2, k3, k4⟩ := g3 q (by omega)
        refine ⟨k1, j, a, f', ?_, by rw [hL2]; exact ap_old k3, k4⟩
        rw [hq2]
        exact (if_neg eq).trans k2
    · by_cases eq : q = P
      · subst eq
        dsimp only
        rw [if_pos rfl, if_pos rfl]
        refine ⟨by rw [e51, upd_s]; exact h51, fun i hi => ⟨fun x hx => ?_, hkind i hi⟩⟩
        rw [e50, pk_cpy_in (by omega) (by omega), show 192 + (3 * (16 * q + i) + x - 48 * q) = 192 + (3 * i + x) by omega]
        exact h50 _ (by omega)
      · dsimp only
        rw [if_neg eq, if_neg eq]
        obtain ⟨k1, k2⟩ := g5 q (by omega)
        have h16 := (g3 q (by omega)).1
        refine ⟨by rw [e51, upd_n eq]; exact (hb2.2.2.2.2.2.2.2.2.2.2.2.2.2.1 q (by omega)).trans k1, fun i hi => ⟨fun x hx => ?_, (k2 i hi).2⟩⟩
        rw [e50, pk_cpy_out (by omega)]
        exact (hb2.2.2.2.2.2.2.2.2.2.2.2.2.1 _ (by omega)).trans ((k2 i hi).1 x hx)
  · refine ⟨⟨?_, by decide, fun i hi => absurd hi (by omega)⟩, rfl, fun i hi => absurd hi (by omega)⟩
    have : tRg s2 P 1 1 = s1 1 1 := ha1.2.2.1
    rw [this, hs1]; rfl
  · exact HE_mv hS.1.2.1 hS.1.2.2.2.1 hHE ⟨cF 16 (by decide) (by decide) (by decide) (fun _ => rfl), cF 22 (by decide) (by decide) (by decide) (fun _ => rfl), cF 24 (by decide) (by decide) (by decide) (fun _ => rfl), congrFun (cF 21 (by decide) (by decide) (by decide) (fun _ => rfl)) 3, congrFun (cF 21 (by decide) (by decide) (by decide) (fun _ => rfl)) 4⟩ hbb
  · exact LWs_k hLs (c1 10 3 (by decide) (Or.inl (by decide)) (Or.inl (by decide)) rfl) (by rw [hq2]; rfl) (fun j x hj => by rw [hL2]; exact ap_old hj)
  · obtain ⟨K2, r1', r2, r3, r4, r5, r6⟩ := hM
    have t43 : tRg s2 P 43 = s 43 := hm4.2.2.2.2
    have t55 : tRg s2 P 55 = s 55 := hm4.2.2.1
    have t41 : tRg s2 P 41 = s 41 := hm4.1
    have t42 : tRg s2 P 42 = s 42 := hm4.2.1
    have t7 : tRg s2 P 39 7 = s 39 7 := hm4.2.2.2.1
    refine ⟨K2, r1', r2, t7.trans r3, by rw [t43]; exact r4, by rw [t42, t41]; exact r5, by rw [t55, hn54]; exact r6⟩
  · have t7 : tRg s2 P 39 7 = s 39 7 := hm4.2.2.2.1
    exact t7.trans h7
  · have x1 : tRg s2 P 39 34 = s 39 34 := hb2.2.2.2.2.2.1
    rw [x1, c1 10 4 (by decide) (Or.inl (by decide)) (Or.inl (by decide)) rfl]
    exact h34
  · rw [c1 10 4 (by decide) (Or.inl (by decide)) (Or.inl (by decide)) rfl]
    exact hc
theorem BO_text {l : Launch} {g : ag_G} (hx : aw_hx g) (hz : aw_hz g) {x : Int32} : BO l g mi_X11_text 30 1 240 mi_X12_text 33 [.int x] := by
  rintro s n ⟨T, Q, hRS, hHE, hWR⟩
  obtain ⟨hS, ⟨N, hN⟩, hI, hkn, ⟨P, pL, pF, hR⟩, E, tx, hT⟩ := id hRS
  obtain ⟨K, Ls, hLs, hM, h7, h34, hc⟩ := id hWR
  obtain ⟨r1, hr1⟩ := LW_ex tx E
  have hE4 := hT.1.2.1
  by_cases hok : inn x.toInt64 0 2 = true ∧ (x = 1 → ¬ K = 4) ∧ (x = 2 → ¬ P = 4) ∧ fVal tx E r1 x = -1
  · obtain ⟨o1', o2', o3', o4'⟩ := hok
    obtain ⟨j, hj, rfl⟩ := (inn_0 (M := 2) (by decide) (by decide)).mp o1'
    match j, hj with
    | 0, _ =>
      obtain ⟨Kg, hKg⟩ := exI_ok (r := kgR tx E) (fun f hf => by have := kgL_e _ _ _ _ (Nat.zero_le _) ⟨by decide, by decide⟩ hf; omega) o4'
      exact ⟨_, BO_text_king (K := K) hx hRS hHE hWR hR hT hr1 hKg⟩
    | 1, _ =>
      obtain ⟨L, hL⟩ := exI_ok (r := r1) (fun f hf => by have := LW_e hr1 hf; omega) o4'
      rw [hL] at hr1
      have hK := hLs.2.1
      exact ⟨_, BO_text_law hx hz hRS hHE hLs hM h7 h34 hc hR hT hr1 (by have := o2' rfl; omega)⟩
    | 2, _ =>
      obtain ⟨z, hz'⟩ := exI_ok (r := rgR tx E) (fun f hf => by have := rgL_e _ _ _ _ _ (Nat.zero_le _) hf; omega) o4'
      have hP := hR.1.2.1
      exact ⟨_, BO_text_reign hx hz hRS hHE hWR hR hT hr1 hz' (by have := o3' rfl; omega)⟩
  · exact ⟨-1, BO_text_no (N := N) hx hRS hHE hWR hR hT hLs.1 hLs.2.1 h7 hr1 hok⟩
theorem c_m_thrown {l : Launch} {g : ag_G} {s : am_S} {n : am_N} : aw_F l g mi_X12_thrown 0 [.ref (g_ad g 39)] (hp g s n) (.int (s 39 0)) (hp g s n) := by
  refine aw_F_of mo_X12_thrown (by decide) (Nat.le_of_ble_eq_true rfl) ?_
  refine aw_aload_n rfl rfl ?_
  refine pg_39_0 rfl kl_X12_96 ?_
  exact aw_fi rfl rfl rfl rfl
theorem BT_thing {l : Launch} {g : ag_G} (hl : l.stackTraces = false) (ht : aw_ht g) (hx : aw_hx g) {t x : Int32} {s : am_S} {n : am_N} (hREL : REL g s s n) : ∃ k b : Int32, (k = 0 ∨ k = 1) ∧ Met l (m_y mi_L_thing) wsLt (aw_rm 7 1 6) (aw_Pc g [.ref (g_ad g 0), .int t, .int x, .ref (g_ad g 62)] (hp g s n)) (aw_Q g (fun r w => r = some (.int k) ∧ ∃ s1 n1, w = hp g s1 n1 ∧ aw_M l g mi_X12_thing 102 0 0 [.ref (g_ad g 39), .int t, .int x] (hp g s1 n1) (fun r w => r = some (.int b) ∧ ∃ s2 n2, w = hp g s2 n2 ∧ REL g s2 s2 n2 ∧ s2 39 0 = k ∧ (k = 0 → n2.1 62 0 = b.toInt64)))) 1 6 (aw_A g) := by
  obtain ⟨T, Q, hRS, ⟨q, a, tt, hHR⟩, hWR⟩ := hREL
  obtain ⟨V, MI, hV, hLM, hMI, hB⟩ := WR_use (l := l) hx hWR
  obtain ⟨hS, ⟨N, hN⟩, hI, hkn, ⟨P, pL, pF, hR⟩, E, tx, hT⟩ := id hRS
  have hV0 := hV n rfl rfl
  have hL := c_L_thing hl ht hx hS.1 hV0 (t := t) (x := x)
  have hmono : ∀ {R' : Option Value → va_W → Prop}, (∀ r w, q_Lt g V s n t x r w → R' r w) → Met l (m_y mi_L_thing) wsLt (aw_rm 7 1 6) (aw_Pc g [.ref (g_ad g 0), .int t, .int x, .ref (g_ad g 62)] (hp g s n)) (aw_Q g R') 1 6 (aw_A g) := by
    intro R' hq p e ha hc hk s0 m args below hf happ hP hK
    obtain ⟨n0, o, h1, h2, h3, hQ, hLL⟩ := hL p e ha hc hk s0 m args below hf happ hP hK
    obtain ⟨⟨r, ws', e1, e2, e3⟩, hF⟩ := hQ
    exact ⟨n0, o, h1, h2, h3, ⟨⟨r, ws', e1, hq _ _ e2, e3⟩, hF⟩, hLL⟩
  have core : ∀ (s1 : am_S) (n1 : am_N) (k : Int32), eo skC s s1 → n1.2.1 = n.2.1 → n1.2.2.2 = n.2.2.2 → n1.1 54 = n.1 54 → (k = 0 → okC s t x = true ∧ n1.1 62 0 = (q_thing V s t x).toInt64) → (¬ k = 0 → okC s t x = false ∧ k = 1) → aw_M l g mi_X12_thing 102 0 0 [.ref (g_ad g 39), .int t, .int x] (hp g s1 n1) (fun r w => r = some (.int (if okC s t x = true then q_thing V s t x else 0)) ∧ ∃ s2 n2, w = hp g s2 n2 ∧ REL g s2 s2 n2 ∧ s2 39 0 = k ∧ (k = 0 → n2.1 62 0 = (if okC s t x = true then q_thing V s t x else 0).toInt64)) := by
    intro s1 n1 k e q1 q2 q3 hk0 hk1
    have hb1 := b1_skC e
    have hb2 := b2_skC e
    have hm3 := m3_skC e
    have hSb := SR_mv2 hS a1_r hb1
    have hHb := HR_b hRS hHR hb2
    have hM1 : MI s1 n1 := hLM.2.2.1 s s1 n n1 hMI hm3.1 hm3.2.1 hm3.2.2.1 hm3.2.2.2.1 hm3.2.2.2.2 q3
    have hC : MC l g MI V s1 n1 T Q := ⟨hSb.2.1, by rw [hb1.2.2.2.2.2.1]; exact hLM, hM1, hSb.2.2.2.1⟩
    obtain ⟨t1, t2⟩ := t_thing (V := V) (t := t) (x := x) hSb hHb
    refine aw_Mm (c_m_thing hC hHb.2.2.1.2.1.1) ?_
    rintro _ _ ⟨s2, n2, rfl, rfl, e2, en2, hM2⟩
    rw [← t1] at e2 ⊢
    have hval : (if okC s t x = true then m_thing V s1 t x else 0) = (if okC s t x = true then q_thing V s t x else 0) := by
      by_cases h : okC s t x = true
      · rw [if_pos h, if_pos h, t2 h]
      · rw [if_neg h, if_neg h]
    obtain ⟨c, hcc⟩ : ∃ c : Int32, c = (if okC s t x = true then 0 else 1) := ⟨_, rfl⟩
    rw [← hcc] at e2
    have z1 : a1 s1 (up s1 39 0 c) := a1_r (s := s1)
    have z2 : a2 s1 (up s1 39 0 c) := a2_r (s := s1)
    have z3 : b1 s1 (up s1 39 0 c) := b1_r (s := s1)
    have z4 : b2 s1 (up s1 39 0 c) := b2_r (s := s1)
    have h390 : s2 39 0 = c := e2 39 0 rfl
    refine ⟨by rw [hval], s2, n2, rfl, ?_, ?_, fun hk => ?_⟩
    · exact q_post hRS ⟨q, a, tt, hHR⟩ hB (a1_t (a1_t (a1_skC e) z1) (a1_skM e2)) (a2_t (a2_t (a2_skC e) z2) (a2_skM e2)) (b1_t (b1_t hb1 z3) (b1_skM e2)) (b2_t (b2_t hb2 z4) (b2_skM e2)) (en2.2.1.trans q1) (en2.2.2.trans q2) hM2
    · rw [h390, hcc]
      by_cases h0 : k = 0
      · rw [if_pos (hk0 h0).1, h0]
      · rw [if_neg (by rw [(hk1 h0).1]; decide), (hk1 h0).2]
    · rw [if_pos (hk0 hk).1, en2.1 62 rfl]
      exact (hk0 hk).2
  by_cases hok : okC s t x = true
  · refine ⟨0, (if okC s t x = true then q_thing V s t x else 0), Or.inl rfl, hmono ?_⟩
    rintro r w ⟨s1, e, ⟨-, rfl, rfl⟩ | ⟨h, -, -⟩⟩
    · exact ⟨rfl, s1, _, rfl, core s1 _ 0 e rfl rfl rfl (fun _ => ⟨hok, rfl⟩) (fun h => absurd rfl h)⟩
    · rw [hok] at h; cases h
  · have hok' : okC s t x = false := Bool.eq_false_iff.mpr hok
    refine ⟨1, (if okC s t x = true then q_thing V s t x else 0), Or.inr rfl, hmono ?_⟩
    rintro r w ⟨s1, e, ⟨h, -, -⟩ | ⟨-, rfl, rfl⟩⟩
    · exact absurd h hok
    · exact ⟨rfl, s1, _, rfl, core s1 _ 1 e rfl rfl rfl (fun h => absurd h (by decide)) (fun _ => ⟨hok', rfl⟩)⟩

