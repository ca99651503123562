/-! the rows that can be taken back -/
def rU (sc : am_S) (p : Nat) : Nat → Int32 := fun j => sc 24 (p * 36 + j)
def rMd (sm : am_S) (i : Nat) : Nat → Int32 := fun j => sm 56 (217 * i + j)
def RX (ring f h : Nat → Int32) (T Q t : Nat) : Prop := RW f h T Q ∧ RB h T Q ∧ (h 35 = nI t ∧ t ≤ 9999 ∧ h 36 = nI (min 60 t)) ∧ LG ring h t
def HR (sc sm : am_S) (T Q q a : Nat) (tt : Nat → Nat) : Prop := ab4 sc q a ∧ sm 39 39 = nI a ∧ RX (sc 22) (sc 16) (sm 52) T Q (tt a) ∧ (∀ i, i < a → tt i ≤ tt (i + 1) ∧ tt (i + 1) ≤ tt i + 1) ∧ ∀ i, i < a → RX (sc 22) (rU sc ((q + 40 - a + i) % 40)) (rMd sm i) T Q (tt i)
theorem RX_cong {ring f f' h h' : Nat → Int32} {T Q t : Nat} (hT : T ≤ 7) (hQ : Q ≤ 5) (hx : RX ring f h T Q t) (e1 : ∀ j, j < 36 → f' j = f j) (e2 : ∀ j, j < 217 → h' j = h j) : RX ring f' h' T Q t := by
  obtain ⟨hw, hb, h3, h4⟩ := hx
  refine ⟨?_, ?_, ⟨by rw [e2 35 (by decide)]; exact h3.1, h3.2.1, by rw [e2 36 (by decide)]; exact h3.2.2⟩, fun e x he hx => by rw [e2 _ (by omega)]; exact h4 e x he hx⟩
  · have h1 := RW_hi hT hQ hw (fun j hj => e2 j (by omega))
    obtain ⟨⟨a, b, c, d, e0⟩, g1, g2⟩ := h1
    exact ⟨⟨by rw [e1 0 (by decide)]; exact a, by rw [e1 1 (by decide)]; exact b, by rw [e1 2 (by decide)]; exact c, by rw [e1 3 (by decide)]; exact d, by rw [e1 4 (by decide)]; exact e0⟩, fun j hj => by rw [e1 _ (by omega), e1 _ (by omega), e1 _ (by omega)]; exact g1 j hj, fun r hr => by rw [e1 _ (by omega), e1 _ (by omega)]; exact g2 r hr⟩
  · obtain ⟨⟨g1, g2, g3⟩, b2, b3⟩ := hb
    exact ⟨⟨fun j hj => by rw [e2 _ (by omega), e2 _ (by omega)]; exact g1 j hj, fun r hr => by rw [e2 _ (by omega)]; exact g2 r hr, by rw [e2 35 (by decide)]; exact g3⟩, by rw [e2 32 (by decide)]; exact b2, by rw [e2 31 (by decide)]; exact b3⟩
theorem RX_ring {ring ring' f h : Nat → Int32} {T Q t : Nat} (hx : RX ring f h T Q t) (e : LG ring h t → LG ring' h t) : RX ring' f h T Q t := ⟨hx.1, hx.2.1, hx.2.2.1, e hx.2.2.2⟩
theorem tt_le {tt : Nat → Nat} {a : Nat} (h : ∀ i, i < a → tt i ≤ tt (i + 1) ∧ tt (i + 1) ≤ tt i + 1) : ∀ d i, i + d = a → tt i ≤ tt a ∧ tt a ≤ tt i + d
  | 0, i, e => by
    rw [← e]
    exact ⟨Nat.le_refl _, Nat.le_refl _⟩
  | d + 1, i, e => by
    have h1 := h i (by omega)
    have h2 := tt_le h d (i + 1) (by omega)
    omega
theorem HR_push {sc sm sc' sm' : am_S} {T Q q a t' : Nat} {tt : Nat → Nat} (hT : T ≤ 7) (hQ : Q ≤ 5) (h : HR sc sm T Q q a tt) (hx : RX (sc' 22) (sc' 16) (sm' 52) T Q t') (ht : tt a ≤ t' ∧ t' ≤ tt a + 1) (hk : ∀ hh t, t ≤ tt a → tt a ≤ t + 40 → LG (sc 22) hh t → LG (sc' 22) hh t)
    (hnew : ∀ j, j < 36 → rU sc' q j = sc 16 j) (hold : ∀ p, p < 40 → p ≠ q → ∀ j, j < 36 → rU sc' p j = rU sc p j) (c3 : sc' 21 3 = nI ((q + 1) % 40)) (c4 : sc' 21 4 = nI (min 40 (a + 1))) (m56 : sm' 56 = mRu (sm 56) (sm 52) a) (m39 : sm' 39 39 = nI (min 40 (a + 1))) : ∃ tt', HR sc' sm' T Q ((q + 1) % 40) (min 40 (a + 1)) tt' := by
  obtain ⟨⟨h3, hq4, h4, ha4⟩, h39, hcur, hch, hrows⟩ := h
  have hab : ab4 sc' ((q + 1) % 40) (min 40 (a + 1)) := ⟨c3, Nat.mod_lt _ (by decide), c4, Nat.min_le_left _ _⟩
  by_cases ha : a = 40
  · subst ha
    rw [show min 40 (40 + 1) = 40 from rfl] at hab m39 ⊢
    have mo : ∀ i, i < 39 → ∀ j, j < 217 → rMd sm' i j = rMd sm (i + 1) j := by
      intro i hi j hj
      unfold rMd
      rw [m56]
      unfold mRu
      rw [if_pos rfl, if_pos rfl, pk_cpy_out (by omega), pk_cpy_in (by omega) (by omega)]
      exact congrArg (sm 56) (by omega)
    have mn' : ∀ j, j < 217 → rMd sm' 39 j = sm 52 j := by
      intro j hj
      unfold rMd
      rw [m56]
      unfold mRu
      rw [if_pos rfl, if_pos rfl, pk_cpy_in (by omega) (by omega)]
      exact congrArg (sm 52) (by omega)
    refine ⟨fun i => if i < 40 then tt (i + 1) else t', hab, m39, ?_, fun i hi => ?_, fun i hi => ?_⟩
    · dsimp only
      rw [if_neg (by decide)]
      exact hx
    · dsimp only
      rw [if_pos hi]
      by_cases e : i = 39
      · subst e
        rw [if_neg (by decide)]
        exact ht
      · rw [if_pos (by omega)]
        exact hch (i + 1) (by omega)
    · dsimp only
      rw [if_pos hi]
      by_cases e : i = 39
      · subst e
        rw [show ((q + 1) % 40 + 40 - 40 + 39) % 40 = q by omega, show 39 + 1 = 40 from rfl]
        exact RX_ring (RX_cong hT hQ hcur hnew mn') (hk _ _ (Nat.le_refl _) (by omega))
      · have hr := hrows (i + 1) (by omega)
        have hle := tt_le hch (40 - (i + 1)) (i + 1) (by omega)
        rw [show ((q + 1) % 40 + 40 - 40 + i) % 40 = (q + 40 - 40 + (i + 1)) % 40 by omega]
        exact RX_ring (RX_cong hT hQ hr (hold _ (Nat.mod_lt _ (by decide)) (by omega)) (mo i (by omega))) (hk _ _ hle.1 (by omega))
  · have hm : min 40 (a + 1) = a + 1 := by omega
    rw [hm] at hab m39 ⊢
    have mo : ∀ i, i < a → ∀ j, j < 217 → rMd sm' i j = rMd sm i j := by
      intro i hi j hj
      unfold rMd
      rw [m56]
      unfold mRu
      rw [if_neg ha, if_neg ha, pk_cpy_out (by omega)]
    have mn' : ∀ j, j < 217 → rMd sm' a j = sm 52 j := by
      intro j hj
      unfold rMd
      rw [m56]
      unfold mRu
      rw [if_neg ha, if_neg ha, pk_cpy_in (by omega) (by omega)]
      exact congrArg (sm 52) (by omega)
    refine ⟨fun i => if i ≤ a then tt i else t', hab, m39, ?_, fun i hi => ?_, fun i hi => ?_⟩
    · dsimp only
      rw [if_neg (by omega)]
      exact hx
    · dsimp only
      rw [if_pos (by omega)]
      by_cases e : i = a
      · subst e
        rw [if_neg (by omega)]
        exact ht
      · rw [if_pos (by omega)]
        exact hch i (by omega)
    · dsimp only
      rw [if_pos (by omega)]
      by_cases e : i = a
      · subst e
        rw [show ((q + 1) % 40 + 40 - (i + 1) + i) % 40 = q by omega]
        exact RX_ring (RX_cong hT hQ hcur hnew mn') (hk _ _ (Nat.le_refl _) (by omega))
      · have hr := hrows i (by omega)
        have hle := tt_le hch (a - i) i (by omega)
        rw [show ((q + 1) % 40 + 40 - (a + 1) + i) % 40 = (q + 40 - a + i) % 40 by omega]
        exact RX_ring (RX_cong hT hQ hr (hold _ (Nat.mod_lt _ (by decide)) (by omega)) (mo i (by omega))) (hk _ _ hle.1 (by omega))
theorem kp_new {sc s : am_S} {q a : Nat} (h23 : ∀ j, j < 36 → s 23 j = sc 16 j) : ∀ j, j < 36 → rU (keep s q a) q j = sc 16 j := by
  intro j hj
  show va_cpy (s 23) (s 24) 0 (q * 36) 36 (q * 36 + j) = _
  rw [pk_cpy_in (by omega) (by omega), ← h23 j hj]
  exact congrArg (s 23) (by omega)
theorem kp_old {sc s : am_S} {q a : Nat} (h24 : s 24 = sc 24) : ∀ p, p < 40 → p ≠ q → ∀ j, j < 36 → rU (keep s q a) p j = rU sc p j := by
  intro p hp4 hpq j hj
  show va_cpy (s 23) (s 24) 0 (q * 36) 36 (p * 36 + j) = sc 24 (p * 36 + j)
  rw [pk_cpy_out (by omega), h24]
theorem cp_23 {sc : am_S} : ∀ j, j < 36 → cp sc 16 23 0 0 36 23 j = sc 16 j := by
  intro j hj
  show va_cpy (sc 16) (sc 23) 0 0 36 j = _
  rw [pk_cpy_in (by omega) (by omega)]
  exact congrArg (sc 16) (by omega)
theorem HR_mv {sc sm sc' sm' : am_S} {T Q q a : Nat} {tt : Nat → Nat} (hT : T ≤ 7) (hQ : Q ≤ 5) (h : HR sc sm T Q q a tt) (c16 : ∀ j, j < 36 → sc' 16 j = sc 16 j) (c22 : sc' 22 = sc 22) (c24 : sc' 24 = sc 24) (c3 : sc' 21 3 = sc 21 3) (c4 : sc' 21 4 = sc 21 4) (m52 : sm' 52 = sm 52) (m56 : sm' 56 = sm 56) (m39 : sm' 39 39 = sm 39 39) : HR sc' sm' T Q q a tt := by
  obtain ⟨⟨h3, hq4, h4, ha4⟩, h39, hcur, hch, hrows⟩ := h
  refine ⟨⟨c3.trans h3, hq4, c4.trans h4, ha4⟩, m39.trans h39, ?_, hch, fun i hi => ?_⟩
  · rw [c22, m52]
    exact RX_cong hT hQ hcur c16 (fun _ _ => rfl)
  · have hr := hrows i hi
    unfold rU rMd at hr ⊢
    rw [c22, c24, m56]
    exact hr
theorem HR_undo {sc sm sc' sm' : am_S} {T Q q a : Nat} {tt : Nat → Nat} (hT : T ≤ 7) (hQ : Q ≤ 5) (h : HR sc sm T Q q (a + 1) tt) (c16 : ∀ j, j < 36 → sc' 16 j = sc 24 ((q + 39) % 40 * 36 + j)) (c22 : sc' 22 = sc 22) (c24 : sc' 24 = sc 24) (c3 : sc' 21 3 = nI ((q + 39) % 40)) (c4 : sc' 21 4 = nI a) (m52 : ∀ j, j < 217 → sm' 52 j = sm 56 (217 * a + j)) (m56 : sm' 56 = sm 56) (m39 : sm' 39 39 = nI a) : HR sc' sm' T Q ((q + 39) % 40) a tt := by
  obtain ⟨⟨h3, hq4, h4, ha4⟩, h39, hcur, hch, hrows⟩ := h
  refine ⟨⟨c3, Nat.mod_lt _ (by decide), c4, by omega⟩, m39, ?_, fun i hi => hch i (by omega), fun i hi => ?_⟩
  · have hr := hrows a (by omega)
    rw [show (q + 40 - (a + 1) + a) % 40 = (q + 39) % 40 by omega] at hr
    rw [c22]
    exact RX_cong hT hQ hr c16 m52
  · have hr := hrows i (by omega)
    rw [show (q + 40 - (a + 1) + i) % 40 = ((q + 39) % 40 + 40 - a + i) % 40 by omega] at hr
    unfold rU rMd at hr ⊢
    rw [c22, c24, m56]
    exact hr
