/-! a kingdom begins on both sides -/
theorem king_SR {sc s2 : am_S} {K : Kd} (hC : KC K (sc 4) (sc 5)) (hR : KR s2 K) (hB : KBd K) (hO : ∀ t, t < K.2.1 → K.2.2.2.2.1 t 0 < nI K.2.2.1) : SR (bgS sc K.2.1 K.2.2.1) (tKg s2 K.2.1 K.2.2.1) K.2.1 K.2.2.1 ∧ ∀ ring, RX ring (bgS sc K.2.1 K.2.2.1 16) (tKg s2 K.2.1 K.2.2.1 52) K.2.1 K.2.2.1 0 := by
  obtain ⟨wh, T, Q, U, Dd, rg⟩ := K
  obtain ⟨-, -, -, hT7, hQ5, cU, cD, cR⟩ := hC
  obtain ⟨-, -, -, -, -, mU, mD, mR⟩ := hR
  obtain ⟨bU, bD, bR⟩ := hB
  dsimp only at hT7 hQ5 cU cD cR mU mD mR bU bD bR hO ⊢
  obtain ⟨A, hA⟩ : ∃ A : Nat → Int32, A = upd (upd (zf 36 (sc 16)) 0 (sc 4 0)) 1 (sc 4 1) := ⟨_, rfl⟩
  obtain ⟨kT1, kT2⟩ := tk_T (R := sc 4) T (sc 18, sc 19, sc 20, A) hT7
  have hAA : fd (tkT (sc 4)) 0 T (sc 18, sc 19, sc 20, A) = tkA sc T := by rw [hA]; rfl
  rw [hAA] at kT1 kT2
  obtain ⟨kQ1, kQ2⟩ := tk_Q (R := sc 4) Q (tkA sc T).2.2.2 hQ5
  have f16 : bgS sc T Q 16 = fd (tkQ (sc 4)) 0 Q (tkA sc T).2.2.2 := rfl
  have f18 : bgS sc T Q 18 = (tkA sc T).1 := rfl
  have f19 : bgS sc T Q 19 = (tkA sc T).2.1 := rfl
  have f20 : bgS sc T Q 20 = (tkA sc T).2.2.1 := rfl
  have e44 : ∀ i, i < 3 → tKg s2 T Q 44 i = U i := fun i hi => (cpy0 (f := s2 45) (g := s2 44) hi).trans (mU i hi)
  have e46 : ∀ t, t < T → ∀ i, i < 5 → tKg s2 T Q 46 (5 * t + i) = Dd t i := fun t ht i hi => (cpy0 (f := s2 47) (g := s2 46) (n := 35) (by omega)).trans (mD t ht i hi)
  have e48 : ∀ r, r < Q → tKg s2 T Q 48 r = rg r := fun r hr => (cpy0 (f := s2 49) (g := s2 48) (n := 5) (by omega)).trans (mR r hr)
  have h52 : tKg s2 T Q 52 = upd (upd (fd (bgQ (tKg s2 T Q 48)) 0 Q (fd (bgT (tKg s2 T Q 46)) 0 T (zf 217 (s2 52)))) 31 (tKg s2 T Q 44 0)) 32 (tKg s2 T Q 44 1) := rfl
  obtain ⟨gT1, gT2⟩ := bg_T (D := tKg s2 T Q 46) T (zf 217 (s2 52)) hT7
  obtain ⟨gQ1, gQ2⟩ := bg_Q (S := tKg s2 T Q 48) Q (fd (bgT (tKg s2 T Q 46)) 0 T (zf 217 (s2 52))) hQ5
  have z217 : ∀ j, j < 217 → zf 217 (s2 52) j = 0 := fun j hj => if_pos hj
  have z36 : ∀ j, j < 36 → 2 ≤ j → A j = 0 := fun j hj h2 => by rw [hA, upd_n (by omega), upd_n (by omega)]; exact if_pos hj
  have owner : ∀ t, t < T → ∃ o, o < Q ∧ Dd t 0 = nI o := by
    intro t ht
    obtain ⟨v, hv, e⟩ := bD t ht 0 (by decide)
    have hv4 : v ≤ 4 := hv
    refine ⟨v, ?_, e⟩
    have := hO t ht
    rw [e] at this
    exact (nI_ltI (by omega) (by omega)).mp this
  have c18 : ∀ t, t < T → bgS sc T Q 18 t = Dd t 0 := fun t ht => by rw [f18, (kT1 t ht).1]; exact cD t ht 0 (by decide)
  have c19 : ∀ t, t < T → bgS sc T Q 19 t = Dd t 1 := fun t ht => by rw [f19, (kT1 t ht).2.1]; exact cD t ht 1 (by decide)
  have c20 : ∀ t, t < T → bgS sc T Q 20 t = Dd t 2 := fun t ht => by rw [f20, (kT1 t ht).2.2.1]; exact cD t ht 2 (by decide)
  have fT : ∀ t, t < T → bgS sc T Q 16 (5 + t) = Dd t 3 ∧ bgS sc T Q 16 (12 + t) = Dd t 4 ∧ bgS sc T Q 16 (19 + t) = 1 <<< (Dd t 0 &&& 31) := by
    intro t ht
    obtain ⟨-, -, -, k4, k5, k6⟩ := kT1 t ht
    rw [f16, kQ2 _ (by omega), kQ2 _ (by omega), kQ2 _ (by omega), k4, k5, k6, ← cD t ht 0 (by decide), ← cD t ht 3 (by decide), ← cD t ht 4 (by decide)]
    exact ⟨rfl, rfl, rfl⟩
  have fL : ∀ j, j < 5 → bgS sc T Q 16 j = A j := fun j hj => by rw [f16, kQ2 j (by omega)]; exact kT2 j (Or.inl hj)
  have fR : ∀ r, r < Q → bgS sc T Q 16 (26 + r) = rg r ∧ bgS sc T Q 16 (31 + r) = 0 := by
    intro r hr
    rw [f16, kQ1 r hr, kQ2 (31 + r) (by omega), kT2 (31 + r) (by omega)]
    exact ⟨cR r hr, z36 _ (by omega) (by omega)⟩
  have hT' : ∀ t, t < T → tKg s2 T Q 52 (3 * t) = Dd t 3 ∧ tKg s2 T Q 52 (3 * t + 1) = Dd t 4 ∧ tKg s2 T Q 52 (3 * t + 2) = 1 <<< (Dd t 0 &&& 31) := by
    intro t ht
    obtain ⟨k1, k2, k3⟩ := gT1 t ht
    rw [h52, upd_n (by omega), upd_n (by omega), upd_n (by omega), upd_n (by omega), upd_n (by omega), upd_n (by omega), gQ2 _ (by omega), gQ2 _ (by omega), gQ2 _ (by omega), k1, k2, k3, e46 t ht 3 (by decide), e46 t ht 4 (by decide)]
    refine ⟨rfl, rfl, ?_⟩
    have := e46 t ht 0 (by decide)
    rw [Nat.add_zero] at this
    rw [this]
  have hR' : ∀ r, r < Q → tKg s2 T Q 52 (21 + 2 * r) = rg r ∧ tKg s2 T Q 52 (21 + 2 * r + 1) = 0 := by
    intro r hr
    obtain ⟨k1, k2⟩ := gQ1 r hr
    rw [h52, upd_n (by omega), upd_n (by omega), upd_n (by omega), upd_n (by omega), k1, k2, gT2 _ (by omega), z217 _ (by omega), e48 r hr]
    exact ⟨rfl, rfl⟩
  have h31 : tKg s2 T Q 52 31 = U 0 := by rw [h52, upd_n (by decide), upd_s]; exact e44 0 (by decide)
  have h32 : tKg s2 T Q 52 32 = U 1 := by rw [h52, upd_s]; exact e44 1 (by decide)
  have hz : ∀ j, 33 ≤ j → j < 217 → tKg s2 T Q 52 j = 0 := fun j h1 h2 => by
    rw [h52, upd_n (by omega), upd_n (by omega), gQ2 j (by omega), gT2 j (by omega)]
    exact z217 j h2
  refine ⟨⟨⟨rfl, hT7, rfl, hQ5, fun j hj => ?_⟩, ⟨rfl, hT7, rfl, hQ5, fun j hj => ?_⟩, fun j hj => ⟨?_, ?_, ?_⟩, fun j hj => ⟨?_, ?_⟩, ?_, ?_⟩, fun ring => ⟨⟨⟨?_, ?_, ?_, ?_, ?_⟩, fun j hj => ?_, fun r hr => ?_⟩, ⟨⟨fun j hj => ⟨?_, ?_⟩, fun r hr => ?_, 0, by decide, hz 35 (by decide) (by decide)⟩, ?_, ?_⟩, ⟨hz 35 (by decide) (by decide), by decide, hz 36 (by decide) (by decide)⟩, fun e x he _ => absurd he (by omega)⟩⟩
  · obtain ⟨o, ho, e⟩ := owner j hj
    exact ⟨o, ho, (c18 j hj).trans e⟩
  · obtain ⟨o, ho, e⟩ := owner j hj
    exact ⟨o, ho, (e46 j hj 0 (by decide)).trans e⟩
  · exact (c18 j hj).trans (e46 j hj 0 (by decide)).symm
  · exact (c19 j hj).trans (e46 j hj 1 (by decide)).symm
  · exact (c20 j hj).trans (e46 j hj 2 (by decide)).symm
  · obtain ⟨v, hv, e⟩ := bD j hj 1 (by decide)
    exact ⟨v, hv, (e46 j hj 1 (by decide)).trans e⟩
  · obtain ⟨v, hv, e⟩ := bD j hj 2 (by decide)
    exact ⟨v, hv, (e46 j hj 2 (by decide)).trans e⟩
  · exact (cU 2 (by decide)).trans (e44 2 (by decide)).symm
  · obtain ⟨v, hv, e⟩ := bU 2 (by decide)
    exact ⟨v, hv, (e44 2 (by decide)).trans e⟩
  · rw [fL 0 (by decide), h31, hA, upd_n (by decide), upd_s]; exact cU 0 (by decide)
  · rw [fL 1 (by decide), h32, hA, upd_s]; exact cU 1 (by decide)
  · rw [fL 2 (by decide), z36 2 (by decide) (by decide)]; exact (hz 33 (by decide) (by decide)).symm
  · rw [fL 3 (by decide), z36 3 (by decide) (by decide)]; exact (hz 34 (by decide) (by decide)).symm
  · rw [fL 4 (by decide), z36 4 (by decide) (by decide)]; exact (hz 35 (by decide) (by decide)).symm
  · obtain ⟨k1, k2, k3⟩ := fT j hj
    obtain ⟨l1, l2, l3⟩ := hT' j hj
    exact ⟨k1.trans l1.symm, k2.trans l2.symm, k3.trans l3.symm⟩
  · obtain ⟨k1, k2⟩ := fR r hr
    obtain ⟨l1, l2⟩ := hR' r hr
    exact ⟨k1.trans l1.symm, k2.trans l2.symm⟩
  · obtain ⟨v, hv, e⟩ := bD j hj 3 (by decide)
    exact ⟨v, hv, (hT' j hj).1.trans e⟩
  · obtain ⟨v, hv, e⟩ := bD j hj 4 (by decide)
    exact ⟨v, hv, (hT' j hj).2.1.trans e⟩
  · obtain ⟨v, hv, e⟩ := bR r hr
    exact ⟨v, hv, (hR' r hr).1.trans e⟩
  · obtain ⟨v, hv, e⟩ := bU 1 (by decide)
    exact ⟨v, hv, h32.trans e⟩
  · obtain ⟨v, hv, e⟩ := bU 0 (by decide)
    exact ⟨v, Nat.le_trans hv (by decide), h31.trans e⟩
theorem exI_ok {α : Type} {r : Except Nat α} (hb : ∀ f, r = .error f → f < 10000) (h : exI r = -1) : ∃ a, r = .ok a := by
  cases r with
  | ok a => exact ⟨a, rfl⟩
  | error f => exact absurd h (nI_m1n (hb f rfl))

