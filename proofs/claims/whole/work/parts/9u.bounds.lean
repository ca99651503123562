/-! what is told keeps its bounds; a kingdom begins on both sides -/
theorem nm2_le {tx : Nat → Nat} {E p M : Nat} {z : Nat × Nat} (h : nm2 tx E p M = .ok z) : z.2 ≤ M := by
  unfold nm2 at h
  (repeat' split at h) <;> first | (cases h; done) | (cases h; show _ ≤ M; assumption)
def BdI (ms : Nat → Nat) (len : Nat) (r : Nat → Int32) : Prop := ∀ i, i < len → ∃ v, v ≤ ms i ∧ r i = nI v
theorem itL_bd {tx : Nat → Nat} {E si len : Nat} {ms : Nat → Nat} : ∀ (d p : Nat) (met : Int32) (r : Nat → Int32) (z : Nat × (Nat → Int32)), itL tx E si ms 0 d p met r = .ok z → BdI ms len r → BdI ms len z.2
  | 0, p, met, r, z, h, _ => by simp only [itL] at h; cases h
  | d + 1, p, met, r, z, h, hb => by
    simp only [itL] at h
    cases hi : xsp si (cst tx E p) with
    | none => rw [hi] at h; cases h; exact hb
    | some i =>
      rw [hi] at h
      dsimp only at h
      by_cases hm : hs met (nI i) = true
      · rw [if_pos hm] at h; cases h
      · rw [if_neg hm] at h
        cases hn : nm2 tx E (skw tx E p + 1) (ms i) with
        | error e => rw [hn] at h; cases h
        | ok y =>
          rw [hn] at h
          refine itL_bd d _ _ _ _ h (fun j hj => ?_)
          by_cases e : j = 0 + i
          · refine ⟨y.2, ?_, by rw [e, upd_s]⟩
            rw [show j = i by omega]
            exact nm2_le hn
          · rw [upd_n e]; exact hb j hj
def KBd (K : Kd) : Prop := BdI (msN 115) 3 K.2.2.2.1 ∧ (∀ t, t < K.2.1 → BdI (msN 116) 5 (K.2.2.2.2.1 t)) ∧ ∀ r, r < K.2.2.1 → ∃ v, v ≤ 9 ∧ K.2.2.2.2.2 r = nI v
theorem us_115 : BdI (msN 115) 3 (usV (nI 115)) := by
  intro i hi
  match i, hi with
  | 0, _ => exact ⟨20, by decide, by decide⟩
  | 1, _ => exact ⟨10, by decide, by decide⟩
  | 2, _ => exact ⟨2, by decide, by decide⟩
theorem us_116 : BdI (msN 116) 5 (usV (nI 116)) := by
  intro i hi
  match i, hi with
  | 0, _ => exact ⟨0, by decide, by decide⟩
  | 1, _ => exact ⟨15, by decide, by decide⟩
  | 2, _ => exact ⟨3, by decide, by decide⟩
  | 3, _ => exact ⟨2, by decide, by decide⟩
  | 4, _ => exact ⟨1, by decide, by decide⟩
theorem us_114 : BdI (msN 114) 1 (usV (nI 114)) := by
  intro i hi
  match i, hi with
  | 0, _ => exact ⟨3, by decide, by decide⟩
theorem kCl_bd {tx : Nat → Nat} {E p : Nat} {K : Kd} {z : Nat × Kd} (h : kCl tx E K p = .ok z) (hK : KBd K) : KBd z.2 := by
  unfold kCl at h
  by_cases h1 : cst tx E p = 115 ∧ K.1 = false
  · rw [if_pos h1] at h
    cases hr : it1 tx E 1 115 p with
    | error e => rw [hr] at h; cases h
    | ok y =>
      rw [hr] at h
      cases h
      exact ⟨itL_bd (len := 3) _ _ _ _ _ hr us_115, hK.2.1, hK.2.2⟩
  · rw [if_neg h1] at h
    by_cases h2 : cst tx E p = 116 ∧ K.2.1 < 7
    · rw [if_pos h2] at h
      cases hr : it1 tx E 2 116 p with
      | error e => rw [hr] at h; cases h
      | ok y =>
        rw [hr] at h
        cases h
        refine ⟨hK.1, fun t ht => ?_, hK.2.2⟩
        have hz := itL_bd (len := 5) _ _ _ _ _ hr us_116
        show BdI (msN 116) 5 (if t = K.2.1 then y.2 else K.2.2.2.2.1 t)
        by_cases e : t = K.2.1
        · rw [if_pos e]; exact hz
        · rw [if_neg e]; exact hK.2.1 t (by have : t < K.2.1 + 1 := ht; omega)
    · rw [if_neg h2] at h
      by_cases h3 : cst tx E p = 114 ∧ K.2.2.1 < 5
      · rw [if_pos h3] at h
        cases hr : it1 tx E 3 114 p with
        | error e => rw [hr] at h; cases h
        | ok y =>
          rw [hr] at h
          cases h
          refine ⟨hK.1, hK.2.1, fun r hr' => ?_⟩
          have hz := itL_bd (len := 1) _ _ _ _ _ hr us_114
          show ∃ v, v ≤ 9 ∧ upd K.2.2.2.2.2 K.2.2.1 (y.2 0) r = nI v
          by_cases e : r = K.2.2.1
          · rw [e, upd_s]; exact hz 0 (by decide)
          · rw [upd_n e]; exact hK.2.2 r (by have : r < K.2.2.1 + 1 := hr'; omega)
      · rw [if_neg h3] at h; cases h
theorem kgL_bd {tx : Nat → Nat} {E : Nat} : ∀ (d p : Nat) (K K' : Kd), kgL tx E d p K = .ok K' → KBd K → KBd K' ∧ whK K' = true
  | 0, _, _, _, h, _ => by simp only [kgL] at h; cases h
  | d + 1, p, K, K', h, hK => by
    simp only [kgL] at h
    cases hc : kCl tx E K p with
    | error e => rw [hc] at h; cases h
    | ok z =>
      rw [hc] at h
      dsimp only at h
      have hz := kCl_bd hc hK
      by_cases h1 : cst tx E z.1 = 59
      · rw [if_pos h1] at h; exact kgL_bd d _ _ _ h hz
      · rw [if_neg h1] at h
        by_cases h2 : cst tx E z.1 = -1 ∧ whK z.2 = true
        · rw [if_pos h2] at h; cases h; exact ⟨hz, h2.2⟩
        · rw [if_neg h2] at h; cases h
theorem kgR_bd {tx : Nat → Nat} {E : Nat} {K : Kd} (h : kgR tx E = .ok K) : KBd K ∧ ∀ t, t < K.2.1 → K.2.2.2.2.1 t 0 < nI K.2.2.1 := by
  obtain ⟨h1, h2⟩ := kgL_bd _ _ _ _ h ⟨us_115, fun t ht => absurd ht (by show ¬ t < 0; omega), fun r hr => absurd hr (by show ¬ r < 0; omega)⟩
  refine ⟨h1, fun t ht => ?_⟩
  unfold whK at h2
  simp only [Bool.and_eq_true, Option.isNone_iff_eq_none] at h2
  have := (fs_no _ _).mp h2.1 t (Nat.zero_le _) (by omega)
  simpa using this
theorem tk_T {R : Nat → Int32} : ∀ (d : Nat) (a : Tk), d ≤ 7 → (∀ t, t < d → (fd (tkT R) 0 d a).1 t = R (3 + 5 * t) ∧ (fd (tkT R) 0 d a).2.1 t = R (3 + 5 * t + 1) ∧ (fd (tkT R) 0 d a).2.2.1 t = R (3 + 5 * t + 2) ∧ (fd (tkT R) 0 d a).2.2.2 (5 + t) = R (3 + 5 * t + 3) ∧ (fd (tkT R) 0 d a).2.2.2 (12 + t) = R (3 + 5 * t + 4) ∧ (fd (tkT R) 0 d a).2.2.2 (19 + t) = 1 <<< (R (3 + 5 * t) &&& 31)) ∧ ∀ j, (j < 5 ∨ 26 ≤ j) → (fd (tkT R) 0 d a).2.2.2 j = a.2.2.2 j
  | 0, a, _ => ⟨fun t ht => absurd ht (by omega), fun _ _ => rfl⟩
  | d + 1, a, hd => by
    obtain ⟨ih1, ih2⟩ := tk_T (R := R) d a (by omega)
    rw [fd_snoc, Nat.zero_add]
    generalize fd (tkT R) 0 d a = z at ih1 ih2 ⊢
    unfold tkT
    dsimp only
    refine ⟨fun t ht => ?_, fun j hj => ?_⟩
    · by_cases e : t = d
      · subst e
        rw [upd_s, upd_s, upd_s, upd_n (by omega), upd_n (by omega), upd_s, upd_n (by omega), upd_s, upd_s]
        exact ⟨rfl, rfl, rfl, rfl, rfl, rfl⟩
      · rw [upd_n e, upd_n e, upd_n e, upd_n (by omega), upd_n (by omega), upd_n (by omega), upd_n (by omega), upd_n (by omega), upd_n (by omega), upd_n (by omega), upd_n (by omega), upd_n (by omega)]
        exact ih1 t (by omega)
    · rw [upd_n (by omega), upd_n (by omega), upd_n (by omega)]
      exact ih2 j hj
theorem tk_Q {R : Nat → Int32} : ∀ (d : Nat) (f : Nat → Int32), d ≤ 5 → (∀ r, r < d → fd (tkQ R) 0 d f (26 + r) = R (38 + r)) ∧ ∀ j, (j < 26 ∨ 26 + d ≤ j) → fd (tkQ R) 0 d f j = f j
  | 0, _, _ => ⟨fun t ht => absurd ht (by omega), fun _ _ => rfl⟩
  | d + 1, f, hd => by
    obtain ⟨ih1, ih2⟩ := tk_Q (R := R) d f (by omega)
    rw [fd_snoc, Nat.zero_add]
    generalize fd (tkQ R) 0 d f = z at ih1 ih2 ⊢
    unfold tkQ
    refine ⟨fun r hr => ?_, fun j hj => ?_⟩
    · by_cases e : r = d
      · subst e; rw [upd_s]
      · rw [upd_n (by omega)]; exact ih1 r (by omega)
    · rw [upd_n (by omega)]; exact ih2 j (by omega)
theorem bg_T {D : Nat → Int32} : ∀ (d : Nat) (f : Nat → Int32), d ≤ 7 → (∀ t, t < d → fd (bgT D) 0 d f (3 * t) = D (5 * t + 3) ∧ fd (bgT D) 0 d f (3 * t + 1) = D (5 * t + 4) ∧ fd (bgT D) 0 d f (3 * t + 2) = 1 <<< (D (5 * t) &&& 31)) ∧ ∀ j, 21 ≤ j → fd (bgT D) 0 d f j = f j
  | 0, _, _ => ⟨fun t ht => absurd ht (by omega), fun _ _ => rfl⟩
  | d + 1, f, hd => by
    obtain ⟨ih1, ih2⟩ := bg_T (D := D) d f (by omega)
    rw [fd_snoc, Nat.zero_add]
    generalize fd (bgT D) 0 d f = z at ih1 ih2 ⊢
    unfold bgT
    refine ⟨fun t ht => ?_, fun j hj => ?_⟩
    · by_cases e : t = d
      · subst e
        rw [upd_n (by omega), upd_n (by omega), upd_s, upd_n (by omega), upd_s, upd_s]
        exact ⟨rfl, rfl, rfl⟩
      · rw [upd_n (by omega), upd_n (by omega), upd_n (by omega), upd_n (by omega), upd_n (by omega), upd_n (by omega), upd_n (by omega), upd_n (by omega), upd_n (by omega)]
        exact ih1 t (by omega)
    · rw [upd_n (by omega), upd_n (by omega), upd_n (by omega)]
      exact ih2 j hj
theorem bg_Q {S : Nat → Int32} : ∀ (d : Nat) (f : Nat → Int32), d ≤ 5 → (∀ r, r < d → fd (bgQ S) 0 d f (21 + 2 * r) = S r ∧ fd (bgQ S) 0 d f (21 + 2 * r + 1) = f (21 + 2 * r + 1)) ∧ ∀ j, (j < 21 ∨ 31 ≤ j) → fd (bgQ S) 0 d f j = f j
  | 0, _, _ => ⟨fun t ht => absurd ht (by omega), fun _ _ => rfl⟩
  | d + 1, f, hd => by
    obtain ⟨ih1, ih2⟩ := bg_Q (S := S) d f (by omega)
    have ih3 : fd (bgQ S) 0 d f (21 + 2 * d + 1) = f (21 + 2 * d + 1) := by
      have key : ∀ e, e ≤ d → fd (bgQ S) 0 e f (21 + 2 * d + 1) = f (21 + 2 * d + 1) := by
        intro e
        induction e with
        | zero => exact fun _ => rfl
        | succ e ih =>
          intro he
          rw [fd_snoc, Nat.zero_add]
          unfold bgQ
          rw [upd_n (by omega)]
          exact ih (by omega)
      exact key d (Nat.le_refl _)
    rw [fd_snoc, Nat.zero_add]
    generalize fd (bgQ S) 0 d f = z at ih1 ih2 ih3 ⊢
    unfold bgQ
    refine ⟨fun r hr => ?_, fun j hj => ?_⟩
    · by_cases e : r = d
      · subst e
        rw [upd_s, upd_n (by omega)]
        exact ⟨rfl, ih3⟩
      · rw [upd_n (by omega), upd_n (by omega)]
        exact ih1 r (by omega)
    · rw [upd_n (by omega)]
      exact ih2 j hj

