/-! class against reference: what is told, rows, acts -/
def RW (f h : Nat → Int32) (T Q : Nat) : Prop := (f 0 = h 31 ∧ f 1 = h 32 ∧ f 2 = h 33 ∧ f 3 = h 34 ∧ f 4 = h 35) ∧ (∀ j, j < T → f (5 + j) = h (3 * j) ∧ f (12 + j) = h (3 * j + 1) ∧ f (19 + j) = h (3 * j + 2)) ∧ ∀ r, r < Q → f (26 + r) = h (21 + 2 * r) ∧ f (31 + r) = h (21 + 2 * r + 1)
def RB (h : Nat → Int32) (T Q : Nat) : Prop := rwb h T Q ∧ (∃ e, e ≤ 40 ∧ h 32 = nI e) ∧ ∃ x, x ≤ 999 ∧ h 31 = nI x
def SR (sc sm : am_S) (T Q : Nat) : Prop := kb sc T Q ∧ mb sm T Q ∧ (∀ j, j < T → sc 18 j = sm 46 (5 * j) ∧ sc 19 j = sm 46 (5 * j + 1) ∧ sc 20 j = sm 46 (5 * j + 2)) ∧ (∀ j, j < T → (∃ h, h ≤ 40 ∧ sm 46 (5 * j + 1) = nI h) ∧ ∃ d, d ≤ 9 ∧ sm 46 (5 * j + 2) = nI d) ∧ sc 15 8 = sm 44 2 ∧ ∃ b, b ≤ 9 ∧ sm 44 2 = nI b
theorem rl_gt0 {n : Nat} (h0 : 0 < n) (h : n < 2 ^ 31) : 0 < nI n := nI_lt (a := 0) h0 h
theorem rl_n0 {v : Int32} (h : 0 ≤ v.toInt) : ¬ v < 0 := by
  intro z
  have z1 := Int32.lt_iff_toInt_lt.mp z
  rw [show (0 : Int32).toInt = 0 from rfl] at z1
  omega
theorem rl_T {sc sm : am_S} {T Q : Nat} {t : Int32} (h : SR sc sm T Q) : isTm sm t = isT sc t := by unfold isTm isT; rw [h.1.1, h.2.1.1]
theorem rl_R {sc sm : am_S} {T Q : Nat} {t : Int32} (h : SR sc sm T Q) : isRm sm t = isR sc t := by unfold isRm isR; rw [h.1.2.2.1, h.2.1.2.2.1]
theorem rl_0 {sc sm : am_S} {T Q : Nat} (h : SR sc sm T Q) : 0 < sc 15 6 ↔ ¬ sm 39 26 = 0 := by
  have hT := h.1.2.1
  rw [h.1.1, h.2.1.1]
  constructor
  · intro z e
    rw [e] at z
    exact absurd z (by decide)
  · intro z
    rcases Nat.eq_zero_or_pos T with e | e
    · exact absurd (by rw [e]; rfl) z
    · exact rl_gt0 e (by omega)
theorem rl_sl {sc sm : am_S} {f hh : Nat → Int32} {T Q : Nat} {t : Int32} (h : SR sc sm T Q) (hw : RW f hh T Q) (hb : RB hh T Q) : shm sm hh t = slF sc f t := by
  unfold shm slF
  rw [rl_T h]
  by_cases hT : isT sc t = true
  · obtain ⟨j, hj, rfl⟩ := isT_nI h.1 hT
    have h7 := h.1.2.1
    rw [cl_nI (by omega), (hw.2.1 j hj).2.1]
    obtain ⟨D, hD, hDe⟩ := (hb.1.1 j hj).2
    rw [hDe]
    rcases Nat.eq_zero_or_pos D with rfl | hp
    · cases isT sc (nI j) <;> rfl
    · rw [decide_eq_true (rl_gt0 hp (by omega)), decide_eq_false (nI_ne0 hp (by omega))]; rfl
  · rw [Bool.eq_false_iff.mpr hT]; rfl
theorem rl_sk {sc sm : am_S} {f hh : Nat → Int32} {T Q j r : Nat} (hw : RW f hh T Q) (hj : j < T) (hr : r < Q) : skm hh j r = skF' f r j := by
  unfold skm skF'
  rw [(hw.2.1 j hj).2.1, (hw.2.2 r hr).1]
theorem rl_hd {V : (Nat → Int32) → Int32} {sc sm : am_S} {f hh : Nat → Int32} {T Q j : Nat} (h : SR sc sm T Q) (hw : RW f hh T Q) (hj : j < T) : hnm V sm hh j = hdF V sc f j := by
  unfold hnm hbm hdF
  obtain ⟨o, ho, hoe⟩ := h.1.2.2.2.2 j hj
  have hQ := h.1.2.2.2.1
  obtain ⟨h1, h2, h3⟩ := h.2.2.1 j hj
  rw [← h1, ← h2, ← h3, hoe, cl_nI (by omega), (hw.2.2 o ho).1, (hw.2.1 j hj).1, (hw.2.1 j hj).2.1, hw.1.2.2.2.2]
/-- an act: refused on both sides, or done on both -/
def AR (f h : Nat → Int32) (T Q : Nat) (z : Int32 × (Nat → Int32)) (ok : Bool) (v : Int32) (h' : Nat → Int32) : Prop := (ok = true → z.1 = v ∧ ¬ v = -1 ∧ RW z.2 h' T Q ∧ RB h' T Q ∧ ∀ j, 35 ≤ j → h' j = h j) ∧ (ok = false → z = (-1, f))
theorem RB_of {h h' : Nat → Int32} {T Q : Nat} (hb : RB h T Q) (h1 : rwb h' T Q) (h2 : h' 32 = h 32) (h3 : ∃ x, x ≤ 999 ∧ h' 31 = nI x) (_h4 : ∀ j, 35 ≤ j → h' j = h j) : RB h' T Q := by
  obtain ⟨-, he, -⟩ := hb
  exact ⟨h1, by rw [h2]; exact he, h3⟩
theorem mn_nI {a b : Nat} (ha : a < 2 ^ 31) (hb : b < 2 ^ 31) : mn (nI a) (nI b) = nI (min a b) := by
  unfold mn
  by_cases h : b < a
  · rw [if_pos (nI_lt h ha), Nat.min_eq_right (by omega)]
  · rw [if_neg (nI_nlt (by omega) hb), Nat.min_eq_left (by omega)]
theorem RW_up {f h : Nat → Int32} {T Q : Nat} (hT : T ≤ 7) (hQ : Q ≤ 5) (hw : RW f h T Q) {i k : Nat} {v : Int32} (hik : (i = 0 ∧ k = 31) ∨ (i = 1 ∧ k = 32) ∨ (i = 2 ∧ k = 33) ∨ (i = 3 ∧ k = 34) ∨ (i = 4 ∧ k = 35) ∨ (∃ j, j < T ∧ ((i = 5 + j ∧ k = 3 * j) ∨ (i = 12 + j ∧ k = 3 * j + 1) ∨ (i = 19 + j ∧ k = 3 * j + 2))) ∨ ∃ r, r < Q ∧ ((i = 26 + r ∧ k = 21 + 2 * r) ∨ (i = 31 + r ∧ k = 21 + 2 * r + 1))) : RW (upd f i v) (upd h k v) T Q := by
  have key : ∀ i' k', (i' = i ↔ k' = k) → f i' = h k' → upd f i v i' = upd h k v k' := by
    intro i' k' e1 e2
    unfold upd
    by_cases e : i' = i
    · simp [e, e1.mp e]
    · have e' : ¬ k' = k := fun z => e (e1.mpr z)
      simp [e, e', e2]
  refine ⟨⟨key 0 31 ?_ hw.1.1, key 1 32 ?_ hw.1.2.1, key 2 33 ?_ hw.1.2.2.1, key 3 34 ?_ hw.1.2.2.2.1, key 4 35 ?_ hw.1.2.2.2.2⟩, fun j hj => ⟨key _ _ ?_ (hw.2.1 j hj).1, key _ _ ?_ (hw.2.1 j hj).2.1, key _ _ ?_ (hw.2.1 j hj).2.2⟩, fun r hr => ⟨key _ _ ?_ (hw.2.2 r hr).1, key _ _ ?_ (hw.2.2 r hr).2⟩⟩ <;>
  (rcases hik with ⟨rfl, rfl⟩ | ⟨rfl, rfl⟩ | ⟨rfl, rfl⟩ | ⟨rfl, rfl⟩ | ⟨rfl, rfl⟩ | ⟨j', hj', ⟨rfl, rfl⟩ | ⟨rfl, rfl⟩ | ⟨rfl, rfl⟩⟩ | ⟨r', hr', ⟨rfl, rfl⟩ | ⟨rfl, rfl⟩⟩ <;> omega)
theorem upd_cm {f : Nat → Int32} {a b : Nat} {x y : Int32} (h : a ≠ b) : upd (upd f a x) b y = upd (upd f b y) a x := by
  funext i
  by_cases e : i = a
  · subst e
    rw [upd_n h, upd_s, upd_s]
  · by_cases e2 : i = b
    · subst e2
      rw [upd_s, upd_n e, upd_s]
    · rw [upd_n e2, upd_n e, upd_n e, upd_n e2]
theorem inn_1_9 {v : Int32} : inn v.toInt64 1 9 = true ↔ ∃ j, 1 ≤ j ∧ j ≤ 9 ∧ v = nI j := by
  rw [inn_i (A := 1) (B := 9) (by decide) (by decide)]
  constructor
  · intro h
    simp only [Bool.and_eq_true, decide_eq_true_eq] at h
    obtain ⟨j, hj, rfl⟩ := nI_of (x := v) (rl_n0 (by omega))
    rw [nI_toInt hj] at h
    exact ⟨j, by omega, by omega, rfl⟩
  · rintro ⟨j, h1, h2, rfl⟩
    rw [nI_toInt (by omega)]
    simp only [Bool.and_eq_true, decide_eq_true_eq]
    omega
theorem inn_0 {v : Int32} {M : Nat} {b : Int64} (hM : M < 2 ^ 31) (hb : b.toInt = M) : inn v.toInt64 0 b = true ↔ ∃ j, j ≤ M ∧ v = nI j := by
  rw [inn_i (A := 0) (B := M) (by decide) hb]
  constructor
  · intro h
    simp only [Bool.and_eq_true, decide_eq_true_eq] at h
    obtain ⟨j, hj, rfl⟩ := nI_of (x := v) (rl_n0 (by omega))
    rw [nI_toInt hj] at h
    exact ⟨j, by omega, rfl⟩
  · rintro ⟨j, h1, rfl⟩
    rw [nI_toInt (by omega)]
    simp only [Bool.and_eq_true, decide_eq_true_eq]
    omega
theorem rl_seal {sc sm : am_S} {f h : Nat → Int32} {T Q : Nat} {t v : Int32} (hs : SR sc sm T Q) (hw : RW f h T Q) (hb : RB h T Q) : AR f h T Q (kSeal sc f t v) (cSm sm h t v) (h (3 * cl t + 1) + v) (mSeal h (cl t) v) := by
  have hT := hs.1.2.1
  have hQ := hs.1.2.2.2.1
  unfold cSm
  rw [rl_T hs]
  by_cases ht : isT sc t = true
  · obtain ⟨j, hj, rfl⟩ := isT_nI hs.1 ht
    have hcj : cl (nI j) = j := cl_nI (by omega)
    obtain ⟨D, hD, hDe⟩ := (hb.1.1 j hj).2
    have hfd : f (12 + j) = nI D := (hw.2.1 j hj).2.1.trans hDe
    obtain ⟨wx, hwx, hwe⟩ := hb.2.2
    have hf0 : f 0 = nI wx := hw.1.1.trans hwe
    rw [hcj, ht]
    constructor
    · intro hok
      simp only [Bool.and_eq_true, decide_eq_true_eq, Bool.true_and] at hok
      obtain ⟨hv, h9, hx⟩ := hok
      obtain ⟨v0, h1, h2, rfl⟩ := inn_1_9.mp hv
      rw [hDe, nI_add] at h9
      have h9' : D + v0 ≤ 9 := (nI_leI (a := D + v0) (b := 9) (by omega) (by decide)).mp h9
      have hx' : v0 ≤ wx := by rw [hwe] at hx; exact (nI_leI (by omega) (by omega)).mp hx
      have ek : kSeal sc f (nI j) (nI v0) = (f (12 + j) + nI v0, upd (upd f 0 (f 0 - nI v0)) (12 + j) (f (12 + j) + nI v0)) := by
        unfold kSeal
        rw [hcj, if_neg (by rw [ht]; decide), if_neg (show ¬ nI v0 < 1 from nI_nlt (a := v0) (b := 1) h1 (by omega)), if_neg (by rw [hfd, show (9 : Int32) - nI D = nI (9 - D) from pk_sub (a := 9) hD]; exact nI_nlt (by omega) (by omega)), if_pos (by rw [hf0]; exact nI_le hx' (by omega))]
      rw [ek]
      refine ⟨by rw [hfd, hDe], by rw [hDe, nI_add]; exact nI_m1n (by omega), ?_, ?_, fun i hi => ?_⟩
      · unfold mSeal
        have e1 : upd (upd f 0 (f 0 - nI v0)) (12 + j) (f (12 + j) + nI v0) = upd (upd f (12 + j) (h (3 * j + 1) + nI v0)) 0 (h 31 - nI v0) := by
          rw [hw.1.1, (hw.2.1 j hj).2.1, upd_cm (by omega)]
        show RW (upd (upd f 0 (f 0 - nI v0)) (12 + j) (f (12 + j) + nI v0)) _ T Q
        rw [e1]
        exact RW_up hT hQ (RW_up hT hQ hw (Or.inr (Or.inr (Or.inr (Or.inr (Or.inr (Or.inl ⟨j, hj, Or.inr (Or.inl ⟨rfl, rfl⟩)⟩))))))) (Or.inl ⟨rfl, rfl⟩)
      · refine RB_of hb (rwb_seal hT hQ hj hb.1 ⟨D + v0, h9', by rw [hDe, nI_add]⟩) ?_ ?_ (fun i hi => ?_)
        · unfold mSeal; rw [upd_n (by decide), upd_n (by omega)]
        · unfold mSeal; rw [upd_s, hwe, pk_sub hx']; exact ⟨_, by omega, rfl⟩
        · unfold mSeal; rw [upd_n (by omega), upd_n (by omega)]
      · unfold mSeal; rw [upd_n (by omega), upd_n (by omega)]
    · intro hok
      unfold kSeal
      rw [hcj, if_neg (by rw [ht]; decide)]
      by_cases h1 : v < 1
      · rw [if_pos h1]
      · rw [if_neg h1]
        by_cases h2 : 9 - f (12 + j) < v
        · rw [if_pos h2]
        · rw [if_neg h2]
          by_cases h3 : v ≤ f 0
          · exfalso
            obtain ⟨v0, hv0, rfl⟩ := nI_of (x := v) (fun z => h1 (Int32.lt_of_lt_of_le z (by decide)))
            have g1 : 1 ≤ v0 := by
              by_cases e : 1 ≤ v0
              · exact e
              · exact absurd (nI_lt (a := v0) (b := 1) (by omega) (by decide)) h1
            rw [hfd, show (9 : Int32) - nI D = nI (9 - D) from pk_sub (a := 9) hD] at h2
            have g2 : v0 ≤ 9 - D := (nI_leI hv0 (by omega)).mp (Int32.not_lt.mp h2)
            rw [hDe, nI_add, inn_1_9.mpr ⟨v0, g1, by omega, rfl⟩, decide_eq_true (show nI (D + v0) ≤ 9 from nI_le (a := D + v0) (b := 9) (by omega) (by decide)), decide_eq_true (by rw [← hw.1.1]; exact h3)] at hok
            exact absurd hok (by decide)
          · rw [if_neg h3]
  · have hf : isT sc t = false := Bool.eq_false_iff.mpr ht
    rw [hf, Bool.false_and]
    refine ⟨fun h => absurd h (by decide), fun _ => ?_⟩
    unfold kSeal
    rw [if_pos hf]
