/-! the acts of the two faces -/
theorem rl_keep {V : (Nat → Int32) → Int32} {sc sm : am_S} {T Q q a tm : Nat} {tt : Nat → Nat} {act b c : Int32} {ok : Bool} {v : Int32} {h' : Nat → Int32} {z : Int32 × (Nat → Int32)} (hT : T ≤ 7) (hQ : Q ≤ 5) (hH : HR sc sm T Q q a tt) (hA : AR (sc 16) (sm 52) T Q z ok v h') (hz : kAct V sc T (sc 16) act b c = z) (h0 : ¬ act = 0) : (ok = true → (dDo V sc T tm q a act b c).1 = v ∧ ¬ v = -1 ∧ ∃ tt', HR (dDo V sc T tm q a act b c).2 (upR (mRem sm a) 52 h') T Q ((q + 1) % 40) (min 40 (a + 1)) tt') ∧ (ok = false → (dDo V sc T tm q a act b c).1 = -1 ∧ HR (dDo V sc T tm q a act b c).2 sm T Q q a tt) := by
  rw [dDo_r]
  unfold kDo
  rw [hz]
  constructor
  · intro hok
    obtain ⟨h1, h2, h3, h4, h5⟩ := hA.1 hok
    rw [if_neg (by rw [h1]; exact h2), if_neg h0]
    refine ⟨h1, h2, HR_push hT hQ hH (t' := tt a) ⟨h3, h4, ?_, ?_⟩ ⟨Nat.le_refl _, by omega⟩ (fun _ _ _ _ z => z) (kp_new cp_23) (kp_old rfl) rfl rfl rfl rfl⟩
    · exact ⟨(h5 35 (by decide)).trans hH.2.2.1.2.2.1.1, hH.2.2.1.2.2.1.2.1, (h5 36 (by decide)).trans hH.2.2.1.2.2.1.2.2⟩
    · exact LG_eq hH.2.2.1.2.2.2 h5
  · intro hok
    rw [hA.2 hok]
    rw [if_pos rfl]
    exact ⟨rfl, HR_mv hT hQ hH (fun _ _ => rfl) rfl rfl rfl rfl rfl rfl rfl⟩
def HE (sc sm : am_S) (T Q : Nat) : Prop := ∃ q a tt, HR sc sm T Q q a tt
theorem t_seal {V : (Nat → Int32) → Int32} {sc S : am_S} {T Q q a tm : Nat} {tt : Nat → Nat} {t v : Int32} (hS : SR sc S T Q) (hH : HR sc S T Q q a tt) : (dDo V sc T tm q a 1 t v).1 = (m_seal S a t v).1 ∧ HE (dDo V sc T tm q a 1 t v).2 (m_seal S a t v).2 T Q := by
  have hk := rl_keep (V := V) (tm := tm) hS.1.2.1 hS.1.2.2.2.1 hH (act := 1) (b := t) (c := v) (rl_seal hS hH.2.2.1.1 hH.2.2.1.2.1) (by unfold kAct; rw [if_neg (by decide), if_pos rfl]) (by decide)
  unfold m_seal
  by_cases hok : cSm S (S 52) t v = true
  · rw [if_pos hok]
    obtain ⟨h1, -, tt', h2⟩ := hk.1 hok
    exact ⟨h1, _, _, tt', h2⟩
  · rw [if_neg hok]
    obtain ⟨h1, h2⟩ := hk.2 (Bool.eq_false_iff.mpr hok)
    exact ⟨h1, _, _, tt, h2⟩
theorem t_open {V : (Nat → Int32) → Int32} {sc S : am_S} {T Q q a tm : Nat} {tt : Nat → Nat} {t : Int32} (hS : SR sc S T Q) (hH : HR sc S T Q q a tt) : (dDo V sc T tm q a 3 t 0).1 = (m_open S a t).1 ∧ HE (dDo V sc T tm q a 3 t 0).2 (m_open S a t).2 T Q := by
  have hk := rl_keep (V := V) (tm := tm) hS.1.2.1 hS.1.2.2.2.1 hH (act := 3) (b := t) (c := 0) (rl_open hS hH.2.2.1.1 hH.2.2.1.2.1) (by unfold kAct; rw [if_neg (by decide), if_neg (by decide), if_neg (by decide), if_pos rfl]) (by decide)
  unfold m_open
  by_cases hok : shm S (S 52) t = true
  · rw [if_pos hok]
    obtain ⟨h1, -, tt', h2⟩ := hk.1 hok
    exact ⟨h1, _, _, tt', h2⟩
  · rw [if_neg hok]
    obtain ⟨h1, h2⟩ := hk.2 (Bool.eq_false_iff.mpr hok)
    exact ⟨h1, _, _, tt, h2⟩
theorem t_pry {V : (Nat → Int32) → Int32} {sc S : am_S} {T Q q a tm : Nat} {tt : Nat → Nat} {t r : Int32} (hS : SR sc S T Q) (hH : HR sc S T Q q a tt) : (dDo V sc T tm q a 2 t r).1 = (m_pry S a t r).1 ∧ HE (dDo V sc T tm q a 2 t r).2 (m_pry S a t r).2 T Q := by
  have hk := rl_keep (V := V) (tm := tm) hS.1.2.1 hS.1.2.2.2.1 hH (act := 2) (b := t) (c := r) (rl_pry hS hH.2.2.1.1 hH.2.2.1.2.1) (by unfold kAct; rw [if_neg (by decide), if_neg (by decide), if_pos rfl]) (by decide)
  unfold m_pry
  by_cases hok : cPm S (S 52) t r = true
  · rw [if_pos hok]
    obtain ⟨h1, -, tt', h2⟩ := hk.1 hok
    exact ⟨h1, _, _, tt', h2⟩
  · rw [if_neg hok]
    obtain ⟨h1, h2⟩ := hk.2 (Bool.eq_false_iff.mpr hok)
    exact ⟨h1, _, _, tt, h2⟩
theorem t_carry {V : (Nat → Int32) → Int32} {sc S : am_S} {T Q q a tm : Nat} {tt : Nat → Nat} {t v : Int32} (hS : SR sc S T Q) (hH : HR sc S T Q q a tt) : (dDo V sc T tm q a 4 t v).1 = (m_carry S a t v).1 ∧ HE (dDo V sc T tm q a 4 t v).2 (m_carry S a t v).2 T Q := by
  have hk := rl_keep (V := V) (tm := tm) hS.1.2.1 hS.1.2.2.2.1 hH (act := 4) (b := t) (c := v) (rl_carry hS hH.2.2.1.1 hH.2.2.1.2.1) (by unfold kAct; rw [if_neg (by decide), if_neg (by decide), if_neg (by decide), if_neg (by decide), if_pos rfl]) (by decide)
  unfold m_carry
  by_cases h1 : isTm S t = true
  · by_cases h2 : inn v.toInt64 0 9 = true
    · by_cases h3 : S 52 (3 * cl t) = v
      · rw [if_pos h1, if_pos h2, if_pos h3]
        obtain ⟨g1, g2⟩ := hk.2 (by rw [h1, h2, decide_eq_true h3]; rfl)
        exact ⟨g1, _, _, tt, g2⟩
      · rw [if_pos h1, if_pos h2, if_neg h3]
        obtain ⟨g1, -, tt', g2⟩ := hk.1 (by rw [h1, h2, decide_eq_false h3]; rfl)
        exact ⟨g1, _, _, tt', g2⟩
    · rw [if_pos h1, if_neg h2]
      obtain ⟨g1, g2⟩ := hk.2 (by rw [h1, Bool.eq_false_iff.mpr h2]; rfl)
      exact ⟨g1, _, _, tt, g2⟩
  · rw [if_neg h1]
    obtain ⟨g1, g2⟩ := hk.2 (by rw [Bool.eq_false_iff.mpr h1]; rfl)
    exact ⟨g1, _, _, tt, g2⟩
theorem t_heat {V : (Nat → Int32) → Int32} {sc S : am_S} {T Q q a tm : Nat} {tt : Nat → Nat} {v : Int32} (hS : SR sc S T Q) (hH : HR sc S T Q q a tt) : (dDo V sc T tm q a 5 v 0).1 = (m_heat S a v).1 ∧ HE (dDo V sc T tm q a 5 v 0).2 (m_heat S a v).2 T Q := by
  have hk := rl_keep (V := V) (tm := tm) hS.1.2.1 hS.1.2.2.2.1 hH (act := 5) (b := v) (c := 0) (rl_heat hS hH.2.2.1.1 hH.2.2.1.2.1) (by unfold kAct; rw [if_neg (by decide), if_neg (by decide), if_neg (by decide), if_neg (by decide), if_neg (by decide), if_pos rfl]) (by decide)
  unfold m_heat
  by_cases h1 : S 39 26 = 0
  · rw [if_pos h1]
    obtain ⟨g1, g2⟩ := hk.2 (by rw [decide_eq_true h1]; rfl)
    exact ⟨g1, _, _, tt, g2⟩
  · by_cases h2 : inn v.toInt64 0 40 = true
    · by_cases h3 : S 52 32 = v
      · rw [if_neg h1, if_pos h2, if_pos h3]
        obtain ⟨g1, g2⟩ := hk.2 (by rw [decide_eq_false h1, h2, decide_eq_true h3]; rfl)
        exact ⟨g1, _, _, tt, g2⟩
      · rw [if_neg h1, if_pos h2, if_neg h3]
        obtain ⟨g1, -, tt', g2⟩ := hk.1 (by rw [decide_eq_false h1, h2, decide_eq_false h3]; rfl)
        exact ⟨g1, _, _, tt', g2⟩
    · rw [if_neg h1, if_neg h2]
      obtain ⟨g1, g2⟩ := hk.2 (by rw [decide_eq_false h1, Bool.eq_false_iff.mpr h2]; rfl)
      exact ⟨g1, _, _, tt, g2⟩
theorem nI_nm {m : Nat} (h : m < 128) : ¬ nI m = (-1 : Int32) := nI_m1n (by omega)
/-- month, with what it leaves of time -/
theorem rl_mon {V : (Nat → Int32) → Int32} {sc S : am_S} {T Q q a : Nat} {tt : Nat → Nat} {b c : Int32} (hS : SR sc S T Q) (hH : HR sc S T Q q a tt) (h0 : 0 < sc 15 6) (h9 : tt a < 9999) : (dDo V sc T (tt a) q a 0 b c).1 = (goM V S T Q (min 60 (tt a)) (S 52)).1 ∧ (∃ m, m < 128 ∧ (dDo V sc T (tt a) q a 0 b c).1 = nI m) ∧ ∃ tt', HR (dDo V sc T (tt a) q a 0 b c).2 (upR (mRem S a) 52 (goM V S T Q (min 60 (tt a)) (S 52)).2) T Q ((q + 1) % 40) (min 40 (a + 1)) tt' := by
  obtain ⟨hx1, hx2, hx3, hx4⟩ := id hH.2.2.1
  obtain ⟨g1, ⟨m, hm, g2⟩, g3, g4, g5, -, g6⟩ := rl_month (V := V) (G := min 60 (tt a)) hS hx1 hx2 h0 hx3.1 h9 (by omega)
  obtain ⟨g7, g6⟩ := g6 rfl
  rw [dDo_r]
  unfold kDo
  have hk : kAct V sc T (sc 16) 0 b c = kMonth V sc T (sc 16) := by unfold kAct; rw [if_pos rfl]
  rw [hk, if_neg (by rw [g2]; exact nI_nm hm), if_pos rfl]
  refine ⟨g1, ⟨m, hm, g2⟩, HR_push hS.1.2.1 hS.1.2.2.2.1 hH (t' := tt a + 1) ⟨g3, g4, ⟨g5, by omega, g7⟩, ?_⟩ ⟨by omega, Nat.le_refl _⟩ (fun hh t h1 h2 hl => ?_) (kp_new cp_23) (kp_old rfl) rfl rfl rfl rfl⟩
  · exact g6 _ hx4
  · exact LG_keep (a := warm (sc 16 1) (sc 16 4)) (b := (kMonth V sc T (sc 16)).1) (c := (kMonth V sc T (sc 16)).2 2) hl h1 (by omega)
theorem t_month {V : (Nat → Int32) → Int32} {sc S : am_S} {T Q q a : Nat} {tt : Nat → Nat} (hS : SR sc S T Q) (hH : HR sc S T Q q a tt) : (if (dDo V sc T (tt a) q a 0 0 0).1 = -1 then -1 else bitc (dDo V sc T (tt a) q a 0 0 0).1) = (m_month V S T Q (min 60 (tt a)) a).1 ∧ HE (dDo V sc T (tt a) q a 0 0 0).2 (m_month V S T Q (min 60 (tt a)) a).2 T Q := by
  obtain ⟨hx1, hx2, hx3, hx4⟩ := id hH.2.2.1
  have hv : ∀ b c : Int32, (kAct V sc T (sc 16) 0 b c) = kMonth V sc T (sc 16) := fun b c => by unfold kAct; rw [if_pos rfl]
  have hno : kMonth V sc T (sc 16) = (-1, sc 16) → (dDo V sc T (tt a) q a 0 0 0).1 = -1 ∧ HR (dDo V sc T (tt a) q a 0 0 0).2 S T Q q a tt := by
    intro e
    rw [dDo_r]
    unfold kDo
    rw [hv, e, if_pos rfl]
    exact ⟨rfl, HR_mv hS.1.2.1 hS.1.2.2.2.1 hH (fun _ _ => rfl) rfl rfl rfl rfl rfl rfl rfl⟩
  unfold m_month
  by_cases h0 : S 39 26 = 0
  · rw [if_pos h0]
    obtain ⟨g1, g2⟩ := hno (by unfold kMonth; rw [if_neg (fun z => (rl_0 hS).mp z h0)])
    rw [if_pos g1]
    exact ⟨rfl, _, _, tt, g2⟩
  · rw [if_neg h0]
    have hp := (rl_0 hS).mpr h0
    by_cases h9 : S 52 35 = 9999
    · rw [if_pos h9]
      obtain ⟨g1, g2⟩ := hno (by unfold kMonth; rw [if_pos hp, if_neg (by rw [hx1.1.2.2.2.2, h9]; decide)])
      rw [if_pos g1]
      exact ⟨rfl, _, _, tt, g2⟩
    · rw [if_neg h9]
      have h99 : tt a < 9999 := by
        rcases Nat.lt_or_ge (tt a) 9999 with e | e
        · exact e
        · exact absurd (by rw [hx3.1, show tt a = 9999 by omega]; rfl) h9
      obtain ⟨g1, ⟨m, hm, g2⟩, tt', g3⟩ := rl_mon (V := V) (b := 0) (c := 0) hS hH hp h99
      rw [if_neg (by rw [g2]; exact nI_nm hm), g1]
      exact ⟨rfl, _, _, tt', g3⟩
