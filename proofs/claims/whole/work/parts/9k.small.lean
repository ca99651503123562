/-! small answers, games -/
theorem t_rule {sc S : am_S} {T Q q a : Nat} {tt : Nat → Nat} {x : Int32} (hS : SR sc S T Q) (hH : HR sc S T Q q a tt) : q_rule sc x = m_rule S x := by
  have hw := hH.2.2.1.1
  unfold q_rule m_rule
  by_cases h0 : S 39 26 = 0
  · rw [if_pos h0, if_neg (fun z => (rl_0 hS).mp z h0)]
  · rw [if_neg h0, if_pos ((rl_0 hS).mpr h0), hw.1.1, hw.1.2.1, hS.2.2.2.2.1]
    by_cases hx : inn x.toInt64 0 2 = true
    · obtain ⟨j, hj, rfl⟩ := (inn_0 (M := 2) (by decide) (by decide)).mp hx
      rw [if_pos hx]
      have : j = 0 ∨ j = 1 ∨ j = 2 := by omega
      rcases this with rfl | rfl | rfl
      · rw [if_pos (by decide), if_pos (by decide)]
      · rw [if_neg (by decide), if_pos (by decide), if_neg (by decide), if_pos (by decide)]
      · rw [if_neg (by decide), if_neg (by decide), if_pos (by decide), if_neg (by decide), if_neg (by decide)]
    · rw [if_neg hx, if_neg (fun e => hx (by rw [e]; decide)), if_neg (fun e => hx (by rw [e]; decide)), if_neg (fun e => hx (by rw [e]; decide))]
theorem t_ring {sc S : am_S} {T Q q a : Nat} {tt : Nat → Nat} {r x : Int32} (hS : SR sc S T Q) (hH : HR sc S T Q q a tt) : q_ring sc r x = m_ring S r x := by
  have hw := hH.2.2.1.1
  have hQ := hS.1.2.2.2.1
  unfold q_ring m_ring
  rw [rl_R hS]
  by_cases h1 : isR sc r = true
  · rw [if_pos h1, if_pos h1]
    obtain ⟨j, hj, rfl⟩ := isR_nI hS.1 h1
    rw [cl_nI (by omega), (hw.2.2 j hj).1, (hw.2.2 j hj).2]
    by_cases hx : inn x.toInt64 0 1 = true
    · obtain ⟨i, hi, rfl⟩ := (inn_0 (M := 1) (by decide) (by decide)).mp hx
      rw [if_pos hx, cl_nI (by omega)]
      have : i = 0 ∨ i = 1 := by omega
      rcases this with rfl | rfl
      · rw [if_pos (by decide)]; rfl
      · rw [if_neg (by decide), if_pos (by decide)]
    · rw [if_neg hx, if_neg (fun e => hx (by rw [e]; decide)), if_neg (fun e => hx (by rw [e]; decide))]
  · rw [if_neg h1, if_neg h1]
theorem t_warmth {sc S : am_S} {T Q q a : Nat} {tt : Nat → Nat} {k : Int32} (hS : SR sc S T Q) (hH : HR sc S T Q q a tt) : q_warmth sc k = m_warmth S k := by
  have hw := hH.2.2.1.1
  have hT := hS.1.2.1
  unfold q_warmth m_warmth
  rw [hw.1.2.1, hw.1.2.2.2.2]
  by_cases h0 : 0 < sc 15 6
  · rw [if_pos h0, if_neg (c := S 39 26 ≤ 0) (by rw [hS.2.1.1, ← hS.1.1]; exact Int32.not_le.mpr h0)]
    by_cases hx : inn k.toInt64 0 60 = true
    · obtain ⟨i, hi, rfl⟩ := (inn_0 (M := 60) (by decide) (by decide)).mp hx
      rw [if_pos hx, if_neg (nI_pos (by omega)), if_pos (show nI i ≤ 60 from nI_le (b := 60) hi (by decide))]
    · rw [if_neg hx]
      rcases inn_01 (M := 60) (B := 60) (by decide) (by decide) rfl hx with h | h
      · rw [if_pos h]
      · by_cases h3 : k < 0
        · rw [if_pos h3]
        · rw [if_neg h3, if_neg (Int32.not_le.mpr h)]
  · rw [if_neg h0, if_pos (c := S 39 26 ≤ 0) (by rw [hS.2.1.1, ← hS.1.1]; exact Int32.not_lt.mp h0)]
theorem t_thing {V : (Nat → Int32) → Int32} {sc S : am_S} {T Q q a : Nat} {tt : Nat → Nat} {t x : Int32} (hS : SR sc S T Q) (hH : HR sc S T Q q a tt) : okC sc t x = okT S t x ∧ (okC sc t x = true → q_thing V sc t x = m_thing V S t x) := by
  have hw := hH.2.2.1.1
  have hT := hS.1.2.1
  have e2 : (!decide (x < 0) && !decide (6 < x)) = inn x.toInt64 0 6 := by
    by_cases h : inn x.toInt64 0 6 = true
    · obtain ⟨j, hj, rfl⟩ := (inn_0 (M := 6) (by decide) (by decide)).mp h
      rw [h, decide_eq_false (nI_pos (by omega)), decide_eq_false (show ¬ 6 < nI j from nI_nlt (a := 6) hj (by omega))]; rfl
    · rcases inn_01 (M := 6) (B := 6) (by decide) (by decide) rfl h with h1 | h1
      · rw [decide_eq_true h1, Bool.eq_false_iff.mpr h]; rfl
      · rw [decide_eq_true h1, Bool.eq_false_iff.mpr h]; cases decide (x < 0) <;> rfl
  have e1 : okC sc t x = okT S t x := by
    unfold okC okT
    rw [e2, rl_T hS]
  refine ⟨e1, fun hok => ?_⟩
  rw [e1] at hok
  unfold okT at hok
  rw [rl_T hS] at hok
  obtain ⟨h1, h2⟩ := Bool.and_eq_true_iff.mp hok
  obtain ⟨j, hj, rfl⟩ := isT_nI hS.1 h1
  obtain ⟨c, hc, rfl⟩ := (inn_0 (M := 6) (by decide) (by decide)).mp h2
  unfold q_thing m_thing
  obtain ⟨s1, s2, s3⟩ := hS.2.2.1 j hj
  obtain ⟨r1, r2, r3⟩ := hw.2.1 j hj
  have hh : hdN V sc j = hnm V S (S 52) j := (rl_hd hS hw hj).symm
  rw [cl_nI (show j < 2 ^ 31 by omega), cl_nI (show c < 2 ^ 31 by omega), s1, s2, s3, r1, r2, r3, hh]
  have : c = 0 ∨ c = 1 ∨ c = 2 ∨ c = 3 ∨ c = 4 ∨ c = 5 ∨ c = 6 := by omega
  have n0 : ∀ x y : Int32, (if (nI 0) = (0 : Int32) then x else y) = x := fun x y => if_pos rfl
  rcases this with rfl | rfl | rfl | rfl | rfl | rfl | rfl
  · rw [if_pos (by decide), if_neg (by decide), if_neg (by decide), if_neg (by decide), if_neg (by decide)]; rfl
  · rw [if_neg (by decide), if_pos (by decide), if_neg (by decide), if_neg (by decide), if_neg (by decide), if_neg (by decide)]
  · rw [if_neg (by decide), if_neg (by decide), if_pos (by decide), if_neg (by decide), if_neg (by decide), if_neg (by decide), if_neg (by decide)]
  · rw [if_neg (by decide), if_neg (by decide), if_neg (by decide), if_pos (by decide), if_pos (by decide)]
  · rw [if_neg (by decide), if_neg (by decide), if_neg (by decide), if_neg (by decide), if_pos (by decide), if_neg (by decide), if_pos (by decide)]
  · rw [if_neg (by decide), if_neg (by decide), if_neg (by decide), if_neg (by decide), if_neg (by decide), if_pos (by decide), if_neg (by decide), if_neg (by decide), if_pos (by decide)]
  · rw [if_neg (by decide), if_neg (by decide), if_neg (by decide), if_neg (by decide), if_neg (by decide), if_neg (by decide), if_neg (by decide), if_neg (by decide), if_neg (by decide), if_pos (by decide)]
theorem t_log {sc S : am_S} {T Q q a : Nat} {tt : Nat → Nat} {i x : Int32} (hH : HR sc S T Q q a tt) : q_log sc (tt a) i x = m_log S (min 60 (tt a)) i x := by
  obtain ⟨hw, hb, ⟨ht, ht9, hG⟩, hl⟩ := hH.2.2.1
  unfold q_log m_log
  have hmn : mn 60 (sc 16 4) = nI (min 60 (tt a)) := by rw [hw.1.2.2.2.2, ht]; exact mn_nI (a := 60) (by decide) (by omega)
  rw [hmn, hG]
  by_cases h1 : i < 0
  · rw [if_pos h1, if_neg]
    rw [inn_i (A := 0) (B := ((nI (min 60 (tt a)) - 1).toInt64).toInt) (by decide) rfl]
    have : i.toInt < 0 := Int32.lt_iff_toInt_lt.mp h1
    rw [decide_eq_false (by omega), Bool.false_and]
    decide
  · rw [if_neg h1]
    obtain ⟨i0, hi0, rfl⟩ := nI_of h1
    by_cases h2 : nI (min 60 (tt a)) ≤ nI i0
    · rw [if_pos h2, if_neg]
      have h2' := (nI_leI (by omega) hi0).mp h2
      rcases Nat.eq_zero_or_pos (min 60 (tt a)) with e | e
      · rw [e, inn_i (A := 0) (B := -1) (by decide) (by decide), nI_toInt hi0, decide_eq_false (show ¬ (i0 : Int) ≤ -1 by omega), Bool.and_false]
        decide
      · rw [show nI (min 60 (tt a)) - 1 = nI (min 60 (tt a) - 1) from nI_m1 e, inn_i (A := 0) (B := ((min 60 (tt a) - 1 : Nat) : Int)) (by decide) (tI64 (by omega)), nI_toInt hi0, decide_eq_false (show ¬ (i0 : Int) ≤ ((min 60 (tt a) - 1 : Nat) : Int) by omega), Bool.and_false]
        decide
    · have h2' : i0 < min 60 (tt a) := by
        rcases Nat.lt_or_ge i0 (min 60 (tt a)) with e | e
        · exact e
        · exact absurd (nI_le e hi0) h2
      rw [if_neg h2, show nI (min 60 (tt a)) - 1 = nI (min 60 (tt a) - 1) from nI_m1 (by omega), if_pos ((inn_0 (M := min 60 (tt a) - 1) (by omega) (tI64 (by omega))).mpr ⟨i0, by omega, rfl⟩), cl_nI hi0]
      by_cases hx : inn x.toInt64 0 2 = true
      · obtain ⟨x0, hx0, rfl⟩ := (inn_0 (M := 2) (by decide) (by decide)).mp hx
        rw [if_pos hx, if_neg (nI_pos (by omega)), if_pos (show nI x0 < 3 from nI_lt (b := 3) (by omega) (by decide)), cl_nI (by omega), hl (min 60 (tt a) - 1 - i0) x0 (by omega) (by omega), show tt a - min 60 (tt a) + (min 60 (tt a) - 1 - i0) = tt a - 1 - i0 by omega]
      · rw [if_neg hx]
        rcases inn_01 (M := 2) (B := 2) (by decide) (by decide) rfl hx with h | h
        · rw [if_pos h]
        · by_cases h3 : x < 0
          · rw [if_pos h3]
          · rw [if_neg h3, if_neg]
            intro z
            obtain ⟨y, hy, rfl⟩ := nI_lt7 (T := 3) (by decide) (Int32.not_lt.mp h3) z
            exact absurd h (show ¬ 2 < nI y from nI_nlt (a := 2) (by omega) (by omega))
theorem gm_0 {sc S : am_S} {T Q j p q : Nat} (hS : SR sc S T Q) (hw : RW (sc 16) (S 52) T Q) (hj : j < T) (hp : p < Q) (hq : q < Q) {x y : Int32} (hx : x = 0 ∨ x = 1) (hy : y = 0 ∨ y = 1) : fH sc p j x y = gmO S j p q x y 0 ∧ sH sc p q j x y = gmO S j p q x y 1 := by
  have e1 : skm (S 52) j p = sk sc p j := by unfold skm sk; rw [(hw.2.1 j hj).2.1, (hw.2.2 p hp).1]
  have e2 : skm (S 52) j q = sk sc q j := by unfold skm sk; rw [(hw.2.1 j hj).2.1, (hw.2.2 q hq).1]
  have ed : sc 20 j = S 46 (5 * j + 2) := (hS.2.2.1 j hj).2.2
  unfold fH sH gmO gn
  rw [ed]
  have r0 : (if (0 : Int32) = 0 then p else q) = p := if_pos rfl
  have r1 : (if (1 : Int32) = 0 then p else q) = q := if_neg (by decide)
  rw [r0, r1, e1, e2]
  rcases hx with rfl | rfl <;> rcases hy with rfl | rfl <;> cases sk sc p j <;> cases sk sc q j <;> simp [bB]
theorem nC_01 {x : Int32} : nC x = !inn x.toInt64 0 1 := by
  unfold nC
  by_cases h : inn x.toInt64 0 1 = true
  · obtain ⟨j, hj, rfl⟩ := (inn_0 (M := 1) (by decide) (by decide)).mp h
    rw [h, decide_eq_false (nI_pos (by omega)), decide_eq_true (show nI j ≤ 1 from nI_le (b := 1) hj (by decide))]; rfl
  · rw [Bool.eq_false_iff.mpr h]
    rcases inn_01 (M := 1) (B := 1) (by decide) (by decide) rfl h with h1 | h1
    · rw [decide_eq_true h1]; rfl
    · rw [decide_eq_false (Int32.not_le.mpr h1)]; cases decide (x < 0) <;> rfl
theorem in01 {x : Int32} (h : inn x.toInt64 0 1 = true) : x = 0 ∨ x = 1 := by
  obtain ⟨j, hj, rfl⟩ := (inn_0 (M := 1) (by decide) (by decide)).mp h
  have : j = 0 ∨ j = 1 := by omega
  rcases this with rfl | rfl
  · exact Or.inl rfl
  · exact Or.inr rfl
theorem ig_eq {sc S : am_S} {T Q : Nat} {p q t : Int32} (hS : SR sc S T Q) (hw : RW (sc 16) (S 52) T Q) (hb : RB (S 52) T Q) : igm S p q t = cB sc p q t := by
  unfold igm cB
  rw [rl_R hS, rl_R hS, rl_sl hS hw hb, sl_F]
  by_cases h1 : slF sc (sc 16) t = true
  · have h1' := h1
    unfold slF at h1'
    obtain ⟨j, hj, rfl⟩ := isT_nI hS.1 (Bool.and_eq_true_iff.mp h1').1
    have hT := hS.1.2.1
    rw [cl_nI (by omega), (hS.2.2.1 j hj).1]
  · rw [Bool.eq_false_iff.mpr h1, Bool.false_and, Bool.false_and]
theorem cB_in {sc S : am_S} {T Q : Nat} {p q t : Int32} (hS : SR sc S T Q) (h : cB sc p q t = true) : ∃ p' q' j, p' < Q ∧ q' < Q ∧ j < T ∧ p = nI p' ∧ q = nI q' ∧ t = nI j := by
  unfold cB at h
  simp only [Bool.and_eq_true] at h
  obtain ⟨p', hp, rfl⟩ := isR_nI hS.1 h.1
  obtain ⟨q', hq, rfl⟩ := isR_nI hS.1 h.2.1
  have h4 := h.2.2.2.1
  unfold sl at h4
  obtain ⟨j, hj, rfl⟩ := isT_nI hS.1 (Bool.and_eq_true_iff.mp h4).1
  exact ⟨p', q', j, hp, hq, hj, rfl, rfl, rfl⟩
theorem t_game {sc S : am_S} {T Q q a : Nat} {tt : Nat → Nat} {p1 p2 t x y v : Int32} (hS : SR sc S T Q) (hH : HR sc S T Q q a tt) : q_game sc p1 p2 t x y v = m_game S p1 p2 t x y v := by
  obtain ⟨hw, hb, -, -⟩ := hH.2.2.1
  have hT := hS.1.2.1
  have hQ := hS.1.2.2.2.1
  unfold q_game m_game
  rw [ig_eq hS hw hb, nC_01, nC_01, nC_01]
  by_cases hc : cB sc p1 p2 t = true
  · rw [if_neg (by rw [hc]; decide), if_pos hc]
    obtain ⟨p', q', j, hp, hq, hj, rfl, rfl, rfl⟩ := cB_in hS hc
    rw [cl_nI (by omega), cl_nI (by omega), cl_nI (by omega)]
    by_cases hx : inn x.toInt64 0 1 = true
    · rw [if_pos hx, if_neg (by rw [hx]; decide)]
      by_cases hy : inn y.toInt64 0 1 = true
      · rw [if_pos hy, if_neg (by rw [hy]; decide)]
        by_cases hv : inn v.toInt64 0 1 = true
        · rw [if_pos hv, if_neg (by rw [hv]; decide)]
          have hg := gm_0 hS hw hj hp hq (in01 hx) (in01 hy)
          rcases in01 hv with rfl | rfl
          · rw [if_pos rfl]; exact hg.1
          · rw [if_neg (by decide)]; exact hg.2
        · rw [if_neg hv, if_pos (by rw [Bool.eq_false_iff.mpr hv]; rfl)]
      · rw [if_neg hy, if_pos (by rw [Bool.eq_false_iff.mpr hy]; rfl)]
    · rw [if_neg hx, if_pos (by rw [Bool.eq_false_iff.mpr hx]; rfl)]
  · rw [if_pos (Bool.eq_false_iff.mpr hc), if_neg hc]
theorem t_rests {sc S : am_S} {T Q q a : Nat} {tt : Nat → Nat} {p1 p2 t i : Int32} (hS : SR sc S T Q) (hH : HR sc S T Q q a tt) : q_rests sc p1 p2 t i = m_rests S p1 p2 t i := by
  obtain ⟨hw, hb, -, -⟩ := hH.2.2.1
  have hT := hS.1.2.1
  have hQ := hS.1.2.2.2.1
  unfold q_rests m_rests
  rw [ig_eq hS hw hb]
  by_cases hc : cB sc p1 p2 t = true
  · rw [if_pos hc, if_pos hc]
    obtain ⟨p', q', j, hp, hq, hj, rfl, rfl, rfl⟩ := cB_in hS hc
    rw [cl_nI (by omega), cl_nI (by omega), cl_nI (by omega)]
    have hg : ∀ x y : Int32, (x = 0 ∨ x = 1) → (y = 0 ∨ y = 1) → rS sc p' q' j x y = rsP S j p' q' x y := by
      intro x y hx hy
      unfold rS rsP
      have hx' : 1 - x = 0 ∨ 1 - x = 1 := by rcases hx with rfl | rfl <;> decide
      have hy' : 1 - y = 0 ∨ 1 - y = 1 := by rcases hy with rfl | rfl <;> decide
      rw [(gm_0 hS hw hj hp hq hx hy).1, (gm_0 hS hw hj hp hq hx hy).2, (gm_0 hS hw hj hp hq hx' hy).1, (gm_0 hS hw hj hp hq hx hy').2]
    unfold aRest
    rw [hg 0 0 (Or.inl rfl) (Or.inl rfl), hg 0 1 (Or.inl rfl) (Or.inr rfl), hg 1 0 (Or.inr rfl) (Or.inl rfl), hg 1 1 (Or.inr rfl) (Or.inr rfl)]
    by_cases hi : -1 ≤ i
    · rw [if_pos hi]
      simp only [rsG, rsL]
      rfl
    · rw [if_neg hi]
      have hlt := Int32.not_le.mp hi
      have hne : ∀ n : Nat, n < 10 → ¬ nI n = i := by
        intro n hn e
        rw [← e] at hlt
        exact absurd hlt (Int32.not_lt.mpr (Int32.le_of_lt (Int32.lt_of_lt_of_le (by decide) (nI_pos' (by omega)))))
      have hm1 : ¬ i = -1 := fun e => hi (by rw [e]; decide)
      have key : ∀ (L : List (Bool × Int32)) (n : Nat), n + L.length < 10 → rsG L i (nI n) = -1 := by
        intro L
        induction L with
        | nil => intro n _; simp only [rsG]; rw [if_neg hm1]
        | cons z r ih =>
          intro n hn
          simp only [List.length_cons] at hn
          simp only [rsG]
          rw [if_neg (hne n (by omega)), nI_1, ih (n + 1) (by omega), ih n (by omega), ite_self]
      exact key _ 0 (Nat.le_of_ble_eq_true rfl)
  · rw [if_neg hc, if_neg hc]
