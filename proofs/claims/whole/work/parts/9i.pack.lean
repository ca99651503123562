/-! pack, order, all -/
theorem an_sub : ∀ x, x < 128 → ∀ S, S < 128 → ((nI x &&& (nI S ^^^ -1) = 0) ↔ x &&& S = x) := by decide +kernel
theorem clr1 : ∀ M, M < 128 → ∀ i, i < 7 → nI M &&& (bt i ^^^ -1) = nI (M &&& (127 ^^^ 2 ^ i)) ∧ M &&& (127 ^^^ 2 ^ i) < 128 := by decide +kernel
theorem clr2 : ∀ M, M < 128 → ∀ i, i < 7 → ∀ t, t < 7 → (M &&& (127 ^^^ 2 ^ i)).testBit t = (M.testBit t && !decide (t = i)) := by decide +kernel
theorem clr_d {P : Nat → Bool} {F : Nat → Int32 → Int32} (hF : ∀ i a, i < 7 → F i a = if P i = true then a &&& (bt i ^^^ -1) else a) : ∀ (d M : Nat), d ≤ 7 → M < 128 → ∃ M', M' < 128 ∧ fd F 0 d (nI M) = nI M' ∧ ∀ t, t < 7 → M'.testBit t = (M.testBit t && !(decide (t < d) && P t))
  | 0, M, _, hM => ⟨M, hM, rfl, fun t _ => by simp⟩
  | d + 1, M, h, hM => by
    obtain ⟨M', h1, h2, h3⟩ := clr_d hF d M (by omega) hM
    rw [fd_snoc, Nat.zero_add, h2, hF d _ (by omega)]
    by_cases hp : P d = true
    · rw [if_pos hp, (clr1 M' h1 d (by omega)).1]
      refine ⟨_, (clr1 M' h1 d (by omega)).2, rfl, fun t ht => ?_⟩
      rw [clr2 M' h1 d (by omega) t ht, h3 t ht]
      by_cases e : t = d
      · subst e; rw [hp]; simp
      · have e1 : (decide (t < d + 1) : Bool) = decide (t < d) := decide_eq_decide.mpr (by omega)
        rw [e1, decide_eq_false e]; simp
    · rw [if_neg hp]
      refine ⟨M', h1, rfl, fun t ht => ?_⟩
      rw [h3 t ht]
      by_cases e : t = d
      · subst e; rw [Bool.eq_false_iff.mpr hp]; simp
      · have e1 : (decide (t < d + 1) : Bool) = decide (t < d) := decide_eq_decide.mpr (by omega)
        rw [e1]
theorem and_sub {x S : Nat} (hx : x < 128) : x &&& S = x ↔ ∀ t, t < 7 → x.testBit t = true → S.testBit t = true := by
  constructor
  · intro h t _ ht
    have := congrArg (fun z => z.testBit t) h
    simp only [Nat.testBit_and] at this
    rw [ht] at this
    simpa using this
  · intro h
    refine Nat.eq_of_testBit_eq (fun t => ?_)
    rw [Nat.testBit_and]
    by_cases ht : t < 7
    · cases hb : x.testBit t with
      | false => rfl
      | true => rw [h t ht hb]; rfl
    · have : x.testBit t = false := Nat.testBit_lt_two_pow (Nat.lt_of_lt_of_le hx (show 2 ^ 7 ≤ 2 ^ t from Nat.pow_le_pow_right (by decide) (by omega)))
      rw [this]; rfl
/-- the sums over a set: class and reference -/
theorem pk_sum {V : (Nat → Int32) → Int32} {sc sm : am_S} {T Q m x tm : Nat} (hS : SR sc sm T Q) (hw : RW (sc 16) (sm 52) T Q) (hb : RB (sm 52) T Q) (ht : sm 52 35 = nI tm) (ht9 : tm ≤ 9999) (hm : m ≤ 60) (hx : x < 128) : ∀ d, d ≤ T → (∃ p, p ≤ 9 * d ∧ (fd (pkI (csm V sm m) (sm 46) x) 0 d (1, 0, 0)).2.2 = nI p) ∧ ((∀ t, t < d → x.testBit t = true → ¬ csm V sm m t = -1) → (fd (pkI (csm V sm m) (sm 46) x) 0 d (1, 0, 0)).1 = 1 ∧ fd (fun i (a : Int32 × Int32) => if tb (nI x) i then (a.1 + wN V sc i m, a.2 + sc 20 i) else a) 0 d (0, 0) = (fd (pkI (csm V sm m) (sm 46) x) 0 d (1, 0, 0)).2) ∧ ((∃ t, t < d ∧ x.testBit t = true ∧ csm V sm m t = -1) → (fd (pkI (csm V sm m) (sm 46) x) 0 d (1, 0, 0)).1 = 0) := by
  intro d
  induction d with
  | zero => exact fun _ => ⟨⟨0, Nat.le_refl _, rfl⟩, fun _ => ⟨rfl, rfl⟩, fun ⟨t, h, _⟩ => absurd h (by omega)⟩
  | succ d ih =>
    intro hd
    have hT := hS.1.2.1
    obtain ⟨⟨p, hp, hpe⟩, ih1, ih2⟩ := ih (by omega)
    rw [fd_snoc, fd_snoc, Nat.zero_add]
    generalize hz : fd (pkI (csm V sm m) (sm 46) x) 0 d (1, 0, 0) = z at hpe ih1 ih2 ⊢
    have hbit : hs (nI x) (nI d) = x.testBit d := hs_tb x hx d (by omega)
    have htb : tb (nI x) d = x.testBit d := bd_tb x hx d (by omega)
    obtain ⟨dp, hdp, hde⟩ := (hS.2.2.2.1 d (by omega)).2
    unfold pkI
    rw [hbit]
    by_cases hb1 : x.testBit d = true
    · rw [if_pos hb1]
      refine ⟨⟨p + dp, by omega, by show z.2.2 + sm 46 (5 * d + 2) = _; rw [hpe, hde, nI_add]⟩, fun h => ?_, fun h => ?_⟩
      · have h1 := ih1 (fun t ht => h t (by omega))
        have hc := h d (by omega) hb1
        refine ⟨by show (if z.1 = 0 then 0 else if csm V sm m d = -1 then 0 else 1) = (1 : Int32); rw [h1.1, if_neg (by decide), if_neg hc], ?_⟩
        dsimp only
        rw [h1.2, htb, if_pos hb1, (hS.2.2.1 d (by omega)).2.2]
        have hwn : wN V sc d m = csm V sm m d := by
          rw [rl_wN hS hw hb ht ht9 (by omega) hm]
          unfold csm at hc ⊢
          by_cases h0 : sm 52 (3 * d + 1) = 0
          · rw [if_pos h0] at hc; exact absurd rfl hc
          · rw [if_neg h0, if_neg h0]
        rw [hwn]
      · show (if z.1 = 0 then 0 else if csm V sm m d = -1 then 0 else 1) = (0 : Int32)
        obtain ⟨t, ht1, ht2, ht3⟩ := h
        by_cases e : t = d
        · subst e
          by_cases h0 : z.1 = 0
          · rw [if_pos h0]
          · rw [if_neg h0, if_pos ht3]
        · rw [if_pos (ih2 ⟨t, by omega, ht2, ht3⟩)]
    · rw [if_neg hb1]
      refine ⟨⟨p, by omega, hpe⟩, fun h => ?_, fun ⟨t, h1, h2, h3⟩ => ?_⟩
      · have h1 := ih1 (fun t ht => h t (by omega))
        refine ⟨h1.1, ?_⟩
        rw [htb, if_neg hb1, h1.2]
      · by_cases e : t = d
        · subst e; exact absurd h2 hb1
        · exact ih2 ⟨t, by omega, h2, h3⟩
theorem pk_eq2 {V : (Nat → Int32) → Int32} {sc sm : am_S} {T Q m tm : Nat} (hS : SR sc sm T Q) (hw : RW (sc 16) (sm 52) T Q) (hb : RB (sm 52) T Q) (ht : sm 52 35 = nI tm) (ht9 : tm ≤ 9999) (hm : m ≤ 60) : bK V sc T m = pkR V sm T m := by
  have hT := hS.1.2.1
  have hp7 := pw7 hT
  unfold bK pkR bK1 sO
  have h1 := fd_msk (F := fun i a => if sl sc (nI i) then a ||| bt i else a) (P := fun i => sl sc (nI i)) (fun _ _ _ => rfl) T hT
  have hlt : msk (fun i => sl sc (nI i)) T < 128 := Nat.lt_of_lt_of_le (msk_lt _ T hT) hp7
  obtain ⟨M, hM, h2, h3⟩ := clr_d (P := fun i => decide (wN V sc i m = -1)) (F := fun i a => if wN V sc i m = -1 then a &&& (bt i ^^^ -1) else a) (fun i a _ => by simp) T (msk (fun i => sl sc (nI i)) T) hT hlt
  rw [h1, h2]
  have key : ∀ (d i : Nat) (a : Int32 × Int32), i + d ≤ 2 ^ T → (∃ p, p ≤ 63 ∧ a.2 = nI p) → fd (bKF V sc T m (nI M)) i d a = fd (pkO (csm V sm m) (sm 46) (sm 52 31) T) i d a := by
    intro d
    induction d with
    | zero => intro _ _ _ _; rfl
    | succ d ih =>
      intro x a hi ⟨p, hp, hpe⟩
      simp only [fd]
      have hx : x < 128 := by omega
      obtain ⟨⟨q, hq, hqe⟩, hs1, hs2⟩ := pk_sum (V := V) (x := x) hS hw hb ht ht9 hm hx T (Nat.le_refl _)
      have hsub : (nI x &&& (nI M ^^^ -1) = 0) ↔ ∀ t, t < T → x.testBit t = true → ¬ csm V sm m t = -1 := by
        rw [an_sub x hx M hM, and_sub hx]
        have hmt : ∀ t, t < T → M.testBit t = !decide (csm V sm m t = -1) := by
          intro t htT
          rw [h3 t (by omega), msk_bit _ T hT t (by omega), decide_eq_true htT, rl_wN hS hw hb ht ht9 htT hm]
          unfold csm
          by_cases h0 : sm 52 (3 * t + 1) = 0
          · rw [if_pos h0, if_pos h0, show sl sc (nI t) = false from Bool.eq_false_iff.mpr (fun z => (rl_d0 hS hw hb htT).mp z h0)]; rfl
          · rw [if_neg h0, if_neg h0, show sl sc (nI t) = true from (rl_d0 hS hw hb htT).mpr h0]; simp
        constructor
        · intro h t htT hbt
          have := h t (by omega) hbt
          rw [hmt t htT] at this
          simpa using this
        · intro h t ht7 hbt
          by_cases htT : t < T
          · rw [hmt t htT]; simpa using h t htT hbt
          · exfalso
            have : x.testBit t = false := Nat.testBit_lt_two_pow (Nat.lt_of_lt_of_le (show x < 2 ^ T by omega) (Nat.pow_le_pow_right (by decide) (by omega)))
            rw [this] at hbt
            exact absurd hbt (by decide)
      have hstep : bKF V sc T m (nI M) x a = pkO (csm V sm m) (sm 46) (sm 52 31) T x a ∧ ∃ p, p ≤ 63 ∧ (bKF V sc T m (nI M) x a).2 = nI p := by
        unfold bKF pkO dK
        by_cases hall : ∀ t, t < T → x.testBit t = true → ¬ csm V sm m t = -1
        · obtain ⟨g1, g2⟩ := hs1 hall
          rw [if_pos (hsub.mpr hall)]
          generalize fd (pkI (csm V sm m) (sm 46) x) 0 T (1, 0, 0) = z at hqe g1 g2 ⊢
          dsimp only
          rw [g2, g1, if_neg (c := (1 : Int32) = 0) (by decide), hw.1.1]
          by_cases hle : z.2.1 ≤ sm 52 31
          · rw [if_pos hle, if_neg (Int32.not_lt.mpr hle)]
            by_cases hd2 : z.2.2 ≤ a.2
            · rw [if_pos hd2, if_neg (Int32.not_lt.mpr hd2)]
              exact ⟨rfl, p, hp, hpe⟩
            · rw [if_neg hd2, if_pos (Int32.not_le.mp hd2)]
              exact ⟨rfl, q, by omega, hqe⟩
          · rw [if_neg hle, if_pos (Int32.not_le.mp hle), if_pos (by rw [hpe]; exact Int32.le_of_lt (Int32.lt_of_lt_of_le (by decide) (nI_pos' (by omega))))]
            exact ⟨rfl, p, hp, hpe⟩
        · rw [if_neg (fun z => hall (hsub.mp z))]
          have hex : ∃ t, t < T ∧ x.testBit t = true ∧ csm V sm m t = -1 := by
            refine Classical.byContradiction (fun hn => hall (fun t h1 h2 h3 => hn ⟨t, h1, h2, h3⟩))
          have h0 := hs2 hex
          generalize fd (pkI (csm V sm m) (sm 46) x) 0 T (1, 0, 0) = z at h0 ⊢
          dsimp only
          rw [if_pos h0]
          exact ⟨rfl, p, hp, hpe⟩
      rw [ih (x + 1) _ (by omega) hstep.2, hstep.1]
  have h2T : 1 ≤ 2 ^ T := Nat.one_le_two_pow
  exact key (2 ^ T - 1) 1 (0, 0) (by omega) ⟨0, by decide, rfl⟩
theorem aA_eq {sc S : am_S} {T Q : Nat} {k w : Int32} (hS : SR sc S T Q) : aA sc k w = (!decide (S 39 26 = 0) && (inn k.toInt64 1 24 && inn w.toInt64 0 1)) := by
  unfold aA
  have e0 : decide (0 < sc 15 6) = !decide (S 39 26 = 0) := by
    by_cases h : S 39 26 = 0
    · rw [decide_eq_true h, decide_eq_false (fun z => (rl_0 hS).mp z h)]; rfl
    · rw [decide_eq_false h, decide_eq_true ((rl_0 hS).mpr h)]; rfl
  have e1 : (!nA k) = inn k.toInt64 1 24 := by
    by_cases h : inn k.toInt64 1 24 = true
    · rw [h, nA_no h]; rfl
    · rw [nA_of h, Bool.eq_false_iff.mpr h]; rfl
  have e2 : (!decide (w < 0) && !decide (1 < w)) = inn w.toInt64 0 1 := by
    by_cases h : inn w.toInt64 0 1 = true
    · obtain ⟨j, hj, rfl⟩ := (inn_0 (M := 1) (by decide) (by decide)).mp h
      rw [h, decide_eq_false (nI_pos (by omega)), decide_eq_false (show ¬ 1 < nI j from nI_nlt (a := 1) hj (by omega))]; rfl
    · rcases inn_01 (M := 1) (B := 1) (by decide) (by decide) rfl h with h1 | h1
      · rw [decide_eq_true h1, Bool.eq_false_iff.mpr h]; rfl
      · rw [decide_eq_true h1, Bool.eq_false_iff.mpr h]; cases decide (w < 0) <;> rfl
  rw [e0, e1, e2]
theorem t_pack {V : (Nat → Int32) → Int32} {sc S : am_S} {T Q q a : Nat} {tt : Nat → Nat} {k x : Int32} (hS : SR sc S T Q) (hH : HR sc S T Q q a tt) : q_pack V sc T k x = m_pack V S T k x := by
  obtain ⟨hw, hb, ⟨ht, ht9, -⟩, -⟩ := hH.2.2.1
  unfold q_pack m_pack
  rw [aA_eq hS]
  by_cases h0 : S 39 26 = 0
  · rw [if_pos h0, decide_eq_true h0, if_neg (by simp)]
  · rw [if_neg h0, decide_eq_false h0]
    by_cases hk : inn k.toInt64 1 24 = true
    · rw [if_pos hk, hk]
      by_cases hx : inn x.toInt64 0 1 = true
      · obtain ⟨m, m1, m2, rfl⟩ := (inn_1M (M := 24) (by decide) (by decide)).mp hk
        rw [if_pos hx, hx, if_pos (by decide), cl_nI (by omega), pk_eq2 hS hw hb ht ht9 (by omega)]
      · rw [if_neg hx, Bool.eq_false_iff.mpr hx, if_neg (by decide)]
    · rw [if_neg hk, Bool.eq_false_iff.mpr hk, if_neg (by simp)]
