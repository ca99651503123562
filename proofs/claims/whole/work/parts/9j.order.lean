/-! order and all -/
def xlt : Option Nat → Nat → Bool
  | none, _ => false
  | some q, n => decide (q < n)
def xeq : Option Nat → Nat → Bool
  | none, _ => false
  | some q, n => decide (q = n)
theorem xlt_s (x : Option Nat) (n : Nat) : (if xlt x n = true then 1 else 0) + (if xeq x n = true then 1 else 0) = (if xlt x (n + 1) = true then 1 else 0) := by
  cases x with
  | none => rfl
  | some q =>
    simp only [xlt, xeq, decide_eq_true_eq]
    by_cases e1 : q < n
    · rw [if_pos e1, if_neg (show ¬ q = n by omega), if_pos (show q < n + 1 by omega)]
    · by_cases e2 : q = n
      · rw [if_neg e1, if_pos e2, if_pos (show q < n + 1 by omega)]
      · rw [if_neg e1, if_neg e2, if_neg (show ¬ q < n + 1 by omega)]
theorem or_row {c mf : Nat → Int32} {T k : Nat} (h : ∀ t, t < T → (mf t = nI k ↔ c t = nI k)) : ∀ (d i : Nat) (a : Int32) (n : Nat), i + d ≤ T → fd (orI c k) i d (a, nI n) = (fd (fun i a => if mf i = nI k then a * 10 + nI i else a) i d a, nI (n + (cN (fun t => decide (c t = nI k)) (i + d) - cN (fun t => decide (c t = nI k)) i)))
  | 0, i, a, n, _ => by
    simp only [fd]
    rw [Nat.add_zero, Nat.sub_self, Nat.add_zero]
  | d + 1, i, a, n, hi => by
    simp only [fd]
    have hm := cN_mono (P := fun t => decide (c t = nI k)) (show i + 1 ≤ i + 1 + d by omega)
    have e1 : cN (fun t => decide (c t = nI k)) (i + 1) = cN (fun t => decide (c t = nI k)) i + (if decide (c i = nI k) = true then 1 else 0) := rfl
    unfold orI
    by_cases hc : c i = nI k
    · rw [if_pos hc, if_pos ((h i (by omega)).mpr hc), show ((10 : Int32) * a + nI i, nI n + 1) = (a * 10 + nI i, nI (n + 1)) from by (rw [Int32.mul_comm, nI_1])]
      have ih := or_row h d (i + 1) (a * 10 + nI i) (n + 1) (by omega)
      unfold orI at ih
      rw [ih]
      rw [decide_eq_true hc, if_pos rfl] at e1
      refine Prod.ext rfl (congrArg nI ?_)
      rw [show i + (d + 1) = i + 1 + d by omega]
      show n + 1 + _ = n + _
      omega
    · rw [if_neg hc, if_neg (fun z => hc ((h i (by omega)).mp z))]
      have ih := or_row h d (i + 1) a n (by omega)
      unfold orI at ih
      rw [ih]
      rw [decide_eq_false hc, if_neg (by decide)] at e1
      refine Prod.ext rfl (congrArg nI ?_)
      rw [show i + (d + 1) = i + 1 + d by omega]
      show n + _ = n + _
      omega
theorem cN_ext {P Q : Nat → Bool} : ∀ t, (∀ q, q < t → P q = Q q) → cN P t = cN Q t
  | 0, _ => rfl
  | t + 1, h => by
    simp only [cN]
    rw [cN_ext t (fun q hq => h q (by omega)), h t (by omega)]
theorem or_all {c mf : Nat → Int32} {X : Nat → Option Nat} {T M : Nat} (hM : M ≤ 24) (hX : ∀ t, t < T → ∀ q, X t = some q → q < 24) (hc : ∀ t, t < T → c t = oN (X t) ∧ mf t = o1 (X t)) : ∀ n, n ≤ M → fd (orO c T) 1 n (0, 0) = (fd (fun k a => fd (fun i a => if mf i = nI k then a * 10 + nI i else a) 0 T a) 1 n 0, nI (cN (fun t => xlt (X t) n) T))
  | 0, _ => by
    simp only [fd]
    rw [cN_no T (fun q _ => by cases X q <;> rfl)]
    rfl
  | n + 1, h => by
    rw [fd_snoc, fd_snoc, or_all hM hX hc n (by omega)]
    unfold orO
    have hk : ∀ t, t < T → (mf t = nI (1 + n) ↔ c t = nI (1 + n)) := by
      intro t ht
      rw [(hc t ht).1, (hc t ht).2]
      cases hx : X t with
      | none => exact ⟨fun z => absurd z (fun z => absurd ((nI_eq (a := 0) (b := 1 + n) (by decide) (by omega)).mp z) (by omega)), fun z => absurd z.symm (nI_m1n (by omega))⟩
      | some q => exact Iff.rfl
    rw [or_row hk T 0 _ _ (by omega)]
    refine Prod.ext rfl (congrArg nI ?_)
    rw [Nat.zero_add, show cN (fun t => decide (c t = nI (1 + n))) 0 = 0 from rfl, Nat.sub_zero]
    have e : cN (fun t => decide (c t = nI (1 + n))) T = cN (fun t => xeq (X t) n) T := by
      refine cN_ext T (fun t ht => ?_)
      rw [(hc t ht).1]
      cases hx : X t with
      | none => exact decide_eq_false (fun z => absurd z.symm (nI_m1n (by omega)))
      | some q =>
        have hq := hX t ht q hx
        refine decide_eq_decide.mpr ?_
        show nI q + 1 = nI (1 + n) ↔ q = n
        rw [nI_1, nI_eq (by omega) (by omega)]
        omega
    rw [e]
    exact cN_add (fun t => xlt_s (X t) n) T
theorem or_many {mf : Nat → Int32} {X : Nat → Option Nat} {T : Nat} (hX : ∀ t, t < T → ∀ q, X t = some q → q < 24) (hc : ∀ t, t < T → mf t = o1 (X t)) : ∀ d, d ≤ T → fd (fun i a => if mf i ≤ 0 then a else a + 1) 0 d 0 = nI (cN (fun t => xlt (X t) 24) d)
  | 0, _ => rfl
  | d + 1, h => by
    rw [fd_snoc, Nat.zero_add, or_many hX hc d (by omega), hc d (by omega)]
    simp only [cN]
    have ho := o1_0 (x := X d) (m := 0) (fun q hq => by have := hX d (by omega) q hq; omega)
    have hcs : X d = none ∨ ∃ q, X d = some q := by
      cases X d with
      | none => exact Or.inl rfl
      | some q => exact Or.inr ⟨q, rfl⟩
    rcases hcs with hx | ⟨q, hx⟩
    · rw [if_pos (ho.2.2.2.mpr hx), if_neg (show ¬ xlt (X d) 24 = true by rw [hx]; decide)]
      rfl
    · rw [if_neg (fun z => by have := ho.2.2.2.mp z; rw [hx] at this; exact nomatch this), if_pos (show xlt (X d) 24 = true by rw [hx]; exact decide_eq_true (hX d (by omega) q hx))]
      exact nI_1 _
theorem t_order {V : (Nat → Int32) → Int32} {sc S : am_S} {T Q q a : Nat} {tt : Nat → Nat} {x : Int32} (hS : SR sc S T Q) (hH : HR sc S T Q q a tt) : q_order V sc T x = m_order V S T x := by
  obtain ⟨hw, hb, ⟨ht, ht9, -⟩, -⟩ := hH.2.2.1
  have hT := hS.1.2.1
  unfold q_order m_order
  rw [aA_eq hS, show inn (1 : Int32).toInt64 1 24 = true from by decide]
  by_cases h0 : S 39 26 = 0
  · rw [if_pos h0, decide_eq_true h0, if_neg (by simp)]
  · rw [if_neg h0, decide_eq_false h0]
    by_cases hx : inn x.toInt64 0 1 = true
    · obtain ⟨x0, hx0, rfl⟩ := (inn_0 (M := 1) (by decide) (by decide)).mp hx
      rw [if_pos hx, hx, if_pos (by decide)]
      obtain ⟨X, hXd⟩ : ∃ X : Nat → Option Nat, X = fun t => if S 52 (3 * t + 1) = 0 then none else mX V S t 0 0 24 := ⟨_, rfl⟩
      have hX : ∀ t, t < T → ∀ q, X t = some q → q < 24 := by
        intro t _ q hq
        rw [hXd] at hq
        dsimp only at hq
        by_cases e : S 52 (3 * t + 1) = 0
        · rw [if_pos e] at hq; exact nomatch hq
        · rw [if_neg e] at hq
          have := (fs_some 24 0 q hq).1
          omega
      have hc : ∀ t, t < T → com V S t = oN (X t) ∧ mf V sc 24 t = o1 (X t) := by
        intro t htT
        have hU := rl_mU (V := V) (h := 0) (w := 0) (m := 24) hS hw ht ht9 htT (by decide)
        rw [hXd]
        unfold com mf
        dsimp only
        by_cases e : S 52 (3 * t + 1) = 0
        · rw [if_pos e, if_pos e, if_neg (fun z => (rl_d0 hS hw hb htT).mp z e)]
          exact ⟨rfl, rfl⟩
        · rw [if_neg e, if_neg e, if_pos ((rl_d0 hS hw hb htT).mpr e)]
          exact ⟨hU.2, hU.1⟩
      rw [or_all (M := 24) (Nat.le_refl _) hX hc 24 (Nat.le_refl _)]
      unfold mAll
      have hmany : mMany V sc 24 0 T 0 = nI (cN (fun t => xlt (X t) 24) T) := or_many hX (fun t ht => (hc t ht).2) T (Nat.le_refl _)
      rw [hmany]
      rfl
    · rw [if_neg hx, Bool.eq_false_iff.mpr hx, if_neg (by decide)]
theorem t_all {V : (Nat → Int32) → Int32} {sc S : am_S} {T Q q a : Nat} {tt : Nat → Nat} {x : Int32} (hS : SR sc S T Q) (hH : HR sc S T Q q a tt) : q_all V sc T Q x = m_all V S T Q x := by
  obtain ⟨hw, hb, ⟨ht, ht9, -⟩, -⟩ := hH.2.2.1
  have hT := hS.1.2.1
  have hQ := hS.1.2.2.2.1
  unfold q_all m_all
  by_cases h0 : S 39 26 = 0
  · rw [if_pos h0, if_neg (fun z => (rl_0 hS).mp z h0)]
  · rw [if_neg h0, if_pos ((rl_0 hS).mpr h0)]
    have hF : ∀ y : Int32, aFore V sc T y = fd (grF V S y) 0 T (-1) := by
      intro y
      unfold aFore
      have key : ∀ d, d ≤ T → ((fd (fTF V sc y) 0 d (-1, 0)).1 = fd (grF V S y) 0 d (-1)) ∧ ((fd (fTF V sc y) 0 d (-1, 0)).1 = -1 ∨ ∃ j, j < d ∧ (fd (fTF V sc y) 0 d (-1, 0)).1 = nI j ∧ (fd (fTF V sc y) 0 d (-1, 0)).2 = vO V S y j) := by
        intro d
        induction d with
        | zero => exact fun _ => ⟨rfl, Or.inl rfl⟩
        | succ d ih =>
          intro hd
          obtain ⟨ih1, ih2⟩ := ih (by omega)
          rw [fd_snoc, fd_snoc, Nat.zero_add]
          generalize fd (fTF V sc y) 0 d (-1, 0) = z at ih1 ih2 ⊢
          generalize fd (grF V S y) 0 d (-1) = b at ih1 ⊢
          have hrk : rk V sc y d = vO V S y d := by
            unfold rk vO
            rw [show hdN V sc d = hdF V sc (sc 16) d from rfl, ← rl_hd hS hw (by omega), (hS.2.2.1 d (by omega)).2.2, (hw.2.1 d (by omega)).1]
          unfold fTF grF
          by_cases e : S 52 (3 * d + 1) = 0
          · rw [if_pos e, if_neg (fun z => (rl_d0 hS hw hb (by omega)).mp z e)]
            exact ⟨ih1, ih2.imp id (fun ⟨j, h1, h2⟩ => ⟨j, by omega, h2⟩)⟩
          · rw [if_neg e, if_pos ((rl_d0 hS hw hb (by omega)).mpr e), hrk]
            by_cases e1 : z.1 = -1
            · rw [if_pos e1, if_pos (c := b = -1) (by rw [← ih1]; exact e1)]
              exact ⟨rfl, Or.inr ⟨d, by omega, rfl, rfl⟩⟩
            · rw [if_neg e1, if_neg (c := b = -1) (by rw [← ih1]; exact e1)]
              rcases ih2 with h | ⟨j, h1, h2, h3⟩
              · exact absurd h e1
              · have hb1 : b = nI j := ih1.symm.trans h2
                rw [hb1, cl_nI (by omega), h3]
                by_cases e2 : vO V S y d ≤ vO V S y j
                · rw [if_pos e2, if_pos e2]
                  exact ⟨h2, Or.inr ⟨j, by omega, h2, h3⟩⟩
                · rw [if_neg e2, if_neg e2]
                  exact ⟨rfl, Or.inr ⟨d, by omega, rfl, rfl⟩⟩
      exact (key T (Nat.le_refl _)).1
    have hG : ∀ (y o : Nat), (∀ i, i < Q → sc 16 (o + i) = S 52 (21 + 2 * i + y)) → nI (fd (fun i a => if sc 16 (o + a) < sc 16 (o + i) then i else a) 1 (Q - 1) 0) = fd (gR S y) 1 (Q - 1) 0 := by
      intro y o ho
      have key : ∀ d, d ≤ Q - 1 → fd (fun i a => if sc 16 (o + a) < sc 16 (o + i) then i else a) 1 d 0 ≤ d ∧ nI (fd (fun i a => if sc 16 (o + a) < sc 16 (o + i) then i else a) 1 d 0) = fd (gR S y) 1 d 0 := by
        intro d
        induction d with
        | zero => exact fun _ => ⟨Nat.le_refl _, rfl⟩
        | succ d ih =>
          intro hd
          obtain ⟨ih0, ih1⟩ := ih (by omega)
          rw [fd_snoc, fd_snoc]
          generalize fd (fun i a => if sc 16 (o + a) < sc 16 (o + i) then i else a) 1 d 0 = z at ih0 ih1 ⊢
          rw [← ih1]
          unfold gR
          rw [cl_nI (by omega), ← ho (1 + d) (by omega), ← ho z (by omega)]
          by_cases e : sc 16 (o + z) < sc 16 (o + (1 + d))
          · rw [if_pos e, if_neg (Int32.not_le.mpr e)]
            exact ⟨by omega, rfl⟩
          · rw [if_neg e, if_pos (Int32.not_lt.mp e)]
            exact ⟨by omega, rfl⟩
      exact (key (Q - 1) (Nat.le_refl _)).2
    by_cases x0 : x = 0
    · rw [if_pos x0, if_pos x0, x0]; exact hF 0
    · rw [if_neg x0, if_neg x0]
      by_cases x1 : x = 1
      · rw [if_pos x1, if_pos x1, x1]; exact hF 1
      · rw [if_neg x1, if_neg x1]
        by_cases x2 : x = 2
        · rw [if_pos x2, if_pos x2, x2]; exact hF 2
        · rw [if_neg x2, if_neg x2]
          by_cases x3 : x = 3
          · rw [if_pos x3, if_pos x3]; exact hG 0 26 (fun i hi => (hw.2.2 i hi).1)
          · rw [if_neg x3, if_neg x3]
            by_cases x4 : x = 4
            · rw [if_pos x4, if_pos x4]; exact hG 1 31 (fun i hi => (hw.2.2 i hi).2)
            · rw [if_neg x4, if_neg x4]
              by_cases x5 : x = 5
              · rw [if_pos x5, if_pos x5]
                unfold sO
                refine fd_congr T 0 0 (fun i _ hi v => ?_)
                by_cases e : S 52 (3 * i + 1) = 0
                · rw [if_pos e, if_neg (fun z => (rl_d0 hS hw hb (by omega)).mp z e), Int32.or_zero]
                · rw [if_neg e, if_pos ((rl_d0 hS hw hb (by omega)).mpr e)]
              · rw [if_neg x5, if_neg x5]
                by_cases x6 : x = 6
                · rw [if_pos x6, if_pos x6]
                  refine fd_congr T 0 0 (fun i _ hi v => ?_)
                  rw [(hw.2.1 i (by omega)).2.2]
                  by_cases e : bitc (S 52 (3 * i + 2)) = 1
                  · rw [if_pos e, if_pos e]
                  · rw [if_neg e, if_neg e, Int32.or_zero]
                · rw [if_neg x6, if_neg x6]
                  by_cases x7 : x = 7
                  · rw [if_pos x7, if_pos x7]
                    refine fd_congr T 0 0 (fun i _ hi v => ?_)
                    rw [(hw.2.1 i (by omega)).2.1]
                  · rw [if_neg x7, if_neg x7, hw.1.2.2.2.1, hw.1.2.2.2.2]
