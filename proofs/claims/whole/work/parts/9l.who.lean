/-! notes: who and ask -/
def NR (sc sm : am_S) (T Q N : Nat) : Prop := sc 32 4 = nI N ∧ sm 39 47 = nI N ∧ N ≤ 10 ∧ ∀ i, i < N → (∃ j, j < T ∧ sc 34 i = nI j) ∧ (∃ r, r < Q ∧ sc 33 i = nI r) ∧ sm 60 (3 * i) = sc 33 i ∧ sm 60 (3 * i + 1) = sc 34 i ∧ sm 60 (3 * i + 2) = sc 35 i ∧ (sc 35 i = 0 ∨ sc 35 i = 1)
theorem fs_cg {P R : Nat → Bool} : ∀ (d i : Nat), (∀ q, i ≤ q → q < i + d → P q = R q) → fs P i d = fs R i d
  | 0, _, _ => rfl
  | d + 1, i, h => by
    simp only [fs]
    rw [h i (Nat.le_refl _) (by omega), fs_cg d (i + 1) (fun q h1 h2 => h q (by omega) (by omega))]
theorem rl_wK {sc sm : am_S} {T Q j : Nat} {c r : Int32} (hw : RW (sc 16) (sm 52) T Q) (hj : j < T) : wK sc c r j = kB (sm 52) c j r := by
  unfold wK kB
  rw [rl_kn hw hj, Bool.or_comm]
theorem rl_aS {sc sm : am_S} {T Q N : Nat} {c : Int32} (hT : T ≤ 7) (hw : RW (sc 16) (sm 52) T Q) (hN : NR sc sm T Q N) : (fs (mmi sm c) 0 N).isNone = aS sc c N := by
  unfold aS
  rw [fs_cg N 0 (fun i _ hi => ?_)]
  obtain ⟨⟨j, hj, hje⟩, -, h1, h2, h3, h4⟩ := hN.2.2.2 i (by omega)
  unfold mmi aSi
  rw [h1, h2, h3, hje, cl_nI (by omega), rl_wK hw hj]
  rcases h4 with h | h <;> rw [h] <;> cases kB (sm 52) c j (sc 33 i) <;> rfl
def lst (P : Nat → Bool) : Nat → Nat → List Int32
  | _, 0 => []
  | c, d + 1 => if P c = true then nI c :: lst P (c + 1) d else lst P (c + 1) d
theorem lst_app {P : Nat → Bool} {e : Nat} : ∀ (d c : Nat), lst P c (d + e) = lst P c d ++ lst P (c + d) e
  | 0, c => by rw [Nat.zero_add, Nat.add_zero]; rfl
  | d + 1, c => by
    rw [show d + 1 + e = d + e + 1 by omega]
    simp only [lst]
    rw [lst_app d (c + 1), show c + 1 + d = c + (d + 1) by omega]
    split <;> rfl
theorem lst_no {P : Nat → Bool} : ∀ (d c : Nat), (∀ q, c ≤ q → q < c + d → P q = false) → lst P c d = []
  | 0, _, _ => rfl
  | d + 1, c, h => by
    simp only [lst]
    rw [if_neg (by rw [h c (Nat.le_refl _) (by omega)]; decide)]
    exact lst_no d (c + 1) (fun q h1 h2 => h q (by omega) (by omega))
theorem lst_len {P : Nat → Bool} : ∀ (d c : Nat), (lst P c d).length ≤ d
  | 0, _ => Nat.le_refl _
  | d + 1, c => by
    simp only [lst]
    have := lst_len (P := P) d (c + 1)
    split
    · rw [List.length_cons]; omega
    · omega
theorem who_m1 {P : Nat → Bool} : ∀ (d c n : Nat), n + d < 1000 → whoL P (-1) c d (nI n) = nI (n + (lst P c d).length)
  | 0, c, n, _ => by simp [whoL, lst]
  | d + 1, c, n, h => by
    simp only [whoL, lst]
    by_cases hp : P c = true
    · rw [if_pos hp, if_pos hp, if_neg (nI_m1n (by omega)), nI_1, who_m1 d (c + 1) (n + 1) (by omega), List.length_cons]
      exact congrArg nI (by omega)
    · rw [if_neg hp, if_neg hp, who_m1 d (c + 1) n (by omega)]
theorem who_k {P : Nat → Bool} {k : Nat} (hk : k < 2 ^ 31) : ∀ (d c n : Nat), n + d < 1000 → n ≤ k → whoL P (nI k) c d (nI n) = ((lst P c d)[k - n]?).getD (-1)
  | 0, c, n, _, _ => by
    simp only [whoL, lst]
    rw [if_neg]
    · rfl
    · intro e
      have : ¬ nI k < 0 := nI_pos hk
      rw [e] at this
      exact this (by decide)
  | d + 1, c, n, h, hn => by
    simp only [whoL, lst]
    by_cases hp : P c = true
    · rw [if_pos hp, if_pos hp]
      by_cases e : n = k
      · subst e
        rw [if_pos rfl, Nat.sub_self]
        rfl
      · rw [if_neg (fun z => e ((nI_eq (by omega) hk).mp z)), nI_1, who_k hk d (c + 1) (n + 1) (by omega) (by omega), show k - n = (k - (n + 1)) + 1 by omega]
        rfl
    · rw [if_neg hp, if_neg hp, who_k hk d (c + 1) n (by omega) hn]
theorem rl_fL {sc sm : am_S} {T Q N : Nat} (hS : SR sc sm T Q) (hw : RW (sc 16) (sm 52) T Q) (hN : NR sc sm T Q N) : fL sc N T Q = lst (fun c => ftm sm N (nI c)) 0 100 := by
  have hT := hS.1.2.1
  have hQ := hS.1.2.2.2.1
  have hdm : ∀ t r, t < 10 → r < 10 → nI (10 * t + r) / 10 = nI t ∧ nI (10 * t + r) - nI (10 * t + r) / 10 * 10 = nI r := by
    intro t r ht hr
    have e1 : nI (10 * t + r) / 10 = nI ((10 * t + r) / 10) := pk_div (d := 10) (by omega) (by decide) (by decide)
    have e2 : nI (10 * t + r) - nI (10 * t + r) / 10 * 10 = nI ((10 * t + r) % 10) := pk_rem (d := 10) (by omega) (by decide) (by decide)
    rw [e2, e1, show (10 * t + r) / 10 = t by omega, show (10 * t + r) % 10 = r by omega]
    exact ⟨rfl, rfl⟩
  have hc : ∀ t r, t < 9 → r < 10 → isC sm (nI (10 * t + r)) = (decide (t < T) && (decide (r < Q) && !hs (sm 52 (3 * t + 2)) (nI r))) := by
    intro t r ht hr
    unfold isC
    rw [if_neg (show ¬ nI (10 * t + r) = 99 from fun z => absurd ((nI_eq (a := 10 * t + r) (b := 99) (by omega) (by decide)).mp z) (by omega)), (hdm t r (by omega) hr).2, (hdm t r (by omega) hr).1, cl_nI (by omega)]
    unfold isTm isRm
    rw [hS.2.1.1, hS.2.1.2.2.1, decide_eq_true (nI_pos' (show t < 2 ^ 31 by omega)), decide_eq_true (nI_pos' (show r < 2 ^ 31 by omega)), Bool.true_and, Bool.true_and, show decide (nI t < nI T) = decide (t < T) from decide_eq_decide.mpr (nI_ltI (by omega) (by omega)), show decide (nI r < nI Q) = decide (r < Q) from decide_eq_decide.mpr (nI_ltI (by omega) (by omega))]
  have hin : ∀ t, t < T → ∀ e, e ≤ Q → ∀ L, fd (fI sc N t) 0 e L = L ++ lst (fun c => ftm sm N (nI c)) (10 * t) e := by
    intro t ht e
    induction e with
    | zero => intro _ L; exact (List.append_nil L).symm
    | succ e ih =>
      intro he L
      rw [fd_snoc, Nat.zero_add, ih (by omega), show e + 1 = e + 1 from rfl, lst_app e (10 * t)]
      unfold fI
      have hP : ftm sm N (nI (10 * t + e)) = (!kn sc (nI e) t && aS sc (nI (10 * t + e)) N) := by
        unfold ftm
        rw [hc t e (by omega) (by omega), decide_eq_true ht, decide_eq_true (show e < Q by omega), rl_aS hT hw hN, rl_kn hw ht, Bool.true_and, Bool.true_and]
      have e10 : (10 : Int32) * nI t + nI e = nI (10 * t + e) := by rw [show (10 : Int32) * nI t = nI (10 * t) from pk_mul 10 t, nI_add]
      rw [e10]
      simp only [lst]
      by_cases h1 : kn sc (nI e) t = true
      · rw [if_pos h1, if_neg (show ¬ ftm sm N (nI (10 * t + e)) = true by rw [hP, h1]; simp), List.append_nil]
      · rw [if_neg h1]
        by_cases h2 : aS sc (nI (10 * t + e)) N = true
        · rw [if_pos h2, if_pos (show ftm sm N (nI (10 * t + e)) = true by rw [hP, h2, Bool.eq_false_iff.mpr h1]; rfl), List.append_assoc]
        · rw [if_neg h2, if_neg (show ¬ ftm sm N (nI (10 * t + e)) = true by rw [hP, Bool.eq_false_iff.mpr h2]; simp), List.append_nil]
  have hblk : ∀ t, t < T → lst (fun c => ftm sm N (nI c)) (10 * t) 10 = lst (fun c => ftm sm N (nI c)) (10 * t) Q := by
    intro t ht
    have := lst_app (P := fun c => ftm sm N (nI c)) (e := 10 - Q) Q (10 * t)
    rw [show Q + (10 - Q) = 10 by omega] at this
    rw [this, lst_no (10 - Q) (10 * t + Q) (fun q h1 h2 => ?_), List.append_nil]
    show ftm sm N (nI q) = false
    unfold ftm
    have e := hc t (q - 10 * t) (by omega) (by omega)
    rw [show 10 * t + (q - 10 * t) = q by omega] at e
    rw [e, decide_eq_false (show ¬ q - 10 * t < Q by omega), Bool.false_and, Bool.and_false, Bool.false_and]
  have hout : ∀ d, d ≤ T → fd (fO sc N Q) 0 d [] = lst (fun c => ftm sm N (nI c)) 0 (10 * d) := by
    intro d
    induction d with
    | zero => exact fun _ => rfl
    | succ d ih =>
      intro hd
      rw [fd_snoc, Nat.zero_add, ih (by omega)]
      unfold fO
      rw [hin d (by omega) Q (Nat.le_refl _), ← hblk d (by omega), show 10 * (d + 1) = 10 * d + 10 by omega, lst_app (10 * d) 0, Nat.zero_add]
  have h100 : lst (fun c => ftm sm N (nI c)) 0 100 = lst (fun c => ftm sm N (nI c)) 0 (10 * T) ++ (if aS sc 99 N = true then [99] else []) := by
    have e1 := lst_app (P := fun c => ftm sm N (nI c)) (e := 100 - 10 * T) (10 * T) 0
    rw [show 10 * T + (100 - 10 * T) = 100 by omega, Nat.zero_add] at e1
    have e2 := lst_app (P := fun c => ftm sm N (nI c)) (e := 1) (99 - 10 * T) (10 * T)
    rw [show 99 - 10 * T + 1 = 100 - 10 * T by omega, show 10 * T + (99 - 10 * T) = 99 by omega] at e2
    rw [e1, e2, lst_no (99 - 10 * T) (10 * T) (fun q h1 h2 => ?_), List.nil_append]
    · simp only [lst]
      have h99 : ftm sm N (nI 99) = aS sc 99 N := by
        unfold ftm isC
        rw [if_pos (show nI 99 = 99 from rfl), Bool.true_and]
        exact rl_aS hT hw hN
      by_cases h : aS sc 99 N = true
      · rw [if_pos (show ftm sm N (nI 99) = true from h99.trans h), if_pos h]; rfl
      · rw [if_neg (show ¬ ftm sm N (nI 99) = true from fun z => h (h99.symm.trans z)), if_neg h]
    · show ftm sm N (nI q) = false
      unfold ftm
      by_cases h9 : q < 90
      · have e := hc (q / 10) (q % 10) (by omega) (by omega)
        rw [show 10 * (q / 10) + q % 10 = q by omega] at e
        rw [e, decide_eq_false (show ¬ q / 10 < T by omega), Bool.false_and, Bool.false_and]
      · have hz : isC sm (nI q) = false := by
          unfold isC
          have e := hdm 9 (q - 90) (by decide) (by omega)
          rw [show 10 * 9 + (q - 90) = q by omega] at e
          rw [if_neg (show ¬ nI q = 99 from fun z => absurd ((nI_eq (a := q) (b := 99) (by omega) (by decide)).mp z) (by omega)), e.2, e.1]
          unfold isTm
          rw [hS.2.1.1, decide_eq_false (nI_nlt (a := 9) (b := T) (by omega) (by decide)), Bool.and_false, Bool.false_and]
        rw [hz, Bool.false_and]
  unfold fL
  rw [hout T (Nat.le_refl _), h100]
  by_cases h : aS sc 99 N = true
  · rw [if_pos h, if_pos h]
  · rw [if_neg h, if_neg h, List.append_nil]
theorem t_who {sc S : am_S} {T Q q a N : Nat} {tt : Nat → Nat} {i : Int32} (hS : SR sc S T Q) (hH : HR sc S T Q q a tt) (hN : NR sc S T Q N) : q_who sc N T Q i = m_who S N i := by
  have hw := hH.2.2.1.1
  unfold q_who m_who
  by_cases h0 : S 39 26 = 0
  · rw [if_pos h0, if_neg (fun z => (rl_0 hS).mp z h0)]
  · rw [if_neg h0, if_pos ((rl_0 hS).mpr h0)]
    unfold aFit
    rw [rl_fL hS hw hN]
    have hlen := lst_len (P := fun c => ftm S N (nI c)) 100 0
    by_cases h1 : i = -1
    · rw [if_pos h1, if_neg (by rw [h1]; decide), h1]
      have := who_m1 (P := fun c => ftm S N (nI c)) 100 0 0 (by decide)
      rw [Nat.zero_add] at this
      exact this.symm
    · rw [if_neg h1]
      by_cases h2 : i < 0
      · rw [if_pos h2]
        by_cases h3 : i < -1
        · rw [if_pos h3]
        · exfalso
          have e1 := Int32.lt_iff_toInt_lt.mp h2
          have e2 := Int32.le_iff_toInt_le.mp (Int32.not_lt.mp h3)
          rw [show (0 : Int32).toInt = 0 from rfl] at e1
          rw [show (-1 : Int32).toInt = -1 from rfl] at e2
          exact h1 (Int32.toInt_inj.mp (by rw [show (-1 : Int32).toInt = -1 from rfl]; omega))
      · rw [if_neg h2, if_neg (c := i < -1) (fun z => h2 (Int32.lt_of_lt_of_le z (by decide)))]
        obtain ⟨k, hk, rfl⟩ := nI_of h2
        have hw1 := who_k (P := fun c => ftm S N (nI c)) hk 100 0 0 (by decide) (Nat.zero_le _)
        rw [Nat.sub_zero] at hw1
        rw [show (0 : Int32) = nI 0 from rfl] 
        rw [hw1]
        by_cases h4 : nI (lst (fun c => ftm S N (nI c)) 0 100).length ≤ nI k
        · rw [if_pos h4]
          have h4' := (nI_leI (by omega) hk).mp h4
          rw [List.getElem?_eq_none h4']
          rfl
        · rw [if_neg h4, cl_nI hk]
          have h4' : k < (lst (fun c => ftm S N (nI c)) 0 100).length := by
            rcases Nat.lt_or_ge k (lst (fun c => ftm S N (nI c)) 0 100).length with e | e
            · exact e
            · exact absurd (nI_le e hk) h4
          rw [List.getD_eq_getElem?_getD, List.getElem?_eq_getElem h4']
          rfl
