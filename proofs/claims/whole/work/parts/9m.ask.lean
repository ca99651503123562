/-! ask, step, noted -/
def ef : List Int32 → Int32 → Int32
  | [], b => b
  | _ :: _, _ => 1
theorem ef_1 : ∀ L : List Int32, ef L 1 = 1
  | [] => rfl
  | _ :: _ => rfl
theorem lst_ln {S : am_S} {N t r : Nat} : ∀ (d c : Nat) (b x : Int32), fd (lnF S N t r) c d (b, x) = (ef (lst (fun c => ftm S N (nI c)) c d) b, (lst (fun c => ftm S N (nI c)) c d).foldl (fun a e => a + (if kB (S 52) e t (nI r) = true then 1 else -1)) x)
  | 0, _, _, _ => rfl
  | d + 1, c, b, x => by
    show fd (lnF S N t r) (c + 1) d (lnF S N t r c (b, x)) = _
    unfold lnF
    simp only [lst]
    by_cases h : ftm S N (nI c) = true
    · rw [if_pos h, if_pos h]
      have := lst_ln (S := S) (N := N) (t := t) (r := r) d (c + 1) 1 (x + (if kB (S 52) (nI c) t (nI r) = true then 1 else -1))
      refine this.trans ?_
      rw [ef_1]
      rfl
    · rw [if_neg h, if_neg h]
      exact lst_ln d (c + 1) b x
theorem ap_fd {s : am_S} {L : List Int32} {r : Int32} {t : Nat} : ∀ (d i : Nat) (a : Int32), i + d = L.length → fd (apF s L r t) i d a = (L.drop i).foldl (fun a e => a + (if wK s e r t = true then 1 else -1)) a
  | 0, i, a, h => by rw [List.drop_eq_nil_of_le (by omega)]; rfl
  | d + 1, i, a, h => by
    rw [List.drop_eq_getElem_cons (by omega)]
    show fd (apF s L r t) (i + 1) d (apF s L r t i a) = _
    rw [ap_fd d (i + 1) _ (by omega), List.foldl_cons]
    unfold apF
    rw [List.getD_eq_getElem?_getD, List.getElem?_eq_getElem (by omega)]
    rfl
theorem fold_cg {α : Type} {f g : α → Int32 → α} (h : ∀ a e, f a e = g a e) : ∀ (L : List Int32) (a : α), L.foldl f a = L.foldl g a
  | [], _ => rfl
  | e :: L, a => by rw [List.foldl_cons, List.foldl_cons, h, fold_cg h L]
def AK (L : List Int32) (a : Int32 × Int32) (b : Int32 × Int32 × Int32) : Prop := b.1 = a.1 ∧ b.2.1 = a.2 ∧ (L = [] → b.2.2 = 0) ∧ (¬ L = [] → b.2.2 = 0 → a.1 = -1)
theorem t_ask {sc S : am_S} {T Q q a N : Nat} {tt : Nat → Nat} (hS : SR sc S T Q) (hH : HR sc S T Q q a tt) (hN : NR sc S T Q N) : q_ask sc N T Q = m_ask S N T Q := by
  have hw := hH.2.2.1.1
  unfold q_ask m_ask
  by_cases h0 : S 39 26 = 0
  · rw [if_pos h0, if_neg (fun z => (rl_0 hS).mp z h0)]
  · rw [if_neg h0, if_pos ((rl_0 hS).mpr h0)]
    unfold aAsk
    have eL := rl_fL hS hw hN
    have hlen := lst_len (P := fun c => ftm S N (nI c)) 100 0
    obtain ⟨L, hL⟩ : ∃ L, L = fL sc N T Q := ⟨_, rfl⟩
    rw [← hL]
    rw [← hL] at eL
    have hap : ∀ t r, t < T → ap sc L (nI r) t = ab ((lst (fun c => ftm S N (nI c)) 0 100).foldl (fun a e => a + (if kB (S 52) e t (nI r) = true then 1 else -1)) 0) := by
      intro t r ht
      unfold ap
      rw [ap_fd L.length 0 0 (by omega), List.drop_zero, eL]
      exact congrArg ab (fold_cg (fun a e => by rw [rl_wK hw ht]) _ _)
    have hst : ∀ t r, t < T → ∀ x y, AK L x y → AK L (bqI sc L t r x) (akI S N t r y) := by
      rintro t r ht ⟨x1, x2⟩ ⟨y1, y2, y3⟩ ⟨e1, e2, e3, e4⟩
      dsimp only at e1 e2 e3 e4
      subst e1 e2
      unfold bqI akI
      rw [hap t r ht, lst_ln]
      dsimp only
      rw [← eL]
      have key : (L = [] → ef L y3 = 0) ∧ (¬ L = [] → ef L y3 = 0 → False) := by
        cases L with
        | nil => exact ⟨fun h => e3 h, fun h => absurd rfl h⟩
        | cons b L => exact ⟨fun h => (nomatch h), fun _ z => absurd (show (1 : Int32) = 0 from z) (by decide)⟩
      by_cases hx : y1 = -1
      · rw [if_pos hx, if_pos hx]
        exact ⟨rfl, rfl, key.1, fun h z => (key.2 h z).elim⟩
      · rw [if_neg hx, if_neg hx]
        by_cases hc : y2 ≤ ab (L.foldl (fun a e => a + (if kB (S 52) e t (nI r) = true then 1 else -1)) 0)
        · rw [if_pos hc, if_neg (Int32.not_lt.mpr hc)]
          exact ⟨rfl, rfl, key.1, fun h z => (key.2 h z).elim⟩
        · rw [if_neg hc, if_pos (Int32.not_le.mp hc)]
          exact ⟨rfl, rfl, key.1, fun h z => (key.2 h z).elim⟩
    have hin : ∀ t, t < T → ∀ d r x y, AK L x y → AK L (fd (bqI sc L t) r d x) (fd (akI S N t) r d y) := by
      intro t ht d
      induction d with
      | zero => exact fun r x y h => h
      | succ d ih => exact fun r x y h => ih (r + 1) _ _ (hst t r ht x y h)
    have hout : ∀ d t x y, t + d = T → AK L x y → AK L (fd (bqO sc L Q) t d x) (fd (akO S N Q) t d y) := by
      intro d
      induction d with
      | zero => exact fun t x y _ h => h
      | succ d ih => exact fun t x y ht h => ih (t + 1) _ _ (by omega) (hin t (by omega) Q 0 x y h)
    have hfin := hout T 0 (-1, 0) (-1, 0, 0) (by omega) ⟨rfl, rfl, fun _ => rfl, fun _ _ => rfl⟩
    generalize fd (bqO sc L Q) 0 T (-1, 0) = X at hfin ⊢
    generalize fd (akO S N Q) 0 T (-1, 0, 0) = Y at hfin ⊢
    obtain ⟨f1, f2, f3, f4⟩ := hfin
    dsimp only
    by_cases hE : L = []
    · rw [if_pos (by rw [hE]; rfl), if_pos (f3 hE)]
    · rw [if_neg (fun z => hE (List.length_eq_zero_iff.mp z))]
      by_cases hy : Y.2.2 = 0
      · rw [if_pos hy]
        exact f4 hE hy
      · rw [if_neg hy, f1]
theorem inn_i0 {x : Int32} {b : Int64} (h : x < 0) : ¬ inn x.toInt64 0 b = true := by
  rw [inn_i (A := 0) (B := b.toInt) (by decide) rfl]
  have := Int32.lt_iff_toInt_lt.mp h
  rw [show (0 : Int32).toInt = 0 from rfl] at this
  rw [decide_eq_false (by omega), Bool.false_and]
  decide
theorem t_step {sc S : am_S} {P : Nat} {pL : Nat → Nat} {pF : Nat → Nat → Int32} {k i x : Int32} (hP : sc 0 6 = nI P) (hP' : S 39 30 = nI P) (hP4 : P ≤ 4) (hR : ∀ q, q < P → pL q ≤ 16 ∧ S 51 q = nI (pL q) ∧ PRn S q (pL q) (pF q)) : q_step sc pL pF k i x = m_step S k i x := by
  unfold q_step m_step
  have hpc : isPm S k = isPc sc k := by unfold isPm isPc; rw [hP, hP']
  rw [hpc]
  by_cases hk : isPc sc k = true
  · rw [if_pos hk, if_pos hk]
    have hk' := hk
    unfold isPc at hk'
    simp only [Bool.and_eq_true, decide_eq_true_eq] at hk'
    rw [hP] at hk'
    obtain ⟨j, hj, rfl⟩ := nI_lt7 (by omega) hk'.1 hk'.2
    have hcj : cl (nI j) = j := cl_nI (by omega)
    rw [hcj]
    obtain ⟨hL, h51, hPR⟩ := hR j hj
    rw [h51]
    by_cases h1 : i < 0
    · rw [if_pos h1, if_neg (inn_i0 h1)]
    · rw [if_neg h1]
      obtain ⟨i0, hi0, rfl⟩ := nI_of h1
      by_cases h2 : nI (pL j) ≤ nI i0
      · rw [if_pos h2]
        rw [if_neg]
        intro z
        have h2' := (nI_leI (by omega) hi0).mp h2
        rcases Nat.eq_zero_or_pos (pL j) with e0 | e0
        · rw [e0, show (nI 0 - 1 : Int32) = -1 from rfl] at z
          unfold inn at z
          simp only [Bool.and_eq_true, decide_eq_true_eq] at z
          have z1 := Int64.le_iff_toInt_le.mp (Int64.le_trans z.1 z.2)
          exact absurd z1 (by decide)
        · obtain ⟨w, hw, he⟩ := (inn_0 (M := pL j - 1) (by omega) (by rw [nI_m1 e0]; exact tI64 (by omega))).mp z
          have := (nI_eq hi0 (by omega)).mp he
          omega
      · rw [if_neg h2]
        have h2' : i0 < pL j := by
          rcases Nat.lt_or_ge i0 (pL j) with e | e
          · exact e
          · exact absurd (nI_le e hi0) h2
        rw [if_pos ((inn_0 (M := pL j - 1) (by omega) (by rw [nI_m1 (by omega)]; exact tI64 (by omega))).mpr ⟨i0, by omega, rfl⟩), cl_nI hi0]
        by_cases h3 : x < 0
        · rw [if_pos h3, if_neg (inn_i0 h3)]
        · rw [if_neg h3]
          by_cases h4 : x < 3
          · obtain ⟨x0, hx0, rfl⟩ := nI_of2 (M := 2) (n := 2) (by decide) h3 (by first | exact Int32.le_iff_toInt_le.mpr (by have := Int32.lt_iff_toInt_lt.mp h4; rw [show (3 : Int32).toInt = 3 from rfl] at this; rw [show (2 : Int32).toInt = 2 from rfl]; omega))
            rw [if_pos h4, if_pos ((inn_0 (M := 2) (by decide) (by decide)).mpr ⟨x0, hx0, rfl⟩), cl_nI (by omega)]
            exact ((hPR i0 h2').1 x0 (by omega)).symm
          · rw [if_neg h4, if_neg]
            intro z
            obtain ⟨x0, hx0, rfl⟩ := (inn_0 (M := 2) (by decide) (by decide)).mp z
            exact h4 (nI_lt (a := x0) (b := 3) (by omega) (by decide))
  · rw [if_neg hk, if_neg hk]
theorem t_noted {sc S : am_S} {T Q N : Nat} {r t b : Int32} (hS : SR sc S T Q) (hN : NR sc S T Q N) (hb : b = 0 ∨ b = 1) : (q_noted sc N r t b).1 = (m_noted S N r t b).1 ∧ ∃ N', NR (q_noted sc N r t b).2 (m_noted S N r t b).2 T Q N' := by
  unfold q_noted m_noted
  rw [rl_R hS, rl_T hS]
  by_cases h1 : isR sc r = false
  · rw [if_pos h1, if_pos h1]; exact ⟨rfl, N, hN⟩
  · rw [if_neg h1, if_neg h1]
    by_cases h2 : isT sc t = false
    · rw [if_pos h2, if_pos h2]; exact ⟨rfl, N, hN⟩
    · rw [if_neg h2, if_neg h2]
      by_cases h3 : N = 10
      · rw [if_neg (by omega), if_pos h3]; exact ⟨rfl, N, hN⟩
      · have hN10 := hN.2.2.1
        rw [if_pos (by omega), if_neg h3]
        refine ⟨rfl, N + 1, ?_⟩
        obtain ⟨j, hj, hje⟩ := isT_nI hS.1 (by simpa using h2)
        obtain ⟨u, hu, hue⟩ := isR_nI hS.1 (by simpa using h1)
        obtain ⟨-, -, -, n4⟩ := hN
        dsimp only
        unfold aNote
        have c33 : ∀ i, up (up (up (up sc 33 N r) 34 N t) 35 N b) 32 4 (nI (N + 1)) 33 i = if i = N then r else sc 33 i := fun i => by rw [up_e rfl, up_e rfl, up_e rfl, up_s]
        have c34 : ∀ i, up (up (up (up sc 33 N r) 34 N t) 35 N b) 32 4 (nI (N + 1)) 34 i = if i = N then t else sc 34 i := fun i => by rw [up_e rfl, up_e rfl, up_s, up_e rfl]
        have c35 : ∀ i, up (up (up (up sc 33 N r) 34 N t) 35 N b) 32 4 (nI (N + 1)) 35 i = if i = N then b else sc 35 i := fun i => by rw [up_e rfl, up_s, up_e rfl, up_e rfl]
        have m60 : ∀ x, up (up (up (up S 60 (3 * N) r) 60 (3 * N + 1) t) 60 (3 * N + 2) b) 39 47 (nI (N + 1)) 60 x = if x = 3 * N + 2 then b else if x = 3 * N + 1 then t else if x = 3 * N then r else S 60 x := fun i => by rw [up_e rfl, up_s, up_s, up_s]
        refine ⟨up_s.trans (if_pos rfl), up_s.trans (if_pos rfl), by omega, fun i hi => ?_⟩
        rw [c33, c34, c35, m60, m60, m60]
        by_cases e : i = N
        · subst e
          rw [if_pos rfl, if_pos rfl, if_pos rfl, if_neg (by omega), if_neg (by omega), if_pos rfl, if_neg (by omega), if_pos rfl, if_pos rfl]
          exact ⟨⟨j, hj, hje⟩, ⟨u, hu, hue⟩, rfl, rfl, rfl, hb⟩
        · rw [if_neg e, if_neg e, if_neg e]
          (repeat rw [if_neg (by omega)])
          exact n4 i (by omega)

