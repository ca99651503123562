/-! the class reads a reign as the reference does -/
theorem x7_on : ∀ q, q < 256 → xix 7 (nI q) = on (xsp 7 (nI q)) := by decide +kernel
theorem dgN_v : dgN 0 = 0 ∧ dgN 1 = 2 ∧ dgN 2 = 2 ∧ dgN 3 = 1 := by decide +kernel
theorem xsp7_lt {c : Int32} {i : Nat} (h : xsp 7 c = some i) : i < 4 := xsp_lt h
theorem rDg_1 {s : am_S} {E row d i a : Nat} {tx : Nat → Nat} (hT : CT s E tx) (ha : a ≤ E) (P : Nat → Int32) : rDg (s 2) E row (d + 1) i a P = match dg1 tx E a with
    | .error e => (false, e, P)
    | .ok z => rDg (s 2) E row d (i + 1) z.1 (upd P (row + i) (nI z.2)) := by
  have hk := skw_b (tx := tx) ha
  simp only [rDg]
  rw [CT_sA hT ha, CT_sgn hT]
  unfold dg1
  by_cases hq : skw tx E a < E
  · have hc : cv tx E (skw tx E a) = s 2 (skw tx E a) := by unfold cv; rw [if_pos hq]; exact (hT.2.2 _ hq).2.2.symm
    rw [hc]
    by_cases hg : dg tx E (skw tx E a) = true
    · have h1 := (dg_f hT hq).mp hg
      have hd := dg_c hg
      rw [if_neg h1.1, if_neg h1.2, if_pos hg, (hT.2.2 _ hq).2.2, nI_s48 hd.2.1]
    · have hn : ¬ (¬ s 2 (skw tx E a) < 48 ∧ ¬ 57 < s 2 (skw tx E a)) := fun e => hg ((dg_f hT hq).mpr e)
      rw [if_neg hg]
      by_cases h1 : s 2 (skw tx E a) < 48
      · rw [if_pos h1]
      · rw [if_neg h1, if_pos (Decidable.of_not_not (fun e => hn ⟨h1, e⟩))]
  · have hg : ¬ dg tx E (skw tx E a) = true := by unfold dg; rw [decide_eq_false hq]; exact Bool.false_ne_true
    rw [if_neg hg, show cv tx E (skw tx E a) = -1 from by unfold cv; rw [if_neg hq], if_pos (by decide)]
theorem rStp_eq {s : am_S} {E row a : Nat} {tx : Nat → Nat} (hT : CT s E tx) (ha : a ≤ E) (P : Nat → Int32) : match stR' tx E a with
    | .error e => (rStp (s 2) E row a P).1 = false ∧ (rStp (s 2) E row a P).2.1 = e
    | .ok z => rStp (s 2) E row a P = (true, z.1, st3 P row z.2.1 z.2.2.1 z.2.2.2) := by
  have hk := skw_b (tx := tx) ha
  unfold rStp stR'
  rw [CT_sA hT ha]
  have hKd : rKd (s 2) E (skw tx E a) = on (xsp 7 (cst tx E a)) := by
    unfold rKd
    rw [CT_sgn hT]
    rcases CT_c hT (p := a) with h | ⟨q, -, hq, h⟩
    · rw [if_pos (show cv tx E (skw tx E a) = -1 from h), h, xsp_m1 7 (by decide)]; rfl
    · rw [if_neg (show ¬ cv tx E (skw tx E a) = -1 from fun e => by rw [show cst tx E a = cv tx E (skw tx E a) from rfl, e] at h; exact nI_m1n (by omega) h.symm), show cv tx E (skw tx E a) = nI q from h, h]
      exact x7_on q hq
  rw [hKd]
  cases hi : xsp 7 (cst tx E a) with
  | none => rw [if_neg (by decide)]; exact ⟨rfl, rfl⟩
  | some i =>
    have hi4 := xsp7_lt hi
    have hnx : skw tx E a + 1 ≤ E := by
      have := cst_lt (tx := tx) (E := E) (p := a) (by intro e; rw [e, xsp_m1 7 (by decide)] at hi; cases hi)
      omega
    rw [show on (some i) = nI i from rfl, if_pos (nI_pos' (by omega)), cl_nI (by omega)]
    have hv := dgN_v
    rcases (show i = 0 ∨ i = 1 ∨ i = 2 ∨ i = 3 by omega) with rfl | rfl | rfl | rfl
    · rw [hv.1]
      rfl
    · rw [hv.2.1, rDg_1 hT hnx]
      dsimp only
      rw [if_neg (by decide)]
      have hb := dg1_b (tx := tx) (E := E) (p := skw tx E a + 1) hnx
      cases h1 : dg1 tx E (skw tx E a + 1) with
      | error e => exact ⟨rfl, rfl⟩
      | ok z =>
        rw [h1] at hb
        dsimp only
        rw [if_pos (by decide), rDg_1 hT hb.2.1]
        cases h2 : dg1 tx E z.1 with
        | error e => exact ⟨rfl, rfl⟩
        | ok y =>
          show (true, y.1, upd (upd (st3 P row (nI 1) (-1) (-1)) (row + 1) (nI z.2)) (row + 2) (nI y.2)) = _
          rw [st3_1, st3_2]
    · rw [hv.2.2.1, rDg_1 hT hnx]
      dsimp only
      rw [if_neg (by decide)]
      have hb := dg1_b (tx := tx) (E := E) (p := skw tx E a + 1) hnx
      cases h1 : dg1 tx E (skw tx E a + 1) with
      | error e => exact ⟨rfl, rfl⟩
      | ok z =>
        rw [h1] at hb
        dsimp only
        rw [if_pos (by decide), rDg_1 hT hb.2.1]
        cases h2 : dg1 tx E z.1 with
        | error e => exact ⟨rfl, rfl⟩
        | ok y =>
          show (true, y.1, upd (upd (st3 P row (nI 2) (-1) (-1)) (row + 1) (nI z.2)) (row + 2) (nI y.2)) = _
          rw [st3_1, st3_2]
    · rw [hv.2.2.2, rDg_1 hT hnx]
      dsimp only
      rw [if_neg (by decide)]
      cases h1 : dg1 tx E (skw tx E a + 1) with
      | error e => exact ⟨rfl, rfl⟩
      | ok z =>
        dsimp only
        rw [if_neg (by decide)]
        show (true, z.1, upd (st3 P row (nI 3) (-1) (-1)) (row + 1) (nI z.2)) = _
        rw [st3_1]
theorem st3_c {P F : Nat → Int32} {m : Nat} {a b c : Int32} (h : ∀ j, j < 3 * m → P j = F j) : ∀ j, j < 3 * (m + 1) → st3 P (3 * m) a b c j = st3 F (3 * m) a b c j := by
  intro j hj
  by_cases h1 : j < 3 * m
  · rw [st3_o (Or.inl h1), st3_o (Or.inl h1)]; exact h j h1
  · unfold st3
    rcases (show j = 3 * m ∨ j = 3 * m + 1 ∨ j = 3 * m + 2 by omega) with rfl | rfl | rfl
    · rw [upd_n (by omega), upd_n (by omega), upd_s, upd_n (by omega), upd_n (by omega), upd_s]
    · rw [upd_n (by omega), upd_s, upd_n (by omega), upd_s]
    · rw [upd_s, upd_s]
theorem rRd_eq {s : am_S} {E : Nat} {tx : Nat → Nat} (hT : CT s E tx) : ∀ (d i a : Nat) (P F : Nat → Int32) (t : Int32), i + d = 16 → a ≤ E → (∀ j, j < 3 * i → P j = F j) → match rgL tx E d i a F with
    | .error e => (rRd (s 2) E d i a P t).1 = false ∧ (rRd (s 2) E d i a P t).2.1 = e
    | .ok z => (rRd (s 2) E d i a P t).1 = true ∧ (rRd (s 2) E d i a P t).2.2.2 = nI z.1 ∧ z.1 ≤ 16 ∧ ∀ j, j < 3 * z.1 → (rRd (s 2) E d i a P t).2.2.1 j = z.2 j
  | 0, i, a, P, F, t, hi, ha, hP => ⟨rfl, rfl⟩
  | d + 1, i, a, P, F, t, hi, ha, hP => by
    have hs := rStp_eq hT ha P (row := 3 * i)
    have hb := stR_b (tx := tx) (E := E) (p := a) ha
    simp only [rRd, rgL]
    rw [show i * 3 = 3 * i from Nat.mul_comm _ _]
    cases hz : stR' tx E a with
    | error e =>
      rw [hz] at hs
      rw [if_pos hs.1]
      exact ⟨rfl, hs.2⟩
    | ok z =>
      rw [hz] at hs hb
      have hzE : z.1 ≤ E := hb.2
      have hk := skw_b (tx := tx) hzE
      have hss : sgn (s 2) E (sA (s 2) E z.1) = cst tx E z.1 := by rw [CT_sA hT hzE, CT_sgn hT]; rfl
      have hs2 : sA (s 2) E (sA (s 2) E z.1) = skw tx E z.1 := by rw [CT_sA hT hzE, CT_sA hT hk.2.1, skw_sk hzE]
      have hs3 : sgn (s 2) E (skw tx E z.1) = cst tx E z.1 := by rw [CT_sgn hT]; rfl
      rw [hs]
      dsimp only
      rw [if_neg (c := true = false) (by decide), hss, hs2, CT_sA hT hzE, hs3]
      by_cases h59 : cst tx E z.1 = 59
      · have hm : ¬ cst tx E z.1 = -1 := by rw [h59]; decide
        by_cases h16 : i + 1 = 16
        · simp only [if_pos h59, if_neg hm, if_pos h16]
          exact ⟨trivial, trivial⟩
        · simp only [if_pos h59, if_neg hm, if_neg h16]
          have hnx : skw tx E z.1 + 1 ≤ E := by
            have := cst_lt (tx := tx) (E := E) (p := z.1) (by rw [h59]; decide)
            omega
          exact rRd_eq hT d (i + 1) (skw tx E z.1 + 1) _ _ _ (by omega) hnx (st3_c hP)
      · by_cases hm : cst tx E z.1 = -1
        · simp only [if_neg h59, if_pos hm]
          exact ⟨trivial, trivial, by omega, st3_c hP⟩
        · simp only [if_neg h59, if_neg hm]
          by_cases h16 : i + 1 = 16
          · simp only [if_pos h16]; exact ⟨trivial, trivial⟩
          · simp only [if_neg h16]; exact ⟨trivial, trivial⟩
/-- what reading a reign gives -/
def PRg (g : ag_G) (s : am_S) (n : am_N) : Except Nat (Nat × (Nat → Int32)) → Option Value → va_W → Prop
  | .ok z => fun o y => o = some (.int 1) ∧ ∃ a P, y = hp g (rM s a P (nI z.1)) n ∧ z.1 ≤ 16 ∧ ∀ j, j < 3 * z.1 → P j = z.2 j
  | .error e => fun o y => o = some (.int 0) ∧ ∃ P t, y = hp g (rM s e P t) n
theorem c_X9_readsG {l : Launch} {g : ag_G} {s : am_S} {n : am_N} {E : Nat} {tx : Nat → Nat} (hx : aw_hx g) (hT : CT s E tx) : aw_M l g mi_X9_reads 5 0 0 [.ref (g_ad g 8)] (hp g s n) (PRg g s n (rgR tx E)) := by
  have h := c_X9_reads (l := l) (g := g) (n := n) (s := s) hT.1 hT.2.1 (CT_8 hT) hx
  have he := rRd_eq hT 16 0 0 (s 9) (fun _ => 0) (s 8 2) (by omega) (Nat.zero_le _) (fun j hj => absurd hj (by omega))
  change match rgR tx E with
    | .error e => _
    | .ok z => _ at he
  generalize rRd (s 2) E 16 0 0 (s 9) (s 8 2) = X at h he
  intro p e a b c s1 m args below h1 h2 h3 h4
  obtain ⟨k, o, q1, q2, q3, ⟨⟨⟨r, w, z1, ⟨z2, z3⟩, z4, z5⟩, z6⟩, z7⟩⟩ := h p e a b c s1 m args below h1 h2 h3 h4
  refine ⟨k, o, q1, q2, q3, ⟨⟨⟨r, w, z1, ?_, z4, z5⟩, z6⟩, z7⟩⟩
  subst z2
  subst z3
  cases hr : rgR tx E with
  | error e =>
    rw [hr] at he
    rw [he.1, he.2]
    exact ⟨rfl, _, _, rfl⟩
  | ok z =>
    rw [hr] at he
    rw [he.1, he.2.1]
    exact ⟨rfl, _, _, rfl, he.2.2.1, he.2.2.2⟩
