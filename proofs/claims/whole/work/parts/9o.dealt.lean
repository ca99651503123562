/-! dealing: the least price, dealt -/
theorem bd_all : ∀ T, T ≤ 7 → ∀ D, D < 2 ^ T → (pcn D = T → D = 2 ^ T - 1) ∧ (D < 2 ^ T - 1 → pcn D < T) ∧ pcn D ≤ T := by decide +kernel
theorem bd_gt : ∀ D, D < 128 → ∀ t, t < 7 → D.testBit t = false → D < D ||| 2 ^ t := by decide +kernel
theorem bd_bt : ∀ D, D < 128 → ∀ t, t < 7 → nI D ||| bt t = nI (D ||| 2 ^ t) := by decide +kernel
theorem nxF_cg {P lp lp' : Nat → Int32} {D i : Nat} {a : Option Nat} (hl : ∀ t, t < 7 → D.testBit t = false → lp (D ||| 2 ^ t) = lp' (D ||| 2 ^ t)) (hi : i < 7) (ha : ∀ b, a = some b → b < 7 ∧ D.testBit b = false) : nxF P lp D i a = nxF P lp' D i a := by
  unfold nxF
  by_cases h : D.testBit i = true
  · rw [if_pos h, if_pos h]
  · rw [if_neg h, if_neg h]
    cases a with
    | none => rfl
    | some b =>
      obtain ⟨h1, h2⟩ := ha b rfl
      have e1 : pB P lp D b = pB P lp' D b := by unfold pB; rw [hl b h1 h2]
      have e2 : pB P lp D i = pB P lp' D i := by unfold pB; rw [hl i hi (Bool.eq_false_iff.mpr h)]
      show (if pB P lp D b ≤ pB P lp D i then some b else some i) = if pB P lp' D b ≤ pB P lp' D i then some b else some i
      rw [e1, e2]
theorem nxF_iv {P lp : Nat → Int32} {D i : Nat} {a : Option Nat} (hi : i < 7) (ha : ∀ b, a = some b → b < 7 ∧ D.testBit b = false) : ∀ b, nxF P lp D i a = some b → b < 7 ∧ D.testBit b = false := by
  intro b hb
  unfold nxF at hb
  by_cases h : D.testBit i = true
  · rw [if_pos h] at hb; exact ha b hb
  · rw [if_neg h] at hb
    cases a with
    | none => obtain rfl : i = b := Option.some.inj hb; exact ⟨hi, Bool.eq_false_iff.mpr h⟩
    | some c =>
      change (if pB P lp D c ≤ pB P lp D i then some c else some i) = some b at hb
      by_cases e : pB P lp D c ≤ pB P lp D i
      · rw [if_pos e] at hb; obtain rfl : c = b := Option.some.inj hb; exact ha c rfl
      · rw [if_neg e] at hb; obtain rfl : i = b := Option.some.inj hb; exact ⟨hi, Bool.eq_false_iff.mpr h⟩
theorem nx_key {P lp lp' : Nat → Int32} {D : Nat} (hl : ∀ t, t < 7 → D.testBit t = false → lp (D ||| 2 ^ t) = lp' (D ||| 2 ^ t)) : ∀ (d i : Nat) (a : Option Nat), i + d ≤ 7 → (∀ b, a = some b → b < 7 ∧ D.testBit b = false) → fd (nxF P lp D) i d a = fd (nxF P lp' D) i d a
  | 0, i, a, _, _ => (show fd (nxF P lp D) i 0 a = a from rfl).trans (show a = fd (nxF P lp' D) i 0 a from rfl)
  | d + 1, i, a, hi, ha => by
    have h1 := nx_key (P := P) hl d (i + 1) (nxF P lp D i a) (by omega) (nxF_iv (by omega) ha)
    have h2 := nxF_cg (P := P) hl (show i < 7 by omega) ha
    simp only [fd]
    rw [h1, h2]
theorem nx_cg {P lp lp' : Nat → Int32} {D T : Nat} (hT : T ≤ 7) (hl : ∀ t, t < 7 → D.testBit t = false → lp (D ||| 2 ^ t) = lp' (D ||| 2 ^ t)) : nx P lp T D = nx P lp' T D := by
  have h := nx_key (P := P) hl T 0 none (by omega) (fun b hb => by cases hb)
  unfold nx
  rw [h]
theorem nx_fr {P lp : Nat → Int32} {T D : Nat} (hT : T ≤ 7) (hD : D < 2 ^ T - 1) : fd (nxF P lp D) 0 T none = some (nx P lp T D) ∧ nx P lp T D < T ∧ D.testBit (nx P lp T D) = false := by
  obtain ⟨t, h1, h2⟩ := bd_free T hT D (by omega) ((bd_all T hT D (by omega)).2.1 hD)
  have hsm := nx_some P lp D T 0 none (Or.inr ⟨t, by omega, by omega, h2⟩)
  cases h : fd (nxF P lp D) 0 T none with
  | none => rw [h] at hsm; exact absurd hsm (by decide)
  | some b =>
    have hb := nx_inv P lp D T 0 none (fun b hb => nomatch hb) b h
    have e : nx P lp T D = b := by unfold nx; rw [h]; rfl
    rw [e]
    exact ⟨rfl, by omega, hb.2⟩
theorem dl_inv {P : Nat → Int32} {T : Nat} (hT : T ≤ 7) : ∀ (k : Nat) (lp : Nat → Int32), k ≤ 2 ^ T - 1 → (∀ D, k ≤ D → fdn (dLF P T) k lp D = lp D) ∧ ∀ D, D < k → fdn (dLF P T) k lp D = pB P (fdn (dLF P T) k lp) D (nx P (fdn (dLF P T) k lp) T D)
  | 0, lp, _ => ⟨fun _ _ => rfl, fun D h => absurd h (by omega)⟩
  | k + 1, lp, hk => by
    have ih := dl_inv (P := P) hT k (dLF P T k lp) (by omega)
    have h128 : 2 ^ T ≤ 128 := pw7 hT
    change (∀ D, k ≤ D → fdn (dLF P T) (k + 1) lp D = dLF P T k lp D) ∧ ∀ D, D < k → fdn (dLF P T) (k + 1) lp D = pB P (fdn (dLF P T) (k + 1) lp) D (nx P (fdn (dLF P T) (k + 1) lp) T D) at ih
    generalize fdn (dLF P T) (k + 1) lp = L at ih ⊢
    have hg : ∀ D, k < D → L D = lp D := fun D hD => (ih.1 D (by omega)).trans (upd_n (by omega))
    refine ⟨fun D hD => hg D (by omega), fun D hD => ?_⟩
    by_cases e : D = k
    · subst e
      have h1 : L D = pB P lp D (nx P lp T D) := (ih.1 D (Nat.le_refl _)).trans upd_s
      have hl : ∀ t, t < 7 → D.testBit t = false → lp (D ||| 2 ^ t) = L (D ||| 2 ^ t) := fun t ht hf => (hg _ (bd_gt D (by omega) t ht hf)).symm
      have hn := nx_fr (P := P) (lp := lp) (D := D) hT (by omega)
      rw [h1, ← nx_cg hT hl]
      unfold pB
      rw [hl _ (by omega) hn.2.2]
    · exact ih.2 D (by omega)
def Rwd (P lp : Nat → Int32) (T : Nat) : Nat → Nat → Int32 → Int32
  | 0, _, row => row
  | f + 1, D, row => Rwd P lp T f (D ||| 2 ^ nx P lp T D) (10 * row + nI (nx P lp T D))
theorem lr_eq {P lp : Nat → Int32} {T : Nat} : ∀ (f i D : Nat) (row : Int32), (fd (fun _ a => lrF P lp T a) i f (row, D)).1 = Rwd P lp T f D row
  | 0, _, _, _ => rfl
  | f + 1, i, D, row => by
    show (fd (fun _ a => lrF P lp T a) (i + 1) f (row * 10 + nI (nx P lp T D), D ||| 2 ^ nx P lp T D)).1 = _
    rw [lr_eq f (i + 1)]
    simp only [Rwd]
    rw [Int32.mul_comm row 10]
def zk (z : Int32) : Prop := z = -1 ∨ ∃ e, e ≤ 63 ∧ z = nI e
theorem gdP_n {z e : Nat} (hz : z ≤ 63) (he : e < 1000) : gdP (nI z) (nI e) = decide (z ≤ e) := by
  unfold gdP
  rw [decide_eq_false (nI_m1n (by omega)), Bool.not_false, Bool.true_and]
  exact decide_eq_decide.mpr (nI_leI (by omega) (by omega))
theorem gdP_m {x : Int32} : gdP (-1) x = false := by unfold gdP; rw [decide_eq_true rfl]; rfl
theorem gd_eq {P lp : Nat → Int32} {T : Nat} {su : Nat → Nat} {me : Nat → Nat → Int32} (hT : T ≤ 7) (hP : ∀ t k, t < T → k < T → P (t * 7 + k) = me t (su k) ∧ ∃ e, e ≤ 9 ∧ me t (su k) = nI e) (hlp : ∀ D, D < 2 ^ T - 1 → lp D = pB P lp D (nx P lp T D)) (h0 : lp (2 ^ T - 1) = 0) : ∀ (f D l0 : Nat) (row : Int32) (z : Int32 × Int32), D < 2 ^ T → pcn D + f = T → l0 ≤ 9 * pcn D → zk z.2 → (∃ e, e ≤ 9 * f ∧ lp D = nI e) ∧ gd T su me f (nI D) (nI l0) row z = if gdP z.2 (nI l0 + lp D) = true then z else (Rwd P lp T f D row, nI l0 + lp D)
  | 0, D, l0, row, z, hD, hf, hl, hz => by
    have e := (bd_all T hT D hD).1 (by omega)
    rw [e, h0, Int32.add_zero]
    exact ⟨⟨0, by omega, rfl⟩, rfl⟩
  | f + 1, D, l0, row, z, hD, hf, hl, hz => by
    have h128 : 2 ^ T ≤ 128 := pw7 hT
    have hD1 : D < 2 ^ T - 1 := by
      rcases Nat.lt_or_ge D (2 ^ T - 1) with e | e
      · exact e
      · exfalso
        have e1 : D = 2 ^ T - 1 := by omega
        have hz7 : ∀ T, T ≤ 7 → pcn (2 ^ T - 1) = T := by decide +kernel
        have := hz7 T hT
        rw [e1] at hf
        omega
    have hn := nx_fr (P := P) (lp := lp) (D := D) hT hD1
    have hk : T - (f + 1) = pcn D := by omega
    have hkT : pcn D < T := by omega
    have hkid : ∀ t, t < T → D.testBit t = false → D ||| 2 ^ t < 2 ^ T ∧ pcn (D ||| 2 ^ t) = pcn D + 1 := fun t ht hf' => ⟨bd_lt T hT D hD t ht, bd_inc D (by omega) t (by omega) hf'⟩
    have hW : ∀ t, t < T → D.testBit t = false → ∃ p y, p ≤ 9 ∧ y ≤ 9 * f ∧ me t (su (pcn D)) = nI p ∧ lp (D ||| 2 ^ t) = nI y ∧ pB P lp D t = nI (p + y) := by
      intro t ht hf'
      obtain ⟨k1, k2⟩ := hkid t ht hf'
      obtain ⟨p1, p, hp, pe⟩ := hP t (pcn D) ht hkT
      obtain ⟨⟨y, hy, ye⟩, -⟩ := gd_eq hT hP hlp h0 f (D ||| 2 ^ t) 0 0 (-1, -1) k1 (by omega) (by omega) (Or.inl rfl)
      exact ⟨p, y, hp, hy, pe, ye, by unfold pB; rw [p1, pe, ye, nI_add]⟩
    have hlpD := hlp D hD1
    obtain ⟨pn, yn, hpn, hyn, -, -, wn⟩ := hW _ hn.2.1 hn.2.2
    refine ⟨⟨pn + yn, by omega, hlpD.trans wn⟩, ?_⟩
    simp only [gd]
    rw [hk]
    by_cases hpr : gdP z.2 (nI l0) = true
    · rw [if_pos hpr]
      rw [if_pos]
      rw [hlpD, wn, nI_add]
      rcases hz with hz | ⟨z0, hz0, hz⟩
      · rw [hz, gdP_m] at hpr; exact absurd hpr (by decide)
      · rw [hz, gdP_n hz0 (by omega)] at hpr ⊢
        exact decide_eq_true (by have := of_decide_eq_true hpr; omega)
    · rw [if_neg hpr]
      obtain ⟨G, hG⟩ : ∃ G : Option Nat → Int32 × Int32, G = fun a => match a with | none => z | some b => if gdP z.2 (nI l0 + pB P lp D b) = true then z else (Rwd P lp T f (D ||| 2 ^ b) (10 * row + nI b), nI l0 + pB P lp D b) := ⟨_, rfl⟩
      have hGn : G none = z := by rw [hG]
      have hGs : ∀ b, G (some b) = if gdP z.2 (nI l0 + pB P lp D b) = true then z else (Rwd P lp T f (D ||| 2 ^ b) (10 * row + nI b), nI l0 + pB P lp D b) := fun b => by rw [hG]
      have hstep : ∀ t a, t < T → (∀ b, a = some b → b < T ∧ D.testBit b = false) → (if hs (nI D) (nI t) = true then G a else gd T su me f (nI D ||| bt t) (nI l0 + me t (su (pcn D))) (10 * row + nI t) (G a)) = G (nxF P lp D t a) := by
        intro t a ht ha
        rw [hs_tb D (by omega) t (by omega)]
        unfold nxF
        by_cases hb : D.testBit t = true
        · rw [if_pos hb, if_pos hb]
        · rw [if_neg hb, if_neg hb]
          have hb' := Bool.eq_false_iff.mpr hb
          obtain ⟨k1, k2⟩ := hkid t ht hb'
          obtain ⟨p, y, hp, hy, pe, ye, wt⟩ := hW t ht hb'
          have hzG : zk (G a).2 := by
            cases a with
            | none => rw [hGn]; exact hz
            | some b =>
              rw [hGs]
              obtain ⟨p', y', hp', hy', -, -, wb⟩ := hW b (ha b rfl).1 (ha b rfl).2
              by_cases e : gdP z.2 (nI l0 + pB P lp D b) = true
              · rw [if_pos e]; exact hz
              · rw [if_neg e]
                refine Or.inr ⟨l0 + (p' + y'), by omega, ?_⟩
                show nI l0 + pB P lp D b = _
                rw [wb, nI_add]
          have ih := (gd_eq hT hP hlp h0 f (D ||| 2 ^ t) (l0 + p) (10 * row + nI t) (G a) k1 (by omega) (by omega) hzG).2
          rw [bd_bt D (by omega) t (by omega), pe, nI_add, ih]
          have ew : nI (l0 + p) + lp (D ||| 2 ^ t) = nI l0 + pB P lp D t := by rw [wt, ye, nI_add, nI_add]; exact congrArg nI (by omega)
          rw [ew]
          cases a with
          | none =>
            show (if gdP (G none).2 (nI l0 + pB P lp D t) = true then G none else _) = G (some t)
            rw [hGn, hGs]
          | some b =>
            show (if gdP (G (some b)).2 (nI l0 + pB P lp D t) = true then G (some b) else _) = G (if pB P lp D b ≤ pB P lp D t then some b else some t)
            obtain ⟨p', y', hp', hy', -, -, wb⟩ := hW b (ha b rfl).1 (ha b rfl).2
            by_cases e : pB P lp D b ≤ pB P lp D t
            · rw [if_pos e]
              rw [wb, wt] at e
              have e' := (nI_leI (by omega) (by omega)).mp e
              rw [if_pos]
              rw [hGs, wb, wt, nI_add, nI_add]
              by_cases e2 : gdP z.2 (nI (l0 + (p' + y'))) = true
              · rw [if_pos e2]
                rcases hz with hz | ⟨z0, hz0, hz⟩
                · rw [hz, gdP_m] at e2; exact absurd e2 (by decide)
                · rw [hz, gdP_n hz0 (by omega)] at e2 ⊢
                  exact decide_eq_true (by have := of_decide_eq_true e2; omega)
              · rw [if_neg e2]
                show gdP (nI (l0 + (p' + y'))) _ = true
                rw [gdP_n (by omega) (by omega)]
                exact decide_eq_true (by omega)
            · rw [if_neg e, hGs t]
              rw [wb, wt] at e
              have e' : p + y < p' + y' := by
                rcases Nat.lt_or_ge (p + y) (p' + y') with q | q
                · exact q
                · exact absurd (nI_le q (by omega)) e
              by_cases e2 : gdP z.2 (nI l0 + pB P lp D b) = true
              · have hGz : G (some b) = z := by rw [hGs, if_pos e2]
                rw [hGz]
              · have hGz : G (some b) = (Rwd P lp T f (D ||| 2 ^ b) (10 * row + nI b), nI l0 + pB P lp D b) := by rw [hGs, if_neg e2]
                rw [hGz]
                rw [if_neg, if_neg]
                · intro e3
                  apply e2
                  rw [wb, nI_add]
                  rw [wt, nI_add] at e3
                  rcases hz with hz | ⟨z0, hz0, hz⟩
                  · rw [hz, gdP_m] at e3; exact absurd e3 (by decide)
                  · rw [hz, gdP_n hz0 (by omega)] at e3 ⊢
                    exact decide_eq_true (by have := of_decide_eq_true e3; omega)
                · show ¬ gdP (nI l0 + pB P lp D b) (nI l0 + pB P lp D t) = true
                  rw [wb, wt, nI_add, nI_add, gdP_n (by omega) (by omega)]
                  intro e3
                  have := of_decide_eq_true e3
                  omega
      have hloop : ∀ d t a, t + d = T → (∀ b, a = some b → b < T ∧ D.testBit b = false) → fd (fun t z => if hs (nI D) (nI t) = true then z else gd T su me f (nI D ||| bt t) (nI l0 + me t (su (pcn D))) (10 * row + nI t) z) t d (G a) = G (fd (nxF P lp D) t d a) := by
        intro d
        induction d with
        | zero => exact fun _ _ _ _ => rfl
        | succ d ih =>
          intro t a ht ha
          show fd _ (t + 1) d (if hs (nI D) (nI t) = true then G a else gd T su me f (nI D ||| bt t) (nI l0 + me t (su (pcn D))) (10 * row + nI t) (G a)) = G (fd (nxF P lp D) (t + 1) d (nxF P lp D t a))
          rw [hstep t a (by omega) ha]
          refine ih (t + 1) _ (by omega) (fun b hb => ?_)
          have h7 := nxF_iv (P := P) (lp := lp) (D := D) (i := t) (a := a) (by omega) (fun b hb => ⟨by have := (ha b hb).1; omega, (ha b hb).2⟩) b hb
          refine ⟨?_, h7.2⟩
          unfold nxF at hb
          by_cases h : D.testBit t = true
          · rw [if_pos h] at hb; exact (ha b hb).1
          · rw [if_neg h] at hb
            cases a with
            | none => obtain rfl : t = b := Option.some.inj hb; omega
            | some c =>
              change (if pB P lp D c ≤ pB P lp D t then some c else some t) = some b at hb
              by_cases e : pB P lp D c ≤ pB P lp D t
              · rw [if_pos e] at hb; obtain rfl : c = b := Option.some.inj hb; exact (ha c rfl).1
              · rw [if_neg e] at hb; obtain rfl : t = b := Option.some.inj hb; omega
      have hfin := hloop T 0 none (by omega) (fun b hb => nomatch hb)
      rw [hGn, hn.1, hGs] at hfin
      rw [hfin, ← hlpD]
      rfl
theorem t_dealt {V : (Nat → Int32) → Int32} {sc S : am_S} {T Q q a : Nat} {tt : Nat → Nat} {k x : Int32} (hS : SR sc S T Q) (hH : HR sc S T Q q a tt) : q_dealt V sc T k x = m_dealt V S T k x := by
  obtain ⟨hw, hb, ⟨ht, ht9, -⟩, -⟩ := hH.2.2.1
  have hT := hS.1.2.1
  unfold q_dealt m_dealt
  rw [aA_eq hS]
  by_cases h0 : S 39 26 = 0
  · rw [if_pos h0, decide_eq_true h0, if_neg (by simp)]
  · rw [if_neg h0, decide_eq_false h0]
    by_cases hk : inn k.toInt64 1 24 = true
    · rw [if_pos hk, hk]
      obtain ⟨m, hm1, hm, rfl⟩ := (inn_1M (M := 24) (by decide) (by decide)).mp hk
      by_cases hx : inn x.toInt64 0 1 = true
      · rw [if_pos hx, hx, if_pos (by decide), cl_nI (by omega)]
        have hu : ∀ t, t < T → cl (S 52 (3 * t)) ≤ 9 ∧ sc 16 (5 + t) = nI (cl (S 52 (3 * t))) := by
          intro t htT
          obtain ⟨⟨u, hu9, hue⟩, -⟩ := hb.1.1 t htT
          rw [(hw.2.1 t htT).1, hue, cl_nI (by omega)]
          exact ⟨hu9, rfl⟩
        have hP : ∀ t p, t < T → p < T → dP V sc T m (t * 7 + p) = mlm V S m t ((seqS (fun t => cl (S 52 (3 * t))) T).1 p) ∧ ∃ e, e ≤ 9 ∧ mlm V S m t ((seqS (fun t => cl (S 52 (3 * t))) T).1 p) = nI e := by
          intro t p ht' hp
          have h1 := dP_at (V := V) (s := sc) (m := m) hT T t p ht' hp
          change dP V sc T m (t * 7 + p) = _ at h1
          have h2 := (sun_eq (s := sc) (u := fun t => cl (S 52 (3 * t))) hu hp).1
          have h3 := prc_eq (V := V) (u := (seqS (fun t => cl (S 52 (3 * t))) T).1 p) (m := m) hS hw hb ht ht9 ht' (by omega)
          rw [h1, h2]
          exact h3
        have hdl := dl_inv (P := dP V sc T m) hT (2 ^ T - 1) (upd (sc 31) (2 ^ T - 1) 0) (Nat.le_refl _)
        change (∀ D, 2 ^ T - 1 ≤ D → dL V sc T m D = upd (sc 31) (2 ^ T - 1) 0 D) ∧ ∀ D, D < 2 ^ T - 1 → dL V sc T m D = pB (dP V sc T m) (dL V sc T m) D (nx (dP V sc T m) (dL V sc T m) T D) at hdl
        have hg := (gd_eq (P := dP V sc T m) (lp := dL V sc T m) (su := (seqS (fun t => cl (S 52 (3 * t))) T).1) (me := mlm V S m) hT hP hdl.2 ((hdl.1 _ (Nat.le_refl _)).trans upd_s) T 0 0 0 (-1, -1) (Nat.two_pow_pos T) (by rw [show pcn 0 = 0 from by decide, Nat.zero_add]) (Nat.zero_le _) (Or.inl rfl)).2
        have hg' : dlR V S T m = (Rwd (dP V sc T m) (dL V sc T m) T T 0 0, dL V sc T m 0) := by
          unfold dlR
          refine Eq.trans hg ?_
          rw [show gdP ((-1 : Int32), (-1 : Int32)).2 (nI 0 + dL V sc T m 0) = false from gdP_m, if_neg (by decide), show nI 0 + dL V sc T m 0 = dL V sc T m 0 from Int32.zero_add _]
        rw [hg']
        unfold aDeal lr
        by_cases hx0 : x = 0
        · rw [if_pos hx0, if_pos hx0, lr_eq]
        · rw [if_neg hx0, if_neg hx0]
      · rw [if_neg hx, Bool.eq_false_iff.mpr hx, if_neg (by decide)]
    · rw [if_neg hk, Bool.eq_false_iff.mpr hk, if_neg (by simp)]

