/-! the reference: a whole law, and its memo -/
abbrev Rl := Except Nat (List (Ex × Ex))
def LZ (tx : Nat → Nat) (E : Nat) : Nat → Nat → Rl → Prop
  | 0, p, r => (cst tx E p = -1 ∧ r = .ok []) ∨ (cst tx E p ≠ 59 ∧ cst tx E p ≠ -1 ∧ r = .error (skw tx E p))
  | m + 1, p, r => cst tx E p = 59 ∧ ((∃ f, CZ tx E (skw tx E p + 1) (kNo f) ∧ r = .error f) ∨ ∃ p1 c v r1, CZ tx E (skw tx E p + 1) (kOk p1 c v) ∧ LZ tx E m p1 r1 ∧ r = r1.map (fun L => (c, v) :: L))
def LW (tx : Nat → Nat) (E : Nat) (r : Rl) : Prop := (∃ f, CZ tx E 0 (kNo f) ∧ r = .error f) ∨ ∃ p1 c v m r1, CZ tx E 0 (kOk p1 c v) ∧ LZ tx E m p1 r1 ∧ r = r1.map (fun L => (c, v) :: L)
theorem LZ_ex (tx : Nat → Nat) (E : Nat) : ∀ (k p : Nat), p ≤ E → E - p < k → ∃ m r, LZ tx E m p r := by
  intro k
  induction k with
  | zero => intro p _ h; exact absurd h (Nat.not_lt_zero _)
  | succ k ih =>
    intro p hp hk
    have hb := skw_b (tx := tx) hp
    by_cases h1 : cst tx E p = 59
    · have hn := q_lt h1 (by decide)
      obtain ⟨r, hr⟩ := CZ_ex (tx := tx) hn
      have hg := CZ_pr hr hn
      cases r with
      | error f => exact ⟨1, _, h1, Or.inl ⟨f, hr, rfl⟩⟩
      | ok z =>
        have h3 : skw tx E p + 1 + 3 ≤ z.1 := hg.1
        obtain ⟨m, r1, h2⟩ := ih z.1 hg.2 (by omega)
        exact ⟨m + 1, _, h1, Or.inr ⟨z.1, z.2.1, z.2.2, r1, hr, h2, rfl⟩⟩
    · by_cases h2 : cst tx E p = -1
      · exact ⟨0, _, Or.inl ⟨h2, rfl⟩⟩
      · exact ⟨0, _, Or.inr ⟨h1, h2, rfl⟩⟩
theorem LW_ex (tx : Nat → Nat) (E : Nat) : ∃ r, LW tx E r := by
  obtain ⟨r, hr⟩ := CZ_ex (tx := tx) (E := E) (p := 0) (Nat.zero_le _)
  have hg := CZ_pr hr (Nat.zero_le _)
  cases r with
  | error f => exact ⟨_, Or.inl ⟨f, hr, rfl⟩⟩
  | ok z =>
    obtain ⟨m, r1, h2⟩ := LZ_ex tx E (E + 1) z.1 hg.2 (by omega)
    exact ⟨_, Or.inr ⟨z.1, z.2.1, z.2.2, m, r1, hr, h2, rfl⟩⟩
def vL : List (Ex × Ex) → Ex
  | [], _ => 0
  | z :: r, A => if z.1 A = 0 then vL r A else z.2 A
def gL (A : Nat → Int32) : Int32 → Int32 → List (Ex × Ex) → Int32
  | _, fo, [] => fo
  | h, fo, z :: r => if h = 0 then (if z.1 A = 0 then gL A h fo r else gL A 1 (z.2 A) r) else gL A h fo r
theorem gL_1 {A : Nat → Int32} {x : Int32} : ∀ L, gL A 1 x L = x
  | [] => rfl
  | z :: r => by simp only [gL]; rw [if_neg (by decide)]; exact gL_1 r
theorem gL_0 {A : Nat → Int32} : ∀ L, gL A 0 0 L = vL L A
  | [] => rfl
  | z :: r => by
    simp only [gL, vL]
    rw [if_pos trivial]
    by_cases h : z.1 A = 0
    · rw [if_pos h, if_pos h]; exact gL_0 r
    · rw [if_neg h, if_neg h]; exact gL_1 r
theorem TX_up {s : am_S} {n : am_N} {B b E i : Nat} {tx : Nat → Nat} {v : Int32} (h : TX s n B b E tx) (h8 : i ≠ 8) (h9 : i ≠ 9) : TX (up s 39 i v) n B b E tx := by
  refine ⟨h.1, ?_, ?_, h.2.2.2.1, h.2.2.2.2.1, ?_⟩
  · rw [up_s, if_neg (Ne.symm h8)]; exact h.2.1
  · rw [up_s, if_neg (Ne.symm h9)]; exact h.2.2.1
  · rcases h.2.2.2.2.1 with ⟨rfl, _⟩ | ⟨rfl, _⟩ <;> exact h.2.2.2.2.2
/-- the reader's own fields -/
def skG : Nat → Nat → Bool := fun k j => Nat.beq k 39 && [8, 9, 10, 11, 12, 13, 14, 17].contains j
theorem eo_GM {s s' : am_S} (h : eo skG s s') : eo skM s s' := fun k j e => h k j (by
  unfold skM at e
  exact (Bool.or_eq_false_iff.mp e).2)
theorem fnd_c {s : am_S} {c v : Int32} : fnd s c v = s ∨ fnd s c v = up (up s 39 17 1) 39 14 v := by
  unfold fnd
  split
  · split
    · exact Or.inl rfl
    · exact Or.inr rfl
  · exact Or.inl rfl
theorem TX_fnd {s : am_S} {n : am_N} {B b E : Nat} {tx : Nat → Nat} {c v : Int32} (h : TX s n B b E tx) : TX (fnd s c v) n B b E tx := by
  rcases fnd_c (s := s) (c := c) (v := v) with e | e <;> rw [e]
  · exact h
  · exact TX_up (TX_up h (by decide) (by decide)) (by decide) (by decide)
theorem fnd_43 {s : am_S} {c v : Int32} : fnd s c v 43 = s 43 := by
  rcases fnd_c (s := s) (c := c) (v := v) with e | e <;> rw [e]
  rfl
theorem eo_fnd {s : am_S} {c v : Int32} : eo skG s (fnd s c v) := by
  rcases fnd_c (s := s) (c := c) (v := v) with e | e <;> rw [e]
  · exact eo_rf
  · exact eo_upI rfl (eo_upI rfl eo_rf)
theorem eo_pst {s s1 : am_S} {p w : Nat} {f : Int32} (h : eo skG s s1) : eo skG s (pst s1 p w f) := eo_upI rfl (eo_upI rfl (eo_upI rfl h))
theorem eo_pfl {s s1 : am_S} {p f : Nat} {d : Int32} (h : eo skG s s1) : eo skG s (pfl s1 p d f) := eo_upI rfl (eo_upI rfl (eo_upI rfl h))
def PG (g : ag_G) (s : am_S) (n : am_N) (A : Nat → Int32) (r : Rl) : Option Value → va_W → Prop := fun o y => o = none ∧ ∃ s', y = hp g s' n ∧ eo skG s s' ∧ (match r with
  | .ok L => s' 39 11 = -1 ∧ s' 39 14 = gL A (s 39 17) (s 39 14) L
  | .error f => s' 39 11 = nI f)
theorem aw_kC {l : Launch} {g : ag_G} {M N : ag_M} {R : Room} {Z : ag_Z} {pc index d k q0 ci b p' : Nat} {L : List (Option Value)} {s : am_S} {n : am_N} {A : Nat → Int32} {ws : va_W} {c v : Ex} {C : vw_C} {fs As rest st0 : List Value}
    (hd : m_at M pc = some (.invokevirtual index, 3)) (hw : aw_cV (m_y M).cls index N k) (hc : aw_cl[ci]? = some C) (hcn : C.1 = (m_y N).cls) (he : ws[q0]? = some (b, .inr (ci, fs)))
    (hM : aw_M l g N d 0 0 (.ref b :: As) ws (PC g s n A (kOk p' c v))) (hk : As.length = k) (hst : st0 = As.reverse ++ .ref b :: rest) (hrest : (rest.map fun v => v.category).sum ≤ 8) (hf : d + 1 ≤ R.frames) (hlo : 8 + (m_n N + 11) + 100 * d ≤ R.locals) (h1 : 0 ≤ R.cells) (h2 : 0 ≤ R.slots)
    (kk : aw_W l g M R Z 0 0 (hp g (pst (fnd s (c A) (v A)) p' 0 (-1)) n) (pc + 3) L rest) : aw_W l g M R Z 0 0 ws pc L st0 :=
  aw_callV hd hw hc hcn he hM hk hst hrest hf hlo h1 h2 (by rintro r z ⟨rfl, rfl⟩; exact kk)
theorem aw_nC {l : Launch} {g : ag_G} {M N : ag_M} {R : Room} {Z : ag_Z} {pc index d k q0 ci b f : Nat} {L : List (Option Value)} {s : am_S} {n : am_N} {A : Nat → Int32} {ws : va_W} {C : vw_C} {fs As rest st0 : List Value}
    (hd : m_at M pc = some (.invokevirtual index, 3)) (hw : aw_cV (m_y M).cls index N k) (hc : aw_cl[ci]? = some C) (hcn : C.1 = (m_y N).cls) (he : ws[q0]? = some (b, .inr (ci, fs)))
    (hM : aw_M l g N d 0 0 (.ref b :: As) ws (PC g s n A (kNo f))) (hk : As.length = k) (hst : st0 = As.reverse ++ .ref b :: rest) (hrest : (rest.map fun v => v.category).sum ≤ 8) (hf : d + 1 ≤ R.frames) (hlo : 8 + (m_n N + 11) + 100 * d ≤ R.locals) (h1 : 0 ≤ R.cells) (h2 : 0 ≤ R.slots)
    (kk : ∀ p' d', aw_W l g M R Z 0 0 (hp g (pfl s p' d' f) n) (pc + 3) L rest) : aw_W l g M R Z 0 0 ws pc L st0 :=
  aw_callV hd hw hc hcn he hM hk hst hrest hf hlo h1 h2 (by rintro r z ⟨rfl, p', d', rfl⟩; exact kk p' d')
set_option maxRecDepth 4000 in
theorem c_m_goLoop {l : Launch} {g : ag_G} {n : am_N} {B b E : Nat} {tx : Nat → Nat} {A : Nat → Int32} (hx : aw_hx g) (hA : ∀ i, i < 6 → bd (A i)) : ∀ (m p : Nat) (r : Rl), LZ tx E m p r → p ≤ E → ∀ (s : am_S), TX s n B b E tx → (∀ i, i < 6 → s 43 (asN i) = A i) → s 39 13 = 121 → bb (s 39 17) → ∀ (Q : Option Value → va_W → Prop), (∀ o y, PG g s n A r o y → Q o y) → aw_W l g mi_X12_goThrough (aw_rm 31 0 0) (aw_Z g Q 0 0) 0 0 (hp g (pst s p 0 (-1)) n) 32 [some (.ref (g_ad g 39)), none, none, none] [] := by
  intro m
  induction m with
  | zero =>
    intro p r h hpE s hT hL hlb hfb Q hQ
    have hk := skw_b (tx := tx) hpE
    have h59 : cst tx E p ≠ 59 := by
      rcases h with ⟨h1, _⟩ | ⟨h1, _⟩
      · rw [h1]; decide
      · exact h1
    rcases h with ⟨h1, rfl⟩ | ⟨_, h1, rfl⟩
    · skip
      refine aw_aload_n rfl rfl ?_
      refine pg_39_11 rfl kl_X12_128 ?_
      refine aw_iconst (v := -1) rfl (by decide) ?_
      refine aw_icmp_ne (tgt := 66) rfl (by decide) (fun h37 => absurd (rfl) h37) (fun h37 => ?_)
      refine aw_aload_n rfl rfl ?_
      refine aw_iV (q0 := 39) (ci := 12) rfl cw_X12_138 rfl rfl rfl (c_m_lookC hT hpE) rfl rfl (Nat.le_of_ble_eq_true rfl) (by decide) (by decide) (by decide) (by decide) ?_
      refine aw_bipush (v := 59) rfl (by decide) ?_
      refine aw_icmp_ne (tgt := 66) rfl (by decide) (fun h46 => ?_) (fun h46 => absurd h46 (h59))
      refine aw_aload_n rfl rfl ?_
      refine pg_39_11 rfl kl_X12_128 ?_
      refine aw_iconst (v := -1) rfl (by decide) ?_
      refine aw_icmp_ne (tgt := 87) rfl (by decide) (fun h71 => absurd (rfl) h71) (fun h71 => ?_)
      refine aw_aload_n rfl rfl ?_
      refine aw_iV (q0 := 39) (ci := 12) rfl cw_X12_138 rfl rfl rfl (c_m_lookI hT hpE) rfl rfl (Nat.le_of_ble_eq_true rfl) (by decide) (by decide) (by decide) (by decide) ?_
      refine aw_iconst (v := -1) rfl (by decide) ?_
      refine aw_icmp_eq (tgt := 87) rfl (by decide) (fun h79 => ?_) (fun h79 => absurd (h1) h79)
      exact aw_vret rfl rfl (hQ _ _ ⟨rfl, _, rfl, eo_pst eo_rf, rfl, rfl⟩)
    · skip
      refine aw_aload_n rfl rfl ?_
      refine pg_39_11 rfl kl_X12_128 ?_
      refine aw_iconst (v := -1) rfl (by decide) ?_
      refine aw_icmp_ne (tgt := 66) rfl (by decide) (fun h37 => absurd (rfl) h37) (fun h37 => ?_)
      refine aw_aload_n rfl rfl ?_
      refine aw_iV (q0 := 39) (ci := 12) rfl cw_X12_138 rfl rfl rfl (c_m_lookC hT hpE) rfl rfl (Nat.le_of_ble_eq_true rfl) (by decide) (by decide) (by decide) (by decide) ?_
      refine aw_bipush (v := 59) rfl (by decide) ?_
      refine aw_icmp_ne (tgt := 66) rfl (by decide) (fun h46 => ?_) (fun h46 => absurd h46 (h59))
      refine aw_aload_n rfl rfl ?_
      refine pg_39_11 rfl kl_X12_128 ?_
      refine aw_iconst (v := -1) rfl (by decide) ?_
      refine aw_icmp_ne (tgt := 87) rfl (by decide) (fun h71 => absurd (rfl) h71) (fun h71 => ?_)
      refine aw_aload_n rfl rfl ?_
      refine aw_iV (q0 := 39) (ci := 12) rfl cw_X12_138 rfl rfl rfl (c_m_lookI hT hpE) rfl rfl (Nat.le_of_ble_eq_true rfl) (by decide) (by decide) (by decide) (by decide) ?_
      refine aw_iconst (v := -1) rfl (by decide) ?_
      refine aw_icmp_eq (tgt := 87) rfl (by decide) (fun h79 => absurd h79 (h1)) (fun h79 => ?_)
      refine aw_aload_n rfl rfl ?_
      refine aw_iV (q0 := 39) (ci := 12) rfl cw_X12_134 rfl rfl rfl (c_m_fails) rfl rfl (Nat.le_of_ble_eq_true rfl) (by decide) (by decide) (by decide) (by decide) ?_
      refine aw_pop rfl rfl ?_
      exact aw_vret rfl rfl (hQ _ _ ⟨rfl, _, rfl, eo_pst eo_rf, rfl⟩)
  | succ m ih =>
    intro p r h hpE s hT hL hlb hfb Q hQ
    have hk := skw_b (tx := tx) hpE
    have hE := hT.2.2.2.1
    obtain ⟨h59, h⟩ := h
    have hn := q_lt h59 (by decide)
    rcases h with ⟨f, h1, rfl⟩ | ⟨p1, c, v, r1, h1, h2, rfl⟩
    · have hf24 : ¬ nI f = (-1 : Int32) := nI_nm1 (by have : f ≤ E := CZ_pr h1 hn; omega)
      refine aw_aload_n rfl rfl ?_
      refine pg_39_11 rfl kl_X12_128 ?_
      refine aw_iconst (v := -1) rfl (by decide) ?_
      refine aw_icmp_ne (tgt := 66) rfl (by decide) (fun h37 => absurd (rfl) h37) (fun h37 => ?_)
      refine aw_aload_n rfl rfl ?_
      refine aw_iV (q0 := 39) (ci := 12) rfl cw_X12_138 rfl rfl rfl (c_m_lookC hT hpE) rfl rfl (Nat.le_of_ble_eq_true rfl) (by decide) (by decide) (by decide) (by decide) ?_
      refine aw_bipush (v := 59) rfl (by decide) ?_
      refine aw_icmp_ne (tgt := 66) rfl (by decide) (fun h46 => absurd (h59) h46) (fun h46 => ?_)
      refine aw_aload_n rfl rfl ?_
      refine aw_dup rfl rfl ?_
      refine pg_39_10 rfl kl_X12_119 ?_
      refine aw_iconst (v := 1) rfl (by decide) ?_
      refine aw_iadd rfl ?_
      refine pp_39_10 rfl kl_X12_119 ?_
      refine aw_eqs (ws' := hp g (pst s (skw tx E p + 1) 0 (-1)) n) ?_ rfl rfl (congrArg (fun z => hp g z n) pst_in)
      refine aw_aload_n rfl rfl ?_
      refine aw_nC (q0 := 39) (ci := 12) rfl cw_X12_211 rfl rfl rfl (c_m_clause hx hT hL hA h1 hn hlb hfb) rfl rfl (Nat.le_of_ble_eq_true rfl) (by decide) (by decide) (by decide) (by decide) (fun p2 d2 => ?_)
      refine aw_goto (tgt := 32) rfl (by decide) ?_
      refine aw_aload_n rfl rfl ?_
      refine pg_39_11 rfl kl_X12_128 ?_
      refine aw_iconst (v := -1) rfl (by decide) ?_
      refine aw_icmp_ne (tgt := 66) rfl (by decide) (fun h37 => ?_) (fun h37 => absurd h37 (hf24))
      refine aw_aload_n rfl rfl ?_
      refine pg_39_11 rfl kl_X12_128 ?_
      refine aw_iconst (v := -1) rfl (by decide) ?_
      refine aw_icmp_ne (tgt := 87) rfl (by decide) (fun h71 => ?_) (fun h71 => absurd h71 (hf24))
      exact aw_vret rfl rfl (hQ _ _ ⟨rfl, _, rfl, eo_pfl eo_rf, rfl⟩)
    · have hp1 : p1 ≤ E := (CZ_pr h1 hn).2
      have z := ih p1 r1 h2 hp1 (fnd s (c A) (v A)) (TX_fnd hT) (fun i hi => by rw [fnd_43]; exact hL i hi) ?_ ?_ Q
      · have hpost : ∀ o y, PG g (fnd s (c A) (v A)) n A r1 o y → PG g s n A (r1.map (fun L => (c, v) :: L)) o y := by
          rintro o y ⟨ho, s', hy, he, hr⟩
          refine ⟨ho, s', hy, eo_tr eo_fnd he, ?_⟩
          cases r1 with
          | error f => exact hr
          | ok L =>
            refine ⟨hr.1, hr.2.trans ?_⟩
            show _ = gL A (s 39 17) (s 39 14) ((c, v) :: L)
            simp only [gL]
            unfold fnd
            by_cases a1 : s 39 17 = 0
            · rw [if_pos a1, if_pos a1]
              by_cases a2 : c A = 0
              · rw [if_pos a2, if_pos a2]
              · rw [if_neg a2, if_neg a2]; rfl
            · rw [if_neg a1, if_neg a1]
        have z2 := z (fun o y h => hQ o y (hpost o y h))
        refine aw_aload_n rfl rfl ?_
        refine pg_39_11 rfl kl_X12_128 ?_
        refine aw_iconst (v := -1) rfl (by decide) ?_
        refine aw_icmp_ne (tgt := 66) rfl (by decide) (fun h37 => absurd (rfl) h37) (fun h37 => ?_)
        refine aw_aload_n rfl rfl ?_
        refine aw_iV (q0 := 39) (ci := 12) rfl cw_X12_138 rfl rfl rfl (c_m_lookC hT hpE) rfl rfl (Nat.le_of_ble_eq_true rfl) (by decide) (by decide) (by decide) (by decide) ?_
        refine aw_bipush (v := 59) rfl (by decide) ?_
        refine aw_icmp_ne (tgt := 66) rfl (by decide) (fun h46 => absurd (h59) h46) (fun h46 => ?_)
        refine aw_aload_n rfl rfl ?_
        refine aw_dup rfl rfl ?_
        refine pg_39_10 rfl kl_X12_119 ?_
        refine aw_iconst (v := 1) rfl (by decide) ?_
        refine aw_iadd rfl ?_
        refine pp_39_10 rfl kl_X12_119 ?_
        refine aw_eqs (ws' := hp g (pst s (skw tx E p + 1) 0 (-1)) n) ?_ rfl rfl (congrArg (fun z => hp g z n) pst_in)
        refine aw_aload_n rfl rfl ?_
        refine aw_kC (q0 := 39) (ci := 12) rfl cw_X12_211 rfl rfl rfl (c_m_clause hx hT hL hA h1 hn hlb hfb) rfl rfl (Nat.le_of_ble_eq_true rfl) (by decide) (by decide) (by decide) (by decide) ?_
        refine aw_goto (tgt := 32) rfl (by decide) ?_
        exact aw_wk z2 (And.intro rfl True.intro)
      · rcases fnd_c (s := s) (c := c A) (v := v A) with e | e <;> rw [e] <;> exact hlb
      · rcases fnd_c (s := s) (c := c A) (v := v A) with e | e <;> rw [e]
        · exact hfb
        · exact Or.inr rfl
def PH (g : ag_G) (s : am_S) (n : am_N) (A : Nat → Int32) (r : Rl) : Option Value → va_W → Prop := fun o y => o = none ∧ ∃ s', y = hp g s' n ∧ eo skG s s' ∧ (match r with
  | .ok L => s' 39 11 = -1 ∧ s' 39 14 = vL L A
  | .error f => s' 39 11 = nI f)
def st0 (s : am_S) (b E : Nat) : am_S := up (up (up (up (up (up (up (up s 39 8 (nI b)) 39 9 (nI E)) 39 10 0) 39 11 (-1)) 39 13 121) 39 12 0) 39 17 0) 39 14 0
theorem eo_st0 {s : am_S} {b E : Nat} : eo skG s (st0 s b E) := eo_upI rfl (eo_upI rfl (eo_upI rfl (eo_upI rfl (eo_upI rfl (eo_upI rfl (eo_upI rfl (eo_upI rfl eo_rf)))))))
theorem fnd_gL {s : am_S} {c v : Ex} {A : Nat → Int32} {L : List (Ex × Ex)} (h1 : s 39 17 = 0) (h2 : s 39 14 = 0) : gL A (fnd s (c A) (v A) 39 17) (fnd s (c A) (v A) 39 14) L = vL ((c, v) :: L) A := by
  unfold fnd
  rw [if_pos h1]
  simp only [vL]
  by_cases a : c A = 0
  · rw [if_pos a, if_pos a, h1, h2]; exact gL_0 L
  · rw [if_neg a, if_neg a]; exact gL_1 L
set_option maxRecDepth 4000 in
theorem c_m_goThrough_40 {l : Launch} {g : ag_G} {s : am_S} {n : am_N} {b E : Nat} {tx : Nat → Nat} {A : Nat → Int32} (hx : aw_hx g) (hL : ∀ i, i < 6 → s 43 (asN i) = A i) (hA : ∀ i, i < 6 → bd (A i)) (hE : E ≤ 240) (hbE : b + E ≤ 240) (htx : ∀ i, i < E → tx i < 256 ∧ s 40 (b + i) = n8 (tx i)) {r : Rl} (h : LW tx E r) : aw_M l g mi_X12_goThrough 31 0 0 [.ref (g_ad g 39), .ref (g_ad g 40), .int (nI b), .int (nI E)] (hp g s n) (PH g s (upT n 40) A r) := by
  have hT0 : TX (st0 s b E) (upT n 40) 40 b E tx := ⟨rfl, rfl, rfl, hE, Or.inl ⟨rfl, hbE⟩, htx⟩
  have hL0 : ∀ i, i < 6 → st0 s b E 43 (asN i) = A i := hL
  have hps : pst (st0 s b E) 0 0 (-1) = st0 s b E := pst_rf rfl rfl rfl
  refine aw_M_of mo_X12_goThrough (by decide) (Nat.le_of_ble_eq_true rfl) ?_
  rcases h with ⟨f, h1, rfl⟩ | ⟨p1, c, v, m, r1, h1, h2, rfl⟩
  · have hf24 : ¬ nI f = (-1 : Int32) := nI_nm1 (by have : f ≤ E := CZ_pr h1 (Nat.zero_le _); omega)
    refine aw_aload_n rfl rfl ?_
    refine aw_aload_n rfl rfl ?_
    refine aw_iload_n rfl rfl ?_
    refine aw_iload_n rfl rfl ?_
    refine aw_vV (q0 := 39) (ci := 12) rfl cw_X12_207 rfl rfl rfl (c_m_starts_40) rfl rfl (Nat.le_of_ble_eq_true rfl) (by decide) (by decide) (by decide) (by decide) ?_
    refine aw_aload_n rfl rfl ?_
    refine aw_bipush (v := 121) rfl (by decide) ?_
    refine pp_39_13 rfl kl_X12_201 ?_
    refine aw_aload_n rfl rfl ?_
    refine aw_iconst (v := 0) rfl (by decide) ?_
    refine pp_39_12 rfl kl_X12_131 ?_
    refine aw_aload_n rfl rfl ?_
    refine aw_iconst (v := 0) rfl (by decide) ?_
    refine pp_39_17 rfl kl_X12_197 (Or.inl rfl) ?_
    refine aw_aload_n rfl rfl ?_
    refine aw_iconst (v := 0) rfl (by decide) ?_
    refine pp_39_14 rfl kl_X12_204 ?_
    refine aw_aload_n rfl rfl ?_
    refine aw_eqs (ws' := hp g (pst (st0 s b E) 0 0 (-1)) (upT n 40)) ?_ rfl rfl (congrArg (fun z => hp g z (upT n 40)) hps.symm)
    refine aw_nC (q0 := 39) (ci := 12) rfl cw_X12_211 rfl rfl rfl (c_m_clause hx hT0 hL0 hA h1 (Nat.zero_le _) rfl (Or.inl rfl)) rfl rfl (Nat.le_of_ble_eq_true rfl) (by decide) (by decide) (by decide) (by decide) (fun p2 d2 => ?_)
    refine aw_aload_n rfl rfl ?_
    refine pg_39_11 rfl kl_X12_128 ?_
    refine aw_iconst (v := -1) rfl (by decide) ?_
    refine aw_icmp_ne (tgt := 66) rfl (by decide) (fun h37 => ?_) (fun h37 => absurd h37 (hf24))
    refine aw_aload_n rfl rfl ?_
    refine pg_39_11 rfl kl_X12_128 ?_
    refine aw_iconst (v := -1) rfl (by decide) ?_
    refine aw_icmp_ne (tgt := 87) rfl (by decide) (fun h71 => ?_) (fun h71 => absurd h71 (hf24))
    exact aw_vret rfl rfl ⟨rfl, _, rfl, eo_tr eo_st0 (eo_pfl eo_rf), rfl⟩
  · have z := c_m_goLoop (l := l) hx hA m p1 r1 h2 (CZ_pr h1 (Nat.zero_le _)).2 (fnd (st0 s b E) (c A) (v A)) (TX_fnd hT0) (fun i hi => by rw [fnd_43]; exact hL0 i hi) (by rcases fnd_c (s := st0 s b E) (c := c A) (v := v A) with e | e <;> rw [e] <;> rfl) (by rcases fnd_c (s := st0 s b E) (c := c A) (v := v A) with e | e <;> rw [e]; exact Or.inl rfl; exact Or.inr rfl) (PH g s (upT n 40) A (r1.map (fun L => (c, v) :: L))) (by
      rintro o y ⟨ho, s', hy, he, hr⟩
      refine ⟨ho, s', hy, eo_tr eo_st0 (eo_tr eo_fnd he), ?_⟩
      cases r1 with
      | error f => exact hr
      | ok L => exact ⟨hr.1, hr.2.trans (fnd_gL rfl rfl)⟩)
    refine aw_aload_n rfl rfl ?_
    refine aw_aload_n rfl rfl ?_
    refine aw_iload_n rfl rfl ?_
    refine aw_iload_n rfl rfl ?_
    refine aw_vV (q0 := 39) (ci := 12) rfl cw_X12_207 rfl rfl rfl (c_m_starts_40) rfl rfl (Nat.le_of_ble_eq_true rfl) (by decide) (by decide) (by decide) (by decide) ?_
    refine aw_aload_n rfl rfl ?_
    refine aw_bipush (v := 121) rfl (by decide) ?_
    refine pp_39_13 rfl kl_X12_201 ?_
    refine aw_aload_n rfl rfl ?_
    refine aw_iconst (v := 0) rfl (by decide) ?_
    refine pp_39_12 rfl kl_X12_131 ?_
    refine aw_aload_n rfl rfl ?_
    refine aw_iconst (v := 0) rfl (by decide) ?_
    refine pp_39_17 rfl kl_X12_197 (Or.inl rfl) ?_
    refine aw_aload_n rfl rfl ?_
    refine aw_iconst (v := 0) rfl (by decide) ?_
    refine pp_39_14 rfl kl_X12_204 ?_
    refine aw_aload_n rfl rfl ?_
    refine aw_eqs (ws' := hp g (pst (st0 s b E) 0 0 (-1)) (upT n 40)) ?_ rfl rfl (congrArg (fun z => hp g z (upT n 40)) hps.symm)
    refine aw_kC (q0 := 39) (ci := 12) rfl cw_X12_211 rfl rfl rfl (c_m_clause hx hT0 hL0 hA h1 (Nat.zero_le _) rfl (Or.inl rfl)) rfl rfl (Nat.le_of_ble_eq_true rfl) (by decide) (by decide) (by decide) (by decide) ?_
    exact aw_wk z (And.intro rfl True.intro)
set_option maxRecDepth 4000 in
theorem c_m_goThrough_41 {l : Launch} {g : ag_G} {s : am_S} {n : am_N} {b E : Nat} {tx : Nat → Nat} {A : Nat → Int32} (hx : aw_hx g) (hL : ∀ i, i < 6 → s 43 (asN i) = A i) (hA : ∀ i, i < 6 → bd (A i)) (hE : E ≤ 240) (hbE : b + E ≤ 960) (htx : ∀ i, i < E → tx i < 256 ∧ s 41 (b + i) = n8 (tx i)) {r : Rl} (h : LW tx E r) : aw_M l g mi_X12_goThrough 31 0 0 [.ref (g_ad g 39), .ref (g_ad g 41), .int (nI b), .int (nI E)] (hp g s n) (PH g s (upT n 41) A r) := by
  have hT0 : TX (st0 s b E) (upT n 41) 41 b E tx := ⟨rfl, rfl, rfl, hE, Or.inr ⟨rfl, hbE⟩, htx⟩
  have hL0 : ∀ i, i < 6 → st0 s b E 43 (asN i) = A i := hL
  have hps : pst (st0 s b E) 0 0 (-1) = st0 s b E := pst_rf rfl rfl rfl
  refine aw_M_of mo_X12_goThrough (by decide) (Nat.le_of_ble_eq_true rfl) ?_
  rcases h with ⟨f, h1, rfl⟩ | ⟨p1, c, v, m, r1, h1, h2, rfl⟩
  · have hf24 : ¬ nI f = (-1 : Int32) := nI_nm1 (by have : f ≤ E := CZ_pr h1 (Nat.zero_le _); omega)
    refine aw_aload_n rfl rfl ?_
    refine aw_aload_n rfl rfl ?_
    refine aw_iload_n rfl rfl ?_
    refine aw_iload_n rfl rfl ?_
    refine aw_vV (q0 := 39) (ci := 12) rfl cw_X12_207 rfl rfl rfl (c_m_starts_41) rfl rfl (Nat.le_of_ble_eq_true rfl) (by decide) (by decide) (by decide) (by decide) ?_
    refine aw_aload_n rfl rfl ?_
    refine aw_bipush (v := 121) rfl (by decide) ?_
    refine pp_39_13 rfl kl_X12_201 ?_
    refine aw_aload_n rfl rfl ?_
    refine aw_iconst (v := 0) rfl (by decide) ?_
    refine pp_39_12 rfl kl_X12_131 ?_
    refine aw_aload_n rfl rfl ?_
    refine aw_iconst (v := 0) rfl (by decide) ?_
    refine pp_39_17 rfl kl_X12_197 (Or.inl rfl) ?_
    refine aw_aload_n rfl rfl ?_
    refine aw_iconst (v := 0) rfl (by decide) ?_
    refine pp_39_14 rfl kl_X12_204 ?_
    refine aw_aload_n rfl rfl ?_
    refine aw_eqs (ws' := hp g (pst (st0 s b E) 0 0 (-1)) (upT n 41)) ?_ rfl rfl (congrArg (fun z => hp g z (upT n 41)) hps.symm)
    refine aw_nC (q0 := 39) (ci := 12) rfl cw_X12_211 rfl rfl rfl (c_m_clause hx hT0 hL0 hA h1 (Nat.zero_le _) rfl (Or.inl rfl)) rfl rfl (Nat.le_of_ble_eq_true rfl) (by decide) (by decide) (by decide) (by decide) (fun p2 d2 => ?_)
    refine aw_aload_n rfl rfl ?_
    refine pg_39_11 rfl kl_X12_128 ?_
    refine aw_iconst (v := -1) rfl (by decide) ?_
    refine aw_icmp_ne (tgt := 66) rfl (by decide) (fun h37 => ?_) (fun h37 => absurd h37 (hf24))
    refine aw_aload_n rfl rfl ?_
    refine pg_39_11 rfl kl_X12_128 ?_
    refine aw_iconst (v := -1) rfl (by decide) ?_
    refine aw_icmp_ne (tgt := 87) rfl (by decide) (fun h71 => ?_) (fun h71 => absurd h71 (hf24))
    exact aw_vret rfl rfl ⟨rfl, _, rfl, eo_tr eo_st0 (eo_pfl eo_rf), rfl⟩
  · have z := c_m_goLoop (l := l) hx hA m p1 r1 h2 (CZ_pr h1 (Nat.zero_le _)).2 (fnd (st0 s b E) (c A) (v A)) (TX_fnd hT0) (fun i hi => by rw [fnd_43]; exact hL0 i hi) (by rcases fnd_c (s := st0 s b E) (c := c A) (v := v A) with e | e <;> rw [e] <;> rfl) (by rcases fnd_c (s := st0 s b E) (c := c A) (v := v A) with e | e <;> rw [e]; exact Or.inl rfl; exact Or.inr rfl) (PH g s (upT n 41) A (r1.map (fun L => (c, v) :: L))) (by
      rintro o y ⟨ho, s', hy, he, hr⟩
      refine ⟨ho, s', hy, eo_tr eo_st0 (eo_tr eo_fnd he), ?_⟩
      cases r1 with
      | error f => exact hr
      | ok L => exact ⟨hr.1, hr.2.trans (fnd_gL rfl rfl)⟩)
    refine aw_aload_n rfl rfl ?_
    refine aw_aload_n rfl rfl ?_
    refine aw_iload_n rfl rfl ?_
    refine aw_iload_n rfl rfl ?_
    refine aw_vV (q0 := 39) (ci := 12) rfl cw_X12_207 rfl rfl rfl (c_m_starts_41) rfl rfl (Nat.le_of_ble_eq_true rfl) (by decide) (by decide) (by decide) (by decide) ?_
    refine aw_aload_n rfl rfl ?_
    refine aw_bipush (v := 121) rfl (by decide) ?_
    refine pp_39_13 rfl kl_X12_201 ?_
    refine aw_aload_n rfl rfl ?_
    refine aw_iconst (v := 0) rfl (by decide) ?_
    refine pp_39_12 rfl kl_X12_131 ?_
    refine aw_aload_n rfl rfl ?_
    refine aw_iconst (v := 0) rfl (by decide) ?_
    refine pp_39_17 rfl kl_X12_197 (Or.inl rfl) ?_
    refine aw_aload_n rfl rfl ?_
    refine aw_iconst (v := 0) rfl (by decide) ?_
    refine pp_39_14 rfl kl_X12_204 ?_
    refine aw_aload_n rfl rfl ?_
    refine aw_eqs (ws' := hp g (pst (st0 s b E) 0 0 (-1)) (upT n 41)) ?_ rfl rfl (congrArg (fun z => hp g z (upT n 41)) hps.symm)
    refine aw_kC (q0 := 39) (ci := 12) rfl cw_X12_211 rfl rfl rfl (c_m_clause hx hT0 hL0 hA h1 (Nat.zero_le _) rfl (Or.inl rfl)) rfl rfl (Nat.le_of_ble_eq_true rfl) (by decide) (by decide) (by decide) (by decide) ?_
    exact aw_wk z (And.intro rfl True.intro)
