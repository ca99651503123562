/-! the reference: fault -/
def exI {α : Type} : Except Nat α → Int32
  | .ok _ => -1
  | .error f => nI f
def fVal (tx : Nat → Nat) (E : Nat) (r1 : Rl) (x : Int32) : Int32 := if inn x.toInt64 0 2 = true then (if x = 0 then exI (kgR tx E) else if x = 1 then exI r1 else exI (rgR tx E)) else -2
def skU : Nat → Nat → Bool := fun k j => skT k j || skR k j
theorem eo_TU {s s' : am_S} (h : eo skT s s') : eo skU s s' := fun k j e => h k j (by unfold skU at e; exact (Bool.or_eq_false_iff.mp e).1)
theorem eo_RU {s s' : am_S} (h : eo skR s s') : eo skU s s' := fun k j e => h k j (by unfold skU at e; exact (Bool.or_eq_false_iff.mp e).2)
def PF (g : ag_G) (s : am_S) (n : am_N) (tx : Nat → Nat) (E : Nat) (r1 : Rl) (x : Int32) : Option Value → va_W → Prop := fun o y => o = some (.int (fVal tx E r1 x)) ∧ ∃ s' n', y = hp g s' n' ∧ eo skU s s' ∧ en n n' ∧ n'.1 = n.1 ∧ (x = 0 → ∀ K, kgR tx E = .ok K → KR s' K) ∧ (x = 2 → ∀ z, rgR tx E = .ok z → s' 51 4 = nI z.1 ∧ ∀ j, j < 3 * z.1 → s' 50 (192 + j) = z.2 j)
theorem aw_pF {l : Launch} {g : ag_G} {M N : ag_M} {R : Room} {Z : ag_Z} {pc index d k q0 ci b : Nat} {L : List (Option Value)} {n : am_N} {ws : va_W} {P : am_S → Prop} {C : vw_C} {fs As rest st0 : List Value} {Q' : Option Value → va_W → Prop}
    (hd : m_at M pc = some (.invokevirtual index, 3)) (hw : aw_cV (m_y M).cls index N k) (hc : aw_cl[ci]? = some C) (hcn : C.1 = (m_y N).cls) (he : ws[q0]? = some (b, .inr (ci, fs)))
    (hM : aw_M l g N d 0 0 (.ref b :: As) ws Q') (hQ : ∀ r y, Q' r y → r = none ∧ ∃ s', y = hp g s' n ∧ P s') (hk : As.length = k) (hst : st0 = As.reverse ++ .ref b :: rest) (hrest : (rest.map fun v => v.category).sum ≤ 8) (hf : d + 1 ≤ R.frames) (hlo : 8 + (m_n N + 11) + 100 * d ≤ R.locals) (h1 : 0 ≤ R.cells) (h2 : 0 ≤ R.slots)
    (kk : ∀ s', P s' → aw_W l g M R Z 0 0 (hp g s' n) (pc + 3) L rest) : aw_W l g M R Z 0 0 ws pc L st0 :=
  aw_callV hd hw hc hcn he hM hk hst hrest hf hlo h1 h2 (by
    intro r y h
    obtain ⟨rfl, s', rfl, hp'⟩ := hQ r y h
    exact kk s' hp')
set_option maxRecDepth 4000 in
theorem c_m_fault {l : Launch} {g : ag_G} {s : am_S} {n : am_N} {E : Nat} {tx : Nat → Nat} (hx : aw_hx g) (hE : E ≤ 240) (hEe : s 39 6 = nI E) (htx : ∀ i, i < E → tx i < 256 ∧ s 40 i = n8 (tx i)) (hlb : ∀ i, i < 6 → bd (s 43 (asN i))) {r1 : Rl} (hr1 : LW tx E r1) {x : Int32} : aw_M l g mi_X12_fault 32 0 0 [.ref (g_ad g 39), .int x] (hp g s n) (PF g (up s 39 0 0) n tx E r1 x) := by
  refine aw_M_of mo_X12_fault (by decide) (Nat.le_of_ble_eq_true rfl) ?_
  refine aw_aload_n rfl rfl ?_
  refine aw_iconst (v := 0) rfl (by decide) ?_
  refine pp_39_0 rfl kl_X12_96 ?_
  have hEe : up s 39 0 0 39 6 = nI E := hEe
  have htx : ∀ i, i < E → tx i < 256 ∧ up s 39 0 0 40 i = n8 (tx i) := htx
  have hlb : ∀ i, i < 6 → bd (up s 39 0 0 43 (asN i)) := hlb
  generalize up s 39 0 0 = S at *
  have hin : ∀ (q : inn x.toInt64 0 2 = true), aw_W l g mi_X12_fault (aw_rm 32 0 0) (aw_Z g (PF g S n tx E r1 x) 0 0) 0 0 (hp g S n) 20 [some (.ref (g_ad g 39)), some (.int x)] [] := by
    intro q
    by_cases hx0 : x = 0
    · skip
      refine aw_iload_n rfl rfl ?_
      refine aw_if_ne (tgt := 28) rfl (by decide) (fun h21 => absurd (hx0) h21) (fun h21 => ?_)
      refine aw_aload_n rfl rfl ?_
      refine aw_pF (q0 := 39) (ci := 12) (n := upT n 40) (P := fun s1 => eo skT S s1 ∧ s1 39 11 = exI (kgR tx E) ∧ ∀ K, kgR tx E = .ok K → KR s1 K) rfl cw_X12_274 rfl rfl rfl (c_m_readKingdom hx hE hEe htx) (by (rintro r y ⟨rfl, s1, rfl, e1, hr⟩; refine ⟨rfl, s1, rfl, e1, ?_⟩; revert hr; cases kgR tx E with | ok K => exact fun hr => ⟨hr.1, fun K2 h2 => (by cases h2; exact hr.2)⟩ | error f => exact fun hr => ⟨hr, fun K2 h2 => by cases h2⟩)) rfl rfl (Nat.le_of_ble_eq_true rfl) (by decide) (by decide) (by decide) (by decide) (fun s1 h1 => ?_)
      refine aw_iload_n rfl rfl ?_
      refine aw_iconst (v := 1) rfl (by decide) ?_
      refine aw_icmp_ne (tgt := 46) rfl (by decide) (fun h30 => ?_) (fun h30 => absurd h30 (by rw [hx0]; decide))
      refine aw_iload_n rfl rfl ?_
      refine aw_iconst (v := 2) rfl (by decide) ?_
      refine aw_icmp_ne (tgt := 55) rfl (by decide) (fun h48 => ?_) (fun h48 => absurd h48 (by rw [hx0]; decide))
      refine aw_aload_n rfl rfl ?_
      refine pg_39_11 rfl kl_X12_128 ?_
      exact aw_iret rfl rfl ⟨by rw [h1.2.1]; unfold fVal; rw [if_pos q, if_pos hx0], s1, upT n 40, rfl, eo_TU h1.1, ⟨fun _ _ => rfl, rfl, rfl⟩, rfl, fun _ => h1.2.2, fun e => absurd (hx0.symm.trans e) (by decide)⟩
    · by_cases hx1 : x = 1
      · skip
        refine aw_iload_n rfl rfl ?_
        refine aw_if_ne (tgt := 28) rfl (by decide) (fun h21 => ?_) (fun h21 => absurd h21 (hx0))
        refine aw_iload_n rfl rfl ?_
        refine aw_iconst (v := 1) rfl (by decide) ?_
        refine aw_icmp_ne (tgt := 46) rfl (by decide) (fun h30 => absurd (hx1) h30) (fun h30 => ?_)
        refine aw_aload_n rfl rfl ?_
        refine aw_aload_n rfl rfl ?_
        refine pg_39_1 rfl kl_X12_9 ?_
        refine aw_iconst (v := 0) rfl (by decide) ?_
        refine aw_aload_n rfl rfl ?_
        refine pg_39_6 rfl kl_X12_109 ?_
        refine aw_pF (q0 := 39) (ci := 12) (n := upT n 40) (P := fun s1 => eo skG S s1 ∧ s1 39 11 = exI r1) rfl cw_X12_277 rfl rfl rfl ((show aw_M l g mi_X12_goThrough 31 0 0 [.ref (g_ad g 39), .ref (g_ad g 40), .int 0, .int (S 39 6)] (hp g S n) (PH g S (upT n 40) (fun i => S 43 (asN i)) r1) from by (rw [hEe]; exact c_m_goThrough_40 (b := 0) hx (fun i _ => rfl) hlb hE (by omega) (fun i hi => by rw [Nat.zero_add]; exact htx i hi) hr1))) (by (rintro r y ⟨rfl, s1, rfl, e1, hr⟩; refine ⟨rfl, s1, rfl, e1, ?_⟩; revert hr; cases r1 with | ok L => exact fun hr => hr.1 | error f => exact fun hr => hr)) rfl rfl (Nat.le_of_ble_eq_true rfl) (by decide) (by decide) (by decide) (by decide) (fun s1 h1 => ?_)
        refine aw_iload_n rfl rfl ?_
        refine aw_iconst (v := 2) rfl (by decide) ?_
        refine aw_icmp_ne (tgt := 55) rfl (by decide) (fun h48 => ?_) (fun h48 => absurd h48 (by rw [hx1]; decide))
        refine aw_aload_n rfl rfl ?_
        refine pg_39_11 rfl kl_X12_128 ?_
        exact aw_iret rfl rfl ⟨by rw [h1.2]; unfold fVal; rw [if_pos q, if_neg hx0, if_pos hx1], s1, upT n 40, rfl, eo_TU (eo_GT h1.1), ⟨fun _ _ => rfl, rfl, rfl⟩, rfl, fun e => absurd e hx0, fun e => absurd (hx1.symm.trans e) (by decide)⟩
      · have hx2 : x = 2 := by
          obtain ⟨j, hj, rfl⟩ := inn_nI (M := 2) (by decide) (by decide) q
          have a0 : j ≠ 0 := fun e => hx0 (by rw [e]; rfl)
          have a1 : j ≠ 1 := fun e => hx1 (by rw [e]; rfl)
          have a2 : j = 2 := by omega
          rw [a2]; rfl
        refine aw_iload_n rfl rfl ?_
        refine aw_if_ne (tgt := 28) rfl (by decide) (fun h21 => ?_) (fun h21 => absurd h21 (hx0))
        refine aw_iload_n rfl rfl ?_
        refine aw_iconst (v := 1) rfl (by decide) ?_
        refine aw_icmp_ne (tgt := 46) rfl (by decide) (fun h30 => ?_) (fun h30 => absurd h30 (hx1))
        refine aw_iload_n rfl rfl ?_
        refine aw_iconst (v := 2) rfl (by decide) ?_
        refine aw_icmp_ne (tgt := 55) rfl (by decide) (fun h48 => absurd (hx2) h48) (fun h48 => ?_)
        refine aw_aload_n rfl rfl ?_
        refine aw_pF (q0 := 39) (ci := 12) (n := upT n 40) (P := fun s1 => eo skR S s1 ∧ s1 39 11 = exI (rgR tx E) ∧ ∀ z, rgR tx E = .ok z → s1 51 4 = nI z.1 ∧ ∀ j, j < 3 * z.1 → s1 50 (192 + j) = z.2 j) rfl cw_X12_280 rfl rfl rfl (c_m_readReign hx hE hEe htx) (by (rintro r y ⟨rfl, s1, rfl, e1, hr⟩; refine ⟨rfl, s1, rfl, e1, ?_⟩; revert hr; cases rgR tx E with | ok z => exact fun hr => ⟨hr.1, fun z2 h2 => (by cases h2; exact hr.2)⟩ | error f => exact fun hr => ⟨hr, fun z2 h2 => by cases h2⟩)) rfl rfl (Nat.le_of_ble_eq_true rfl) (by decide) (by decide) (by decide) (by decide) (fun s1 h1 => ?_)
        refine aw_aload_n rfl rfl ?_
        refine pg_39_11 rfl kl_X12_128 ?_
        exact aw_iret rfl rfl ⟨by rw [h1.2.1]; unfold fVal; rw [if_pos q, if_neg hx0, if_neg hx1], s1, upT n 40, rfl, eo_RU h1.1, ⟨fun _ _ => rfl, rfl, rfl⟩, rfl, fun e => absurd e hx0, fun _ => h1.2.2⟩
  refine aw_iload_n rfl rfl ?_
  refine aw_i2l rfl ?_
  refine aw_lconst (v := 0) rfl (by decide) ?_
  refine aw_ldc2 (v := 2) rfl (aw_t6 165 rfl rfl) ?_
  refine aw_iS rfl cw_X12_217 (c_m_isIn) rfl rfl (Nat.le_of_ble_eq_true rfl) (by decide) (by decide) (by decide) (by decide) ?_
  refine aw_if_ne (tgt := 20) rfl (by decide) (fun h14 => ?_) (fun h14 => ?_)
  · exact aw_wk (hin (bB_n0.mp h14)) (And.intro rfl (And.intro rfl True.intro))
  · refine aw_bipush (v := -2) rfl (by decide) ?_
    exact aw_iret rfl rfl ⟨by unfold fVal; rw [if_neg (by rw [bB_0.mp h14]; exact Bool.false_ne_true)], S, n, rfl, eo_rf, en_rf, rfl, fun e => absurd (bB_0.mp h14) (by rw [e]; decide), fun e => absurd (bB_0.mp h14) (by rw [e]; decide)⟩
