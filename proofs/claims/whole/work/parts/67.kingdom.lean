/-! the reference: a kingdom -/
section AxLdcW
variable {p : Program} {l : Launch} {e : Env} {R : Room} {s : State} {m : MethodId} {args : Array Value} {below : List Frame} {meth : Method} {c : Code} {H : Heap} {locs : List Loc} {cells slots : Nat} {Q : State → Prop}
theorem ax_ldcwString {T : State} (X : Stand p l e R s m args below meth c T locs cells slots) (hexec : p.tables.exec = Jvm.exec) {own text : String} {index : Nat} {a : Addr} (hown : s.vm.findClass own = some m.cls)
    (hconst : (Cond.stringRef own index text).before args s = true) (hev : (Term.string own index).eval args s none [] s = some (.ref a)) {g : JFrame} (hg : g.method = m) (hdg : decode c.code g.pc = .ok (.ldc_w index, 3)) :
    ∀ target, Steps p.tables e below (T.setTop { g with pc := g.pc + 3, stack := .ref a :: g.stack }) target → Steps p.tables e below (T.setTop g) target := by
  obtain ⟨k, cf, i, a', hk, hcf, hcp, -, hr, hev'⟩ := Cond.stringRef_spec hown hconst
  cases hev.symm.trans hev'
  obtain ⟨k', hk', he⟩ := X.warmed.alike.2.2 _ _ hk
  have hr' : k'.resolved[index]? = some (some (.string a)) := by
    rcases X.warmed.entry hk hk' index with h | ⟨h, -⟩
    · rw [h]; exact hr
    · rw [hr] at h; cases h
  intro target hrest
  subst hg
  jvm_step X.here [hexec, hdg, ldc_w.wp_string (e := e) (s := T) (f := g) X.here.top hk' (by rw [he]; exact hcf) hcp hr']
  exact hrest
theorem ax_ldcwS {cc : ByteArray} {pc : Nat} {ls : Array Slot} {rest : List Value} (hexec : p.tables.exec = Jvm.exec) (hb : c.code = cc) {own tx : String} {index q : Nat} (hown : s.vm.findClass own = some m.cls) (hZ : vk_R own index tx q s) (hdg : decode cc pc = .ok (.ldc_w index, 3))
    (k : W p l e R s m args below meth c H locs cells slots Q (F0 m (pc + 3) ls (.ref q :: rest))) : W p l e R s m args below meth c H locs cells slots Q (F0 m pc ls rest) := by
  intro T hT X
  obtain ⟨t, a1, b1⟩ := k T hT X
  exact ⟨t, ax_ldcwString X hexec hown (text := tx) (a := q) hZ.1 hZ.2 (g := F0 m pc ls rest) rfl (by rw [hb]; exact hdg) t a1, b1⟩
end AxLdcW
theorem aw_ldcwS {l : Launch} {g : ag_G} {M : ag_M} {R : Room} {Z : ag_Z} {cells slots : Nat} {ws : va_W} {pc : Nat} {L : List (Option Value)} {st : List Value} {index a : Nat} {tx : String} (hd : m_at M pc = some (.ldc_w index, 3)) (hr : ∀ U, g_X g U → vk_R (m_y M).cls index tx a U) (kk : aw_W l g M R Z cells slots ws (pc + 3) L (.ref a :: st)) : aw_W l g M R Z cells slots ws pc L st :=
  fun p e s m args below meth c H locs ls hC hH hL => ax_ldcwS hC.1 hC.2.1 hC.2.2.2.1 (hr s hC.2.2.2.2.2.2.2.2.1) (hC.2.2.2.2.2.2.2.2.2.2.2.1 _ _ _ hd) (kk p e s m args below meth c H locs ls hC hH hL)
def wrV (f : Nat → Int32) (row len : Nat) (r : Nat → Int32) : Nat → Int32 := fun j => if row ≤ j ∧ j < row + len then r (j - row) else f j
theorem wrV_up {f r : Nat → Int32} {row len i : Nat} {v : Int32} (h : i < len) : upd (wrV f row len r) (row + i) v = wrV f row len (upd r (0 + i) v) := by
  funext j
  unfold upd wrV
  dsimp only
  by_cases e : j = row + i
  · rw [if_pos e, if_pos (by omega), if_pos (by omega)]
  · rw [if_neg e]
    by_cases e2 : row ≤ j ∧ j < row + len
    · rw [if_pos e2, if_pos e2, if_neg (by omega)]
    · rw [if_neg e2, if_neg e2]
theorem itL_row {tx : Nat → Nat} {E si row len : Nat} {ms : Nat → Nat} {f0 : Nat → Int32} (hl : xLen.getD si 0 = len) : ∀ (d p : Nat) (met : Int32) (r : Nat → Int32), itL tx E si ms row d p met (wrV f0 row len r) = (itL tx E si ms 0 d p met r).map (fun z => (z.1, wrV f0 row len z.2))
  | 0, _, _, _ => rfl
  | d + 1, p, met, r => by
    simp only [itL]
    cases hi : xsp si (cst tx E p) with
    | none => rfl
    | some i =>
      have hil : i < len := by rw [← hl]; exact xsp_lt hi
      simp only
      by_cases hm : hs met (nI i) = true
      · rw [if_pos hm, if_pos hm]; rfl
      · rw [if_neg hm, if_neg hm]
        cases nm2 tx E (skw tx E p + 1) (ms i) with
        | error e => rfl
        | ok z =>
          simp only
          rw [wrV_up hil]
          exact itL_row hl d z.1 _ _
def usV (d : Int32) : Nat → Int32 := fun i => usO d (nI i)
theorem usF_wr {d : Int32} {row : Nat} {f : Nat → Int32} : ∀ len, usF d row len f = wrV f row len (usV d)
  | 0 => by
    funext j
    unfold wrV
    rw [if_neg (by omega)]
    rfl
  | len + 1 => by
    have := usF_wr (d := d) (row := row) (f := f) len
    unfold usF at this ⊢
    rw [fd_snoc, this, Nat.zero_add]
    funext j
    unfold upd wrV usV
    by_cases e : j = row + len
    · rw [if_pos e, if_pos (by omega), e, Nat.add_sub_cancel_left]
    · rw [if_neg e]
      by_cases e2 : row ≤ j ∧ j < row + len
      · rw [if_pos e2, if_pos (by omega)]
      · rw [if_neg e2, if_neg (by omega)]
theorem itL_b {tx : Nat → Nat} {E si row : Nat} {ms : Nat → Nat} (hsi : si < 11) : ∀ (d p : Nat) (met : Int32) (f : Nat → Int32), p ≤ E → match itL tx E si ms row d p met f with
    | .ok z => p ≤ z.1 ∧ z.1 ≤ E
    | .error e => e ≤ E
  | 0, _, _, _, h => h
  | d + 1, p, met, f, h => by
    have hk := skw_b (tx := tx) h
    simp only [itL]
    cases hi : xsp si (cst tx E p) with
    | none => exact ⟨hk.1, hk.2.1⟩
    | some i =>
      have hnx : skw tx E p + 1 ≤ E := by
        have := cst_lt (tx := tx) (E := E) (p := p) (by intro e; rw [e, xsp_m1 si hsi] at hi; cases hi)
        omega
      simp only
      by_cases hm : hs met (nI i) = true
      · rw [if_pos hm]; exact hk.2.1
      · rw [if_neg hm]
        have hb := nm2_b (tx := tx) (M := ms i) hnx
        cases hn : nm2 tx E (skw tx E p + 1) (ms i) with
        | error e => rw [hn] at hb; exact hb.2
        | ok z =>
          rw [hn] at hb
          have h1 : skw tx E p + 1 < z.1 := hb.1
          have ih := itL_b (tx := tx) (row := row) (ms := ms) hsi d z.1 (met ||| bt i) (upd f (row + i) (nI z.2)) hb.2.1
          simp only
          cases hr : itL tx E si ms row d z.1 (met ||| bt i) (upd f (row + i) (nI z.2)) with
          | ok y => rw [hr] at ih; exact ⟨by have : z.1 ≤ y.1 := ih.1; show p ≤ y.1; omega, ih.2⟩
          | error e => rw [hr] at ih; exact ih
abbrev Kd := Bool × Nat × Nat × (Nat → Int32) × (Nat → Nat → Int32) × (Nat → Int32)
def it1 (tx : Nat → Nat) (E si d p : Nat) : Except Nat (Nat × (Nat → Int32)) := itL tx E si (msN d) 0 (E + 1) (skw tx E p + 1) 0 (usV (nI d))
def kCl (tx : Nat → Nat) (E : Nat) (K : Kd) (p : Nat) : Except Nat (Nat × Kd) :=
  if cst tx E p = 115 ∧ K.1 = false then (it1 tx E 1 115 p).map (fun z => (z.1, (true, K.2.1, K.2.2.1, z.2, K.2.2.2.2.1, K.2.2.2.2.2)))
  else if cst tx E p = 116 ∧ K.2.1 < 7 then (it1 tx E 2 116 p).map (fun z => (z.1, (K.1, K.2.1 + 1, K.2.2.1, K.2.2.2.1, (fun t => if t = K.2.1 then z.2 else K.2.2.2.2.1 t), K.2.2.2.2.2)))
  else if cst tx E p = 114 ∧ K.2.2.1 < 5 then (it1 tx E 3 114 p).map (fun z => (z.1, (K.1, K.2.1, K.2.2.1 + 1, K.2.2.2.1, K.2.2.2.2.1, upd K.2.2.2.2.2 K.2.2.1 (z.2 0))))
  else .error (skw tx E p)
def whK (K : Kd) : Bool := (fs (fun t => !decide (K.2.2.2.2.1 t 0 < nI K.2.2.1)) 0 K.2.1).isNone && (decide (0 < K.2.1) && decide (0 < K.2.2.1))
def kgL (tx : Nat → Nat) (E : Nat) : Nat → Nat → Kd → Except Nat Kd
  | 0, p, _ => .error p
  | d + 1, p, K => match kCl tx E K p with
    | .error e => .error e
    | .ok z => if cst tx E z.1 = 59 then kgL tx E d (skw tx E z.1 + 1) z.2 else if cst tx E z.1 = -1 ∧ whK z.2 = true then .ok z.2 else .error (skw tx E z.1)
def kg0 : Kd := (false, 0, 0, usV 115, (fun _ _ => 0), fun _ => 0)
def kgR (tx : Nat → Nat) (E : Nat) : Except Nat Kd := kgL tx E (E + 1) 0 kg0
theorem it1_b {tx : Nat → Nat} {E si d p : Nat} (hsi : si < 11) (hp : skw tx E p + 1 ≤ E) : match it1 tx E si d p with
    | .ok z => skw tx E p + 1 ≤ z.1 ∧ z.1 ≤ E
    | .error e => e ≤ E := itL_b hsi _ _ _ _ hp
theorem kCl_b {tx : Nat → Nat} {E p : Nat} {K : Kd} (hp : p ≤ E) (hK : K.2.1 ≤ 7 ∧ K.2.2.1 ≤ 5) : match kCl tx E K p with
    | .ok z => p < z.1 ∧ z.1 ≤ E ∧ z.2.2.1 ≤ 7 ∧ z.2.2.2.1 ≤ 5
    | .error e => e ≤ E := by
  have hk := skw_b (tx := tx) hp
  unfold kCl
  by_cases h1 : cst tx E p = 115 ∧ K.1 = false
  · rw [if_pos h1]
    have hb := it1_b (si := 1) (d := 115) (by decide) (q_lt h1.1 (by decide))
    cases hr : it1 tx E 1 115 p with
    | error e => rw [hr] at hb; exact hb
    | ok z => rw [hr] at hb; exact ⟨by have := hb.1; show p < z.1; omega, hb.2, hK.1, hK.2⟩
  · rw [if_neg h1]
    by_cases h2 : cst tx E p = 116 ∧ K.2.1 < 7
    · rw [if_pos h2]
      have hb := it1_b (si := 2) (d := 116) (by decide) (q_lt h2.1 (by decide))
      cases hr : it1 tx E 2 116 p with
      | error e => rw [hr] at hb; exact hb
      | ok z => rw [hr] at hb; exact ⟨by have := hb.1; show p < z.1; omega, hb.2, by show K.2.1 + 1 ≤ 7; omega, hK.2⟩
    · rw [if_neg h2]
      by_cases h3 : cst tx E p = 114 ∧ K.2.2.1 < 5
      · rw [if_pos h3]
        have hb := it1_b (si := 3) (d := 114) (by decide) (q_lt h3.1 (by decide))
        cases hr : it1 tx E 3 114 p with
        | error e => rw [hr] at hb; exact hb
        | ok z => rw [hr] at hb; exact ⟨by have := hb.1; show p < z.1; omega, hb.2, hK.1, by show K.2.2.1 + 1 ≤ 5; omega⟩
      · rw [if_neg h3]; exact hk.2.1
/-- what reading a kingdom changes -/
def skK : Nat → Nat → Bool := fun k j => Nat.beq k 45 || (Nat.beq k 47 || (Nat.beq k 49 || (Nat.beq k 39 && [28, 29, 31].contains j)))
theorem TX_K {s s' : am_S} {n : am_N} {B b E : Nat} {tx : Nat → Nat} (h : TX s n B b E tx) (e : eo skK s s') : TX s' n B b E tx := by
  refine ⟨h.1, (e 39 8 rfl).trans h.2.1, (e 39 9 rfl).trans h.2.2.1, h.2.2.2.1, h.2.2.2.2.1, ?_⟩
  rcases h.2.2.2.2.1 with ⟨rfl, _⟩ | ⟨rfl, _⟩
  · intro i hi; rw [e 40 _ rfl]; exact h.2.2.2.2.2 i hi
  · intro i hi; rw [e 41 _ rfl]; exact h.2.2.2.2.2 i hi
def KR (s : am_S) (K : Kd) : Prop := s 39 31 = bB K.1 ∧ s 39 28 = nI K.2.1 ∧ s 39 29 = nI K.2.2.1 ∧ K.2.1 ≤ 7 ∧ K.2.2.1 ≤ 5 ∧ (∀ i, i < 3 → s 45 i = K.2.2.2.1 i) ∧ (∀ t, t < K.2.1 → ∀ i, i < 5 → s 47 (5 * t + i) = K.2.2.2.2.1 t i) ∧ ∀ r, r < K.2.2.1 → s 49 r = K.2.2.2.2.2 r
def PR (g : ag_G) (s : am_S) (n : am_N) (w : Nat) : Except Nat (Nat × Kd) → Option Value → va_W → Prop
  | .ok z => fun o y => o = none ∧ ∃ s', y = hp g (pst s' z.1 w (-1)) n ∧ KR s' z.2 ∧ eo skK s s'
  | .error e => fun o y => o = none ∧ ∃ s' p, y = hp g (pst s' p w (nI e)) n ∧ eo skK s s'
section AwPI
variable {l : Launch} {g : ag_G} {M : ag_M} {R : Room} {Z : ag_Z} {pc : Nat} {L : List (Option Value)} {st : List Value} {s : am_S} {n : am_N} {ws : va_W}
theorem aw_pI {N : ag_M} {index d k q0 ci b w Ce : Nat} {rr : Except Nat (Nat × (Nat → Int32))} {C : vw_C} {fs As rest st0 : List Value}
    (hd : m_at M pc = some (.invokevirtual index, 3)) (hw : aw_cV (m_y M).cls index N k) (hc : aw_cl[ci]? = some C) (hcn : C.1 = (m_y N).cls) (he : ws[q0]? = some (b, .inr (ci, fs)))
    (hM : aw_M l g N d 0 0 (.ref b :: As) ws (PI g s n Ce w rr)) (hk : As.length = k) (hst : st0 = As.reverse ++ .ref b :: rest) (hrest : (rest.map fun v => v.category).sum ≤ 8) (hf : d + 1 ≤ R.frames) (hlo : 8 + (m_n N + 11) + 100 * d ≤ R.locals) (h1 : 0 ≤ R.cells) (h2 : 0 ≤ R.slots)
    (kk : ∀ z, rr = .ok z → aw_W l g M R Z 0 0 (hp g (pst (upR s Ce z.2) z.1 w (-1)) n) (pc + 3) L rest) (kn : ∀ e f p, rr = .error e → aw_W l g M R Z 0 0 (hp g (pst (upR s Ce f) p w (nI e)) n) (pc + 3) L rest) : aw_W l g M R Z 0 0 ws pc L st0 :=
  aw_callV hd hw hc hcn he hM hk hst hrest hf hlo h1 h2 (by
    cases rr with
    | ok z => rintro r y ⟨rfl, rfl⟩; exact kk z rfl
    | error f => rintro r y ⟨rfl, f2, p2, rfl⟩; exact kn f f2 p2 rfl)
end AwPI
theorem pst_39 {s : am_S} {p w i : Nat} {x v : Int32} (h1 : i ≠ 10) (h2 : i ≠ 11) (h3 : i ≠ 12) : up (pst s p w x) 39 i v = pst (up s 39 i v) p w x := by
  unfold pst
  rw [up_cs (Ne.symm h2), up_cs (Ne.symm h3), up_cs (Ne.symm h1)]
theorem eo_upRK {K : Nat → Nat → Bool} {s s1 : am_S} {k : Nat} {f : Nat → Int32} (hk : ∀ j, K k j = true) (h : eo K s s1) : eo K s (upR s1 k f) := by
  intro k' j e
  unfold upR
  cases hb : Nat.beq k' k with
  | true => rw [Nat.eq_of_beq_eq_true hb] at e; rw [hk j] at e; cases e
  | false => exact h k' j e
set_option maxRecDepth 4000 in
theorem c_m_readClause {l : Launch} {g : ag_G} {s : am_S} {n : am_N} {B b E p w : Nat} {tx : Nat → Nat} (hx : aw_hx g) (hT : TX s n B b E tx) (hpE : p ≤ E) {K : Kd} (hK : KR s K) : aw_M l g mi_X12_readClause 6 0 0 [.ref (g_ad g 39)] (hp g (pst s p w (-1)) n) (PR g s n w (kCl tx E K p)) := by
  have hE := hT.2.2.2.1
  have hk := skw_b (tx := tx) hpE
  obtain ⟨k1, k2, k3, k4, k5, k6, k7, k8⟩ := hK
  refine aw_M_of mo_X12_readClause (by decide) (Nat.le_of_ble_eq_true rfl) ?_
  by_cases h1 : cst tx E p = 115 ∧ K.1 = false
  · have hnx := q_lt h1.1 (by decide)
    have hkc : kCl tx E K p = (it1 tx E 1 115 p).map (fun z => (z.1, (true, K.2.1, K.2.2.1, z.2, K.2.2.2.2.1, K.2.2.2.2.2))) := by (unfold kCl; rw [if_pos h1])
    have hir : itL tx E 1 (msN 115) (0) (E + 1) (skw tx E p + 1) 0 (usF 115 (0) 3 (s 45)) = (it1 tx E 1 115 p).map (fun z => (z.1, wrV (s 45) (0) 3 z.2)) := by (rw [usF_wr]; exact itL_row rfl _ _ _ _)
    rw [hkc]
    refine aw_aload_n rfl rfl ?_
    refine aw_iV (q0 := 39) (ci := 12) rfl cw_X12_138 rfl rfl rfl (c_m_lookC hT hpE) rfl rfl (Nat.le_of_ble_eq_true rfl) (by decide) (by decide) (by decide) (by decide) ?_
    refine aw_istore_n rfl (by decide) ?_
    refine aw_iload_n rfl rfl ?_
    refine aw_bipush (v := 115) rfl (by decide) ?_
    refine aw_icmp_ne (tgt := 18) rfl (by decide) (fun h8 => absurd (h1.1) h8) (fun h8 => ?_)
    refine aw_aload_n rfl rfl ?_
    refine pg_39_31 rfl kl_X12_239 ?_
    refine aw_if_eq (tgt := 47) rfl (by decide) (fun h15 => ?_) (fun h15 => absurd (by show s 39 31 = 0; rw [k1, h1.2]; rfl) h15)
    refine aw_iconst (v := 1) rfl (by decide) ?_
    refine aw_goto (tgt := 52) rfl (by decide) ?_
    refine aw_istore_n rfl (by decide) ?_
    refine aw_iload_n rfl rfl ?_
    refine aw_if_ne (tgt := 63) rfl (by decide) (fun h54 => ?_) (fun h54 => absurd h54 (by decide))
    refine aw_aload_n rfl rfl ?_
    refine aw_dup rfl rfl ?_
    refine pg_39_10 rfl kl_X12_119 ?_
    refine aw_iconst (v := 1) rfl (by decide) ?_
    refine aw_iadd rfl ?_
    refine pp_39_10 rfl kl_X12_119 ?_
    refine aw_eqs (ws' := hp g (pst s (skw tx E p + 1) w (-1)) n) ?_ rfl rfl (congrArg (fun z => hp g z n) pst_in)
    refine aw_iload_n rfl rfl ?_
    refine aw_bipush (v := 115) rfl (by decide) ?_
    refine aw_icmp_ne (tgt := 99) rfl (by decide) (fun h76 => absurd (h1.1) h76) (fun h76 => ?_)
    refine aw_aload_n rfl rfl ?_
    refine aw_iconst (v := 1) rfl (by decide) ?_
    refine pp_39_31 rfl kl_X12_239 (Or.inr rfl) ?_
    refine aw_eqs (ws' := hp g (pst (up s 39 31 1) (skw tx E p + 1) w (-1)) n) ?_ rfl rfl (congrArg (fun z => hp g z n) (pst_39 (by decide) (by decide) (by decide)))
    refine aw_aload_n rfl rfl ?_
    refine aw_iload_n rfl rfl ?_
    refine aw_aload_n rfl rfl ?_
    refine pg_39_19 rfl kl_X12_40 ?_
    refine aw_iconst (v := 0) rfl (by decide) ?_
    refine aw_ldcS rfl (xr_X12_248 hx) ?_
    refine aw_pI (q0 := 39) (ci := 12) rfl cw_X12_250 rfl rfl rfl (show aw_M l g mi_X12_readItems 5 0 0 [.ref (g_ad g 39), .int (cst tx E p), .ref (g_ad g 45), .int (0), .ref (g_ad g (100 + 1))] (hp g (pst (up s 39 31 1) (skw tx E p + 1) w (-1)) n) (PI g (up s 39 31 1) n 45 w (itL tx E 1 (msN 115) (0) (E + 1) (skw tx E p + 1) 0 (usF 115 (0) 3 (s 45)))) from by (rw [h1.1]; exact c_m_readItems_45 (s := (up s 39 31 1)) (row := 0) hx (TX_K hT (eo_upI rfl eo_rf)) hnx (by omega))) rfl rfl (Nat.le_of_ble_eq_true rfl) (by decide) (by decide) (by decide) (by decide) (fun z hz => ?_) (fun e f p2 hz => ?_)
    · rw [hir] at hz
      cases hi : it1 tx E 1 115 p with
      | error e => rw [hi] at hz; cases hz
      | ok y =>
        rw [hi] at hz
        cases hz
        refine aw_goto (tgt := 165) rfl (by decide) ?_
        refine aw_vret rfl rfl ⟨rfl, _, rfl, ?_, eo_upRK (fun _ => rfl) (eo_upI rfl eo_rf)⟩
        exact ⟨rfl, k2, k3, k4, k5, fun i hi => by show wrV (s 45) 0 3 y.2 i = y.2 i; unfold wrV; rw [if_pos (by omega)]; rfl, k7, k8⟩
    · rw [hir] at hz
      cases hi : it1 tx E 1 115 p with
      | ok y => rw [hi] at hz; cases hz
      | error e2 =>
        rw [hi] at hz
        cases hz
        refine aw_goto (tgt := 165) rfl (by decide) ?_
        exact aw_vret rfl rfl ⟨rfl, _, _, rfl, eo_upRK (fun _ => rfl) (eo_upI rfl eo_rf)⟩
  · have hn1 : ¬ cst tx E p = 115 ∨ ¬ K.1 = false := by (by_cases a : cst tx E p = 115; by_cases b : K.1 = false; exact absurd ⟨a, b⟩ h1; exact Or.inr b; exact Or.inl a)
    by_cases h2 : cst tx E p = 116 ∧ K.2.1 < 7
    · have hnx := q_lt h2.1 (by decide)
      have hkc : kCl tx E K p = (it1 tx E 2 116 p).map (fun z => (z.1, (K.1, K.2.1 + 1, K.2.2.1, K.2.2.2.1, (fun t => if t = K.2.1 then z.2 else K.2.2.2.2.1 t), K.2.2.2.2.2))) := by (unfold kCl; rw [if_neg h1, if_pos h2])
      have hir : itL tx E 2 (msN 116) (5 * K.2.1) (E + 1) (skw tx E p + 1) 0 (usF 116 (5 * K.2.1) 5 (s 47)) = (it1 tx E 2 116 p).map (fun z => (z.1, wrV (s 47) (5 * K.2.1) 5 z.2)) := by (rw [usF_wr]; exact itL_row rfl _ _ _ _)
      rw [hkc]
      refine aw_aload_n rfl rfl ?_
      refine aw_iV (q0 := 39) (ci := 12) rfl cw_X12_138 rfl rfl rfl (c_m_lookC hT hpE) rfl rfl (Nat.le_of_ble_eq_true rfl) (by decide) (by decide) (by decide) (by decide) ?_
      refine aw_istore_n rfl (by decide) ?_
      refine aw_iload_n rfl rfl ?_
      refine aw_bipush (v := 115) rfl (by decide) ?_
      refine aw_icmp_ne (tgt := 18) rfl (by decide) (fun h8 => ?_) (fun h8 => absurd h8 (by rw [h2.1]; decide))
      refine aw_iload_n rfl rfl ?_
      refine aw_bipush (v := 116) rfl (by decide) ?_
      refine aw_icmp_ne (tgt := 33) rfl (by decide) (fun h21 => absurd (h2.1) h21) (fun h21 => ?_)
      refine aw_aload_n rfl rfl ?_
      refine pg_39_28 rfl kl_X12_242 ?_
      refine aw_bipush (v := 7) rfl (by decide) ?_
      refine aw_icmp_lt (tgt := 47) rfl (by decide) (fun h30 => ?_) (fun h30 => absurd (by show s 39 28 < 7; rw [k2]; exact nI_lt (b := 7) h2.2 (by decide)) h30)
      refine aw_iconst (v := 1) rfl (by decide) ?_
      refine aw_goto (tgt := 52) rfl (by decide) ?_
      refine aw_istore_n rfl (by decide) ?_
      refine aw_iload_n rfl rfl ?_
      refine aw_if_ne (tgt := 63) rfl (by decide) (fun h54 => ?_) (fun h54 => absurd h54 (by decide))
      refine aw_aload_n rfl rfl ?_
      refine aw_dup rfl rfl ?_
      refine pg_39_10 rfl kl_X12_119 ?_
      refine aw_iconst (v := 1) rfl (by decide) ?_
      refine aw_iadd rfl ?_
      refine pp_39_10 rfl kl_X12_119 ?_
      refine aw_eqs (ws' := hp g (pst s (skw tx E p + 1) w (-1)) n) ?_ rfl rfl (congrArg (fun z => hp g z n) pst_in)
      refine aw_iload_n rfl rfl ?_
      refine aw_bipush (v := 115) rfl (by decide) ?_
      refine aw_icmp_ne (tgt := 99) rfl (by decide) (fun h76 => ?_) (fun h76 => absurd h76 (by rw [h2.1]; decide))
      refine aw_iload_n rfl rfl ?_
      refine aw_bipush (v := 116) rfl (by decide) ?_
      refine aw_icmp_ne (tgt := 137) rfl (by decide) (fun h102 => absurd (h2.1) h102) (fun h102 => ?_)
      refine aw_aload_n rfl rfl ?_
      refine aw_dup rfl rfl ?_
      refine pg_39_28 rfl kl_X12_242 ?_
      refine aw_iconst (v := 1) rfl (by decide) ?_
      refine aw_iadd rfl ?_
      refine pp_39_28 rfl kl_X12_242 ?_
      refine aw_eqs (ws' := hp g (pst (up s 39 28 (nI (K.2.1 + 1))) (skw tx E p + 1) w (-1)) n) ?_ rfl rfl (congrArg (fun z => hp g z n) (show up (pst s (skw tx E p + 1) w (-1)) 39 28 (s 39 28 + 1) = _ from by (rw [k2, nI_1]; exact pst_39 (by decide) (by decide) (by decide))))
      refine aw_aload_n rfl rfl ?_
      refine aw_iload_n rfl rfl ?_
      refine aw_aload_n rfl rfl ?_
      refine pg_39_21 rfl kl_X12_46 ?_
      refine aw_iconst (v := 5) rfl (by decide) ?_
      refine aw_aload_n rfl rfl ?_
      refine pg_39_28 rfl kl_X12_242 ?_
      refine aw_iconst (v := 1) rfl (by decide) ?_
      refine aw_isub rfl ?_
      refine aw_imul rfl ?_
      refine aw_ldcS rfl (xr_X12_254 hx) ?_
      refine aw_pI (q0 := 39) (ci := 12) rfl cw_X12_250 rfl rfl rfl (show aw_M l g mi_X12_readItems 5 0 0 [.ref (g_ad g 39), .int (cst tx E p), .ref (g_ad g 47), .int (5 * (nI (K.2.1 + 1) - 1)), .ref (g_ad g (100 + 2))] (hp g (pst (up s 39 28 (nI (K.2.1 + 1))) (skw tx E p + 1) w (-1)) n) (PI g (up s 39 28 (nI (K.2.1 + 1))) n 47 w (itL tx E 2 (msN 116) (5 * K.2.1) (E + 1) (skw tx E p + 1) 0 (usF 116 (5 * K.2.1) 5 (s 47)))) from by (rw [h2.1, nI_m1 (by omega), Nat.add_sub_cancel, show (5 : Int32) * nI K.2.1 = nI (5 * K.2.1) from pk_mul 5 K.2.1]; exact c_m_readItems_47 (s := (up s 39 28 (nI (K.2.1 + 1)))) (row := 5 * K.2.1) hx (TX_K hT (eo_upI rfl eo_rf)) hnx (by omega))) rfl rfl (Nat.le_of_ble_eq_true rfl) (by decide) (by decide) (by decide) (by decide) (fun z hz => ?_) (fun e f p2 hz => ?_)
      · rw [hir] at hz
        cases hi : it1 tx E 2 116 p with
        | error e => rw [hi] at hz; cases hz
        | ok y =>
          rw [hi] at hz
          cases hz
          refine aw_goto (tgt := 165) rfl (by decide) ?_
          refine aw_vret rfl rfl ⟨rfl, _, rfl, ?_, eo_upRK (fun _ => rfl) (eo_upI rfl eo_rf)⟩
          refine ⟨k1, rfl, k3, by show K.2.1 + 1 ≤ 7; omega, k5, k6, fun t ht i hi => ?_, k8⟩
          have ht2 : t < K.2.1 + 1 := ht
          show wrV (s 47) (5 * K.2.1) 5 y.2 (5 * t + i) = (if t = K.2.1 then y.2 else K.2.2.2.2.1 t) i
          unfold wrV
          by_cases e : t = K.2.1
          · rw [if_pos e, if_pos (by omega), e, Nat.add_sub_cancel_left]
          · rw [if_neg e, if_neg (by omega)]
            exact k7 t (by omega) i hi
      · rw [hir] at hz
        cases hi : it1 tx E 2 116 p with
        | ok y => rw [hi] at hz; cases hz
        | error e2 =>
          rw [hi] at hz
          cases hz
          refine aw_goto (tgt := 165) rfl (by decide) ?_
          exact aw_vret rfl rfl ⟨rfl, _, _, rfl, eo_upRK (fun _ => rfl) (eo_upI rfl eo_rf)⟩
    · have hn2 : ¬ cst tx E p = 116 ∨ ¬ K.2.1 < 7 := by (by_cases a : cst tx E p = 116; by_cases b : K.2.1 < 7; exact absurd ⟨a, b⟩ h2; exact Or.inr b; exact Or.inl a)
      by_cases h3 : cst tx E p = 114 ∧ K.2.2.1 < 5
      · have hnx := q_lt h3.1 (by decide)
        have hkc : kCl tx E K p = (it1 tx E 3 114 p).map (fun z => (z.1, (K.1, K.2.1, K.2.2.1 + 1, K.2.2.2.1, K.2.2.2.2.1, upd K.2.2.2.2.2 K.2.2.1 (z.2 0)))) := by (unfold kCl; rw [if_neg h1, if_neg h2, if_pos h3])
        have hir : itL tx E 3 (msN 114) (K.2.2.1) (E + 1) (skw tx E p + 1) 0 (usF 114 (K.2.2.1) 1 (s 49)) = (it1 tx E 3 114 p).map (fun z => (z.1, wrV (s 49) (K.2.2.1) 1 z.2)) := by (rw [usF_wr]; exact itL_row rfl _ _ _ _)
        rw [hkc]
        refine aw_aload_n rfl rfl ?_
        refine aw_iV (q0 := 39) (ci := 12) rfl cw_X12_138 rfl rfl rfl (c_m_lookC hT hpE) rfl rfl (Nat.le_of_ble_eq_true rfl) (by decide) (by decide) (by decide) (by decide) ?_
        refine aw_istore_n rfl (by decide) ?_
        refine aw_iload_n rfl rfl ?_
        refine aw_bipush (v := 115) rfl (by decide) ?_
        refine aw_icmp_ne (tgt := 18) rfl (by decide) (fun h8 => ?_) (fun h8 => absurd h8 (by rw [h3.1]; decide))
        refine aw_iload_n rfl rfl ?_
        refine aw_bipush (v := 116) rfl (by decide) ?_
        refine aw_icmp_ne (tgt := 33) rfl (by decide) (fun h21 => ?_) (fun h21 => absurd h21 (by rw [h3.1]; decide))
        refine aw_iload_n rfl rfl ?_
        refine aw_bipush (v := 114) rfl (by decide) ?_
        refine aw_icmp_ne (tgt := 51) rfl (by decide) (fun h36 => absurd (h3.1) h36) (fun h36 => ?_)
        refine aw_aload_n rfl rfl ?_
        refine pg_39_29 rfl kl_X12_245 ?_
        refine aw_iconst (v := 5) rfl (by decide) ?_
        refine aw_icmp_ge (tgt := 51) rfl (by decide) (fun h44 => absurd h44 (by show ¬ 5 ≤ s 39 29; rw [k3]; exact Int32.not_le.mpr (nI_lt (b := 5) h3.2 (by decide)))) (fun h44 => ?_)
        refine aw_iconst (v := 1) rfl (by decide) ?_
        refine aw_goto (tgt := 52) rfl (by decide) ?_
        refine aw_istore_n rfl (by decide) ?_
        refine aw_iload_n rfl rfl ?_
        refine aw_if_ne (tgt := 63) rfl (by decide) (fun h54 => ?_) (fun h54 => absurd h54 (by decide))
        refine aw_aload_n rfl rfl ?_
        refine aw_dup rfl rfl ?_
        refine pg_39_10 rfl kl_X12_119 ?_
        refine aw_iconst (v := 1) rfl (by decide) ?_
        refine aw_iadd rfl ?_
        refine pp_39_10 rfl kl_X12_119 ?_
        refine aw_eqs (ws' := hp g (pst s (skw tx E p + 1) w (-1)) n) ?_ rfl rfl (congrArg (fun z => hp g z n) pst_in)
        refine aw_iload_n rfl rfl ?_
        refine aw_bipush (v := 115) rfl (by decide) ?_
        refine aw_icmp_ne (tgt := 99) rfl (by decide) (fun h76 => ?_) (fun h76 => absurd h76 (by rw [h3.1]; decide))
        refine aw_iload_n rfl rfl ?_
        refine aw_bipush (v := 116) rfl (by decide) ?_
        refine aw_icmp_ne (tgt := 137) rfl (by decide) (fun h102 => ?_) (fun h102 => absurd h102 (by rw [h3.1]; decide))
        refine aw_aload_n rfl rfl ?_
        refine aw_dup rfl rfl ?_
        refine pg_39_29 rfl kl_X12_245 ?_
        refine aw_iconst (v := 1) rfl (by decide) ?_
        refine aw_iadd rfl ?_
        refine pp_39_29 rfl kl_X12_245 ?_
        refine aw_eqs (ws' := hp g (pst (up s 39 29 (nI (K.2.2.1 + 1))) (skw tx E p + 1) w (-1)) n) ?_ rfl rfl (congrArg (fun z => hp g z n) (show up (pst s (skw tx E p + 1) w (-1)) 39 29 (s 39 29 + 1) = _ from by (rw [k3, nI_1]; exact pst_39 (by decide) (by decide) (by decide))))
        refine aw_aload_n rfl rfl ?_
        refine aw_iload_n rfl rfl ?_
        refine aw_aload_n rfl rfl ?_
        refine pg_39_23 rfl kl_X12_52 ?_
        refine aw_aload_n rfl rfl ?_
        refine pg_39_29 rfl kl_X12_245 ?_
        refine aw_iconst (v := 1) rfl (by decide) ?_
        refine aw_isub rfl ?_
        refine aw_ldcwS rfl (xr_X12_256 hx) ?_
        refine aw_pI (q0 := 39) (ci := 12) rfl cw_X12_250 rfl rfl rfl (show aw_M l g mi_X12_readItems 5 0 0 [.ref (g_ad g 39), .int (cst tx E p), .ref (g_ad g 49), .int (nI (K.2.2.1 + 1) - 1), .ref (g_ad g (100 + 3))] (hp g (pst (up s 39 29 (nI (K.2.2.1 + 1))) (skw tx E p + 1) w (-1)) n) (PI g (up s 39 29 (nI (K.2.2.1 + 1))) n 49 w (itL tx E 3 (msN 114) (K.2.2.1) (E + 1) (skw tx E p + 1) 0 (usF 114 (K.2.2.1) 1 (s 49)))) from by (rw [h3.1, nI_m1 (by omega), Nat.add_sub_cancel]; exact c_m_readItems_49 (s := (up s 39 29 (nI (K.2.2.1 + 1)))) (row := K.2.2.1) hx (TX_K hT (eo_upI rfl eo_rf)) hnx (by omega))) rfl rfl (Nat.le_of_ble_eq_true rfl) (by decide) (by decide) (by decide) (by decide) (fun z hz => ?_) (fun e f p2 hz => ?_)
        · rw [hir] at hz
          cases hi : it1 tx E 3 114 p with
          | error e => rw [hi] at hz; cases hz
          | ok y =>
            rw [hi] at hz
            cases hz
            refine aw_vret rfl rfl ⟨rfl, _, rfl, ?_, eo_upRK (fun _ => rfl) (eo_upI rfl eo_rf)⟩
            refine ⟨k1, k2, rfl, k4, by show K.2.2.1 + 1 ≤ 5; omega, k6, k7, fun t ht => ?_⟩
            have ht2 : t < K.2.2.1 + 1 := ht
            show wrV (s 49) K.2.2.1 1 y.2 t = upd K.2.2.2.2.2 K.2.2.1 (y.2 0) t
            unfold wrV
            by_cases e : t = K.2.2.1
            · rw [if_pos (by omega), e, upd_s, Nat.sub_self]
            · rw [if_neg (by omega), upd_n e]
              exact k8 t (by omega)
        · rw [hir] at hz
          cases hi : it1 tx E 3 114 p with
          | ok y => rw [hi] at hz; cases hz
          | error e2 =>
            rw [hi] at hz
            cases hz
            exact aw_vret rfl rfl ⟨rfl, _, _, rfl, eo_upRK (fun _ => rfl) (eo_upI rfl eo_rf)⟩
      · rw [show kCl tx E K p = .error (skw tx E p) from by (unfold kCl; rw [if_neg h1, if_neg h2, if_neg h3])]
        have hm : ∀ L, aw_W l g mi_X12_readClause (aw_rm 6 0 0) (aw_Z g (PR g s n w (.error (skw tx E p))) 0 0) 0 0 (hp g (pst s (skw tx E p) w (-1)) n) 57 (some (.ref (g_ad g 39)) :: L) [] := by
          intro L
          refine aw_aload_n rfl rfl ?_
          refine aw_iV (q0 := 39) (ci := 12) rfl cw_X12_134 rfl rfl rfl (c_m_fails) rfl rfl (Nat.le_of_ble_eq_true rfl) (by decide) (by decide) (by decide) (by decide) ?_
          refine aw_pop rfl rfl ?_
          exact aw_vret rfl rfl ⟨rfl, _, _, rfl, eo_rf⟩
        skip
        refine aw_aload_n rfl rfl ?_
        refine aw_iV (q0 := 39) (ci := 12) rfl cw_X12_138 rfl rfl rfl (c_m_lookC hT hpE) rfl rfl (Nat.le_of_ble_eq_true rfl) (by decide) (by decide) (by decide) (by decide) ?_
        refine aw_istore_n rfl (by decide) ?_
        refine aw_iload_n rfl rfl ?_
        refine aw_bipush (v := 115) rfl (by decide) ?_
        refine aw_icmp_ne (tgt := 18) rfl (by decide) (fun h8 => ?_) (fun h8 => ?_)
        · refine aw_iload_n rfl rfl ?_
          refine aw_bipush (v := 116) rfl (by decide) ?_
          refine aw_icmp_ne (tgt := 33) rfl (by decide) (fun h21 => ?_) (fun h21 => ?_)
          · refine aw_iload_n rfl rfl ?_
            refine aw_bipush (v := 114) rfl (by decide) ?_
            refine aw_icmp_ne (tgt := 51) rfl (by decide) (fun h36 => ?_) (fun h36 => ?_)
            · refine aw_iconst (v := 0) rfl (by decide) ?_
              refine aw_istore_n rfl (by decide) ?_
              refine aw_iload_n rfl rfl ?_
              refine aw_if_ne (tgt := 63) rfl (by decide) (fun h54 => absurd h54 (by decide)) (fun h54 => ?_)
              first
              | exact hm _
              | (exfalso; first | exact absurd rfl h54 | exact h54 (by decide) | exact absurd h54 (by decide))
            · refine aw_aload_n rfl rfl ?_
              refine pg_39_29 rfl kl_X12_245 ?_
              refine aw_iconst (v := 5) rfl (by decide) ?_
              refine aw_icmp_ge (tgt := 51) rfl (by decide) (fun h44 => ?_) (fun h44 => ?_)
              · refine aw_iconst (v := 0) rfl (by decide) ?_
                refine aw_istore_n rfl (by decide) ?_
                refine aw_iload_n rfl rfl ?_
                refine aw_if_ne (tgt := 63) rfl (by decide) (fun h54 => absurd h54 (by decide)) (fun h54 => ?_)
                first
                | exact hm _
                | (exfalso; first | exact absurd rfl h54 | exact h54 (by decide) | exact absurd h54 (by decide))
              · exfalso
                first
                  | (have z : s 39 31 = 0 := h15
                     exact h1 ⟨h8, by (cases hb : K.1; rfl; rw [k1, hb] at z; exact absurd z (by decide))⟩)
                  | (have z : s 39 28 < 7 := h30
                     exact h2 ⟨h21, by (rw [k2] at z; exact (nI_ltI (b := 7) (by omega) (by decide)).mp z)⟩)
                  | (have z : ¬ 5 ≤ s 39 29 := h44
                     exact h3 ⟨h36, by (rw [k3] at z; exact (nI_ltI (b := 5) (by omega) (by decide)).mp (Int32.not_le.mp z))⟩)
          · refine aw_aload_n rfl rfl ?_
            refine pg_39_28 rfl kl_X12_242 ?_
            refine aw_bipush (v := 7) rfl (by decide) ?_
            refine aw_icmp_lt (tgt := 47) rfl (by decide) (fun h30 => ?_) (fun h30 => ?_)
            · exfalso
              first
                | (have z : s 39 31 = 0 := h15
                   exact h1 ⟨h8, by (cases hb : K.1; rfl; rw [k1, hb] at z; exact absurd z (by decide))⟩)
                | (have z : s 39 28 < 7 := h30
                   exact h2 ⟨h21, by (rw [k2] at z; exact (nI_ltI (b := 7) (by omega) (by decide)).mp z)⟩)
                | (have z : ¬ 5 ≤ s 39 29 := h44
                   exact h3 ⟨h36, by (rw [k3] at z; exact (nI_ltI (b := 5) (by omega) (by decide)).mp (Int32.not_le.mp z))⟩)
            · refine aw_iload_n rfl rfl ?_
              refine aw_bipush (v := 114) rfl (by decide) ?_
              refine aw_icmp_ne (tgt := 51) rfl (by decide) (fun h36 => ?_) (fun h36 => ?_)
              · refine aw_iconst (v := 0) rfl (by decide) ?_
                refine aw_istore_n rfl (by decide) ?_
                refine aw_iload_n rfl rfl ?_
                refine aw_if_ne (tgt := 63) rfl (by decide) (fun h54 => absurd h54 (by decide)) (fun h54 => ?_)
                first
                | exact hm _
                | (exfalso; first | exact absurd rfl h54 | exact h54 (by decide) | exact absurd h54 (by decide))
              · refine aw_aload_n rfl rfl ?_
                refine pg_39_29 rfl kl_X12_245 ?_
                refine aw_iconst (v := 5) rfl (by decide) ?_
                refine aw_icmp_ge (tgt := 51) rfl (by decide) (fun h44 => ?_) (fun h44 => ?_)
                · refine aw_iconst (v := 0) rfl (by decide) ?_
                  refine aw_istore_n rfl (by decide) ?_
                  refine aw_iload_n rfl rfl ?_
                  refine aw_if_ne (tgt := 63) rfl (by decide) (fun h54 => absurd h54 (by decide)) (fun h54 => ?_)
                  first
                  | exact hm _
                  | (exfalso; first | exact absurd rfl h54 | exact h54 (by decide) | exact absurd h54 (by decide))
                · exfalso
                  first
                    | (have z : s 39 31 = 0 := h15
                       exact h1 ⟨h8, by (cases hb : K.1; rfl; rw [k1, hb] at z; exact absurd z (by decide))⟩)
                    | (have z : s 39 28 < 7 := h30
                       exact h2 ⟨h21, by (rw [k2] at z; exact (nI_ltI (b := 7) (by omega) (by decide)).mp z)⟩)
                    | (have z : ¬ 5 ≤ s 39 29 := h44
                       exact h3 ⟨h36, by (rw [k3] at z; exact (nI_ltI (b := 5) (by omega) (by decide)).mp (Int32.not_le.mp z))⟩)
        · refine aw_aload_n rfl rfl ?_
          refine pg_39_31 rfl kl_X12_239 ?_
          refine aw_if_eq (tgt := 47) rfl (by decide) (fun h15 => ?_) (fun h15 => ?_)
          · exfalso
            first
              | (have z : s 39 31 = 0 := h15
                 exact h1 ⟨h8, by (cases hb : K.1; rfl; rw [k1, hb] at z; exact absurd z (by decide))⟩)
              | (have z : s 39 28 < 7 := h30
                 exact h2 ⟨h21, by (rw [k2] at z; exact (nI_ltI (b := 7) (by omega) (by decide)).mp z)⟩)
              | (have z : ¬ 5 ≤ s 39 29 := h44
                 exact h3 ⟨h36, by (rw [k3] at z; exact (nI_ltI (b := 5) (by omega) (by decide)).mp (Int32.not_le.mp z))⟩)
          · refine aw_iload_n rfl rfl ?_
            refine aw_bipush (v := 116) rfl (by decide) ?_
            refine aw_icmp_ne (tgt := 33) rfl (by decide) (fun h21 => ?_) (fun h21 => ?_)
            · refine aw_iload_n rfl rfl ?_
              refine aw_bipush (v := 114) rfl (by decide) ?_
              refine aw_icmp_ne (tgt := 51) rfl (by decide) (fun h36 => ?_) (fun h36 => ?_)
              · refine aw_iconst (v := 0) rfl (by decide) ?_
                refine aw_istore_n rfl (by decide) ?_
                refine aw_iload_n rfl rfl ?_
                refine aw_if_ne (tgt := 63) rfl (by decide) (fun h54 => absurd h54 (by decide)) (fun h54 => ?_)
                first
                | exact hm _
                | (exfalso; first | exact absurd rfl h54 | exact h54 (by decide) | exact absurd h54 (by decide))
              · refine aw_aload_n rfl rfl ?_
                refine pg_39_29 rfl kl_X12_245 ?_
                refine aw_iconst (v := 5) rfl (by decide) ?_
                refine aw_icmp_ge (tgt := 51) rfl (by decide) (fun h44 => ?_) (fun h44 => ?_)
                · refine aw_iconst (v := 0) rfl (by decide) ?_
                  refine aw_istore_n rfl (by decide) ?_
                  refine aw_iload_n rfl rfl ?_
                  refine aw_if_ne (tgt := 63) rfl (by decide) (fun h54 => absurd h54 (by decide)) (fun h54 => ?_)
                  first
                  | exact hm _
                  | (exfalso; first | exact absurd rfl h54 | exact h54 (by decide) | exact absurd h54 (by decide))
                · exfalso
                  first
                    | (have z : s 39 31 = 0 := h15
                       exact h1 ⟨h8, by (cases hb : K.1; rfl; rw [k1, hb] at z; exact absurd z (by decide))⟩)
                    | (have z : s 39 28 < 7 := h30
                       exact h2 ⟨h21, by (rw [k2] at z; exact (nI_ltI (b := 7) (by omega) (by decide)).mp z)⟩)
                    | (have z : ¬ 5 ≤ s 39 29 := h44
                       exact h3 ⟨h36, by (rw [k3] at z; exact (nI_ltI (b := 5) (by omega) (by decide)).mp (Int32.not_le.mp z))⟩)
            · refine aw_aload_n rfl rfl ?_
              refine pg_39_28 rfl kl_X12_242 ?_
              refine aw_bipush (v := 7) rfl (by decide) ?_
              refine aw_icmp_lt (tgt := 47) rfl (by decide) (fun h30 => ?_) (fun h30 => ?_)
              · exfalso
                first
                  | (have z : s 39 31 = 0 := h15
                     exact h1 ⟨h8, by (cases hb : K.1; rfl; rw [k1, hb] at z; exact absurd z (by decide))⟩)
                  | (have z : s 39 28 < 7 := h30
                     exact h2 ⟨h21, by (rw [k2] at z; exact (nI_ltI (b := 7) (by omega) (by decide)).mp z)⟩)
                  | (have z : ¬ 5 ≤ s 39 29 := h44
                     exact h3 ⟨h36, by (rw [k3] at z; exact (nI_ltI (b := 5) (by omega) (by decide)).mp (Int32.not_le.mp z))⟩)
              · refine aw_iload_n rfl rfl ?_
                refine aw_bipush (v := 114) rfl (by decide) ?_
                refine aw_icmp_ne (tgt := 51) rfl (by decide) (fun h36 => ?_) (fun h36 => ?_)
                · refine aw_iconst (v := 0) rfl (by decide) ?_
                  refine aw_istore_n rfl (by decide) ?_
                  refine aw_iload_n rfl rfl ?_
                  refine aw_if_ne (tgt := 63) rfl (by decide) (fun h54 => absurd h54 (by decide)) (fun h54 => ?_)
                  first
                  | exact hm _
                  | (exfalso; first | exact absurd rfl h54 | exact h54 (by decide) | exact absurd h54 (by decide))
                · refine aw_aload_n rfl rfl ?_
                  refine pg_39_29 rfl kl_X12_245 ?_
                  refine aw_iconst (v := 5) rfl (by decide) ?_
                  refine aw_icmp_ge (tgt := 51) rfl (by decide) (fun h44 => ?_) (fun h44 => ?_)
                  · refine aw_iconst (v := 0) rfl (by decide) ?_
                    refine aw_istore_n rfl (by decide) ?_
                    refine aw_iload_n rfl rfl ?_
                    refine aw_if_ne (tgt := 63) rfl (by decide) (fun h54 => absurd h54 (by decide)) (fun h54 => ?_)
                    first
                    | exact hm _
                    | (exfalso; first | exact absurd rfl h54 | exact h54 (by decide) | exact absurd h54 (by decide))
                  · exfalso
                    first
                      | (have z : s 39 31 = 0 := h15
                         exact h1 ⟨h8, by (cases hb : K.1; rfl; rw [k1, hb] at z; exact absurd z (by decide))⟩)
                      | (have z : s 39 28 < 7 := h30
                         exact h2 ⟨h21, by (rw [k2] at z; exact (nI_ltI (b := 7) (by omega) (by decide)).mp z)⟩)
                      | (have z : ¬ 5 ≤ s 39 29 := h44
                         exact h3 ⟨h36, by (rw [k3] at z; exact (nI_ltI (b := 5) (by omega) (by decide)).mp (Int32.not_le.mp z))⟩)
