/-! the reference: a reign -/
def st3 (f : Nat → Int32) (r : Nat) (a b c : Int32) : Nat → Int32 := upd (upd (upd f r a) (r + 1) b) (r + 2) c
theorem st3_1 {f : Nat → Int32} {r : Nat} {a b c x : Int32} : upd (st3 f r a b c) (r + 1) x = st3 f r a x c := by
  unfold st3
  funext j
  by_cases e2 : j = r + 2
  · rw [upd_n (by omega), e2, upd_s, upd_s]
  · by_cases e1 : j = r + 1
    · rw [e1, upd_s, upd_n (by omega), upd_s]
    · rw [upd_n e1, upd_n e2, upd_n e1, upd_n e2, upd_n e1]
theorem st3_2 {f : Nat → Int32} {r : Nat} {a b c x : Int32} : upd (st3 f r a b c) (r + 2) x = st3 f r a b x := by
  unfold st3
  funext j
  by_cases e2 : j = r + 2
  · rw [e2, upd_s, upd_s]
  · rw [upd_n e2, upd_n e2, upd_n e2]
theorem st3_o {f : Nat → Int32} {r j : Nat} {a b c : Int32} (h : j < r ∨ r + 2 < j) : st3 f r a b c j = f j := by
  unfold st3
  rw [upd_n (by omega), upd_n (by omega), upd_n (by omega)]
def stR' (tx : Nat → Nat) (E p : Nat) : Except Nat (Nat × Int32 × Int32 × Int32) := match xsp 7 (cst tx E p) with
  | none => .error (skw tx E p)
  | some i => if i = 0 then .ok (skw tx E p + 1, 0, -1, -1) else match dg1 tx E (skw tx E p + 1) with
    | .error f => .error f
    | .ok z => if i < 3 then (match dg1 tx E z.1 with
      | .error f => .error f
      | .ok y => .ok (y.1, nI i, nI z.2, nI y.2)) else .ok (z.1, nI i, nI z.2, -1)
theorem dg1_b {tx : Nat → Nat} {E p : Nat} (hp : p ≤ E) : match dg1 tx E p with
    | .ok z => p < z.1 ∧ z.1 ≤ E ∧ z.2 ≤ 9
    | .error f => p ≤ f ∧ f ≤ E := by
  have hk := skw_b (tx := tx) hp
  unfold dg1
  by_cases h1 : dg tx E (skw tx E p) = true
  · have := dg_c h1
    rw [if_pos h1]
    exact ⟨by show p < skw tx E p + 1; omega, by show skw tx E p + 1 ≤ E; omega, by show tx (skw tx E p) - 48 ≤ 9; omega⟩
  · rw [if_neg h1]; exact ⟨hk.1, hk.2.1⟩
theorem stR_b {tx : Nat → Nat} {E p : Nat} (hp : p ≤ E) : match stR' tx E p with
    | .ok z => p < z.1 ∧ z.1 ≤ E
    | .error f => f ≤ E := by
  have hk := skw_b (tx := tx) hp
  unfold stR'
  cases hi : xsp 7 (cst tx E p) with
  | none => exact hk.2.1
  | some i =>
    have hnx : skw tx E p + 1 ≤ E := by
      have := cst_lt (tx := tx) (E := E) (p := p) (by intro e; rw [e, xsp_m1 7 (by decide)] at hi; cases hi)
      omega
    simp only
    by_cases h0 : i = 0
    · rw [if_pos h0]; exact ⟨by show p < skw tx E p + 1; omega, hnx⟩
    · rw [if_neg h0]
      have hb := dg1_b (tx := tx) hnx
      cases hd : dg1 tx E (skw tx E p + 1) with
      | error f => rw [hd] at hb; exact hb.2
      | ok z =>
        rw [hd] at hb
        have a1 : skw tx E p + 1 < z.1 := hb.1
        have a2 : z.1 ≤ E := hb.2.1
        simp only
        by_cases h3 : i < 3
        · rw [if_pos h3]
          have hb2 := dg1_b (tx := tx) a2
          cases hd2 : dg1 tx E z.1 with
          | error f => rw [hd2] at hb2; exact hb2.2
          | ok y => rw [hd2] at hb2; exact ⟨by have : z.1 < y.1 := hb2.1; show p < y.1; omega, hb2.2.1⟩
        · rw [if_neg h3]; exact ⟨by show p < z.1; omega, a2⟩
def PS3 (g : ag_G) (s : am_S) (n : am_N) (w row : Nat) (f : Nat → Int32) : Except Nat (Nat × Int32 × Int32 × Int32) → Option Value → va_W → Prop
  | .ok z => fun o y => o = none ∧ y = hp g (pst (upR s 50 (st3 f row z.2.1 z.2.2.1 z.2.2.2)) z.1 w (-1)) n
  | .error e => fun o y => o = none ∧ ∃ f' p, y = hp g (pst (upR s 50 f') p w (nI e)) n ∧ ∀ j, j < row → f' j = f j
set_option maxRecDepth 4000 in
theorem c_m_readStep {l : Launch} {g : ag_G} {s : am_S} {n : am_N} {B b E p w row : Nat} {tx : Nat → Nat} (hx : aw_hx g) (hT : TX s n B b E tx) (hpE : p ≤ E) (hrow : row + 3 ≤ 240) (f : Nat → Int32) : aw_M l g mi_X12_readStep 5 0 0 [.ref (g_ad g 39), .int (nI row)] (hp g (pst (upR s 50 f) p w (-1)) n) (PS3 g s n w row f (stR' tx E p)) := by
  have hE := hT.2.2.2.1
  have hk := skw_b (tx := tx) hpE
  have hTR : ∀ f, TX (upR s 50 f) n B b E tx := fun f => TX_R hT rfl rfl rfl
  refine aw_M_of mo_X12_readStep (by decide) (Nat.le_of_ble_eq_true rfl) ?_
  unfold stR'
  cases hi : xsp 7 (cst tx E p) with
  | none =>
    refine aw_ldcwS rfl (xr_X12_264 hx) ?_
    refine aw_aload_n rfl rfl ?_
    refine aw_iV (q0 := 39) (ci := 12) rfl cw_X12_138 rfl rfl rfl (c_m_lookC (hTR f) hpE) rfl rfl (Nat.le_of_ble_eq_true rfl) (by decide) (by decide) (by decide) (by decide) ?_
    refine aw_iS rfl cw_X12_225 (c_m_spotOf (i := 7) hx (by decide)) rfl rfl (Nat.le_of_ble_eq_true rfl) (by decide) (by decide) (by decide) (by decide) ?_
    refine aw_istore_n rfl (by decide) ?_
    refine aw_iload_n rfl rfl ?_
    refine aw_iconst (v := -1) rfl (by decide) ?_
    refine aw_icmp_ne (tgt := 22) rfl (by decide) (fun h13 => absurd (by rw [hi]; rfl) h13) (fun h13 => ?_)
    refine aw_aload_n rfl rfl ?_
    refine aw_iV (q0 := 39) (ci := 12) rfl cw_X12_134 rfl rfl rfl (c_m_fails) rfl rfl (Nat.le_of_ble_eq_true rfl) (by decide) (by decide) (by decide) (by decide) ?_
    refine aw_pop rfl rfl ?_
    exact aw_vret rfl rfl ⟨rfl, _, _, rfl, fun _ _ => rfl⟩
  | some i =>
    have hi4 : i < 4 := xsp_lt hi
    have hnx : skw tx E p + 1 ≤ E := by
      have := cst_lt (tx := tx) (E := E) (p := p) (by intro e; rw [e, xsp_m1 7 (by decide)] at hi; cases hi)
      omega
    simp only
    by_cases h0 : i = 0
    · rw [if_pos h0]
      have hs3 : st3 f row (nI i) (-1) (-1) = st3 f row 0 (-1) (-1) := by rw [h0]; rfl
      refine aw_ldcwS rfl (xr_X12_264 hx) ?_
      refine aw_aload_n rfl rfl ?_
      refine aw_iV (q0 := 39) (ci := 12) rfl cw_X12_138 rfl rfl rfl (c_m_lookC (hTR f) hpE) rfl rfl (Nat.le_of_ble_eq_true rfl) (by decide) (by decide) (by decide) (by decide) ?_
      refine aw_iS rfl cw_X12_225 (c_m_spotOf (i := 7) hx (by decide)) rfl rfl (Nat.le_of_ble_eq_true rfl) (by decide) (by decide) (by decide) (by decide) ?_
      rw [hi]
      refine aw_istore_n rfl (by decide) ?_
      refine aw_iload_n rfl rfl ?_
      refine aw_iconst (v := -1) rfl (by decide) ?_
      refine aw_icmp_ne (tgt := 22) rfl (by decide) (fun h13 => ?_) (fun h13 => absurd h13 (fun e => absurd e (nI_nm1 (by omega))))
      refine aw_aload_n rfl rfl ?_
      refine aw_dup rfl rfl ?_
      refine pg_39_10 rfl kl_X12_119 ?_
      refine aw_iconst (v := 1) rfl (by decide) ?_
      refine aw_iadd rfl ?_
      refine pp_39_10 rfl kl_X12_119 ?_
      refine aw_eqs (ws' := hp g (pst (upR s 50 f) (skw tx E p + 1) w (-1)) n) ?_ rfl rfl (congrArg (fun z => hp g z n) pst_in)
      refine aw_aload_n rfl rfl ?_
      refine pg_39_24 rfl kl_X12_55 ?_
      refine aw_iload_n rfl rfl ?_
      refine aw_iload_n rfl rfl ?_
      refine ps_50 rfl rfl (by omega) ?_
      refine aw_eqs (ws' := hp g (pst (upR s 50 (upd f row (nI i))) (skw tx E p + 1) w (-1)) n) ?_ rfl rfl (congrArg (fun z => hp g z n) (pst_C rfl rfl))
      refine aw_aload_n rfl rfl ?_
      refine pg_39_24 rfl kl_X12_55 ?_
      refine aw_iload_n rfl rfl ?_
      refine aw_iconst (v := 1) rfl (by decide) ?_
      refine aw_iadd rfl ?_
      refine aw_iconst (v := -1) rfl (by decide) ?_
      refine ps_50 rfl (nI_add row 1) (by omega) ?_
      refine aw_eqs (ws' := hp g (pst (upR s 50 (upd (upd f row (nI i)) (row + 1) (-1))) (skw tx E p + 1) w (-1)) n) ?_ rfl rfl (congrArg (fun z => hp g z n) (pst_C rfl rfl))
      refine aw_aload_n rfl rfl ?_
      refine pg_39_24 rfl kl_X12_55 ?_
      refine aw_iload_n rfl rfl ?_
      refine aw_iconst (v := 2) rfl (by decide) ?_
      refine aw_iadd rfl ?_
      refine aw_iconst (v := -1) rfl (by decide) ?_
      refine ps_50 rfl (nI_add row 2) (by omega) ?_
      refine aw_eqs (ws' := hp g (pst (upR s 50 (st3 f row (nI i) (-1) (-1))) (skw tx E p + 1) w (-1)) n) ?_ rfl rfl (congrArg (fun z => hp g z n) (pst_C rfl rfl))
      refine aw_iload_n rfl rfl ?_
      refine aw_if_ne (tgt := 62) rfl (by decide) (fun h58 => absurd (by rw [h0]; rfl) h58) (fun h58 => ?_)
      rw [hs3]
      exact aw_vret rfl rfl ⟨rfl, rfl⟩
    · rw [if_neg h0]
      have hb := dg1_b (tx := tx) hnx
      refine aw_ldcwS rfl (xr_X12_264 hx) ?_
      refine aw_aload_n rfl rfl ?_
      refine aw_iV (q0 := 39) (ci := 12) rfl cw_X12_138 rfl rfl rfl (c_m_lookC (hTR f) hpE) rfl rfl (Nat.le_of_ble_eq_true rfl) (by decide) (by decide) (by decide) (by decide) ?_
      refine aw_iS rfl cw_X12_225 (c_m_spotOf (i := 7) hx (by decide)) rfl rfl (Nat.le_of_ble_eq_true rfl) (by decide) (by decide) (by decide) (by decide) ?_
      rw [hi]
      refine aw_istore_n rfl (by decide) ?_
      refine aw_iload_n rfl rfl ?_
      refine aw_iconst (v := -1) rfl (by decide) ?_
      refine aw_icmp_ne (tgt := 22) rfl (by decide) (fun h13 => ?_) (fun h13 => absurd h13 (fun e => absurd e (nI_nm1 (by omega))))
      refine aw_aload_n rfl rfl ?_
      refine aw_dup rfl rfl ?_
      refine pg_39_10 rfl kl_X12_119 ?_
      refine aw_iconst (v := 1) rfl (by decide) ?_
      refine aw_iadd rfl ?_
      refine pp_39_10 rfl kl_X12_119 ?_
      refine aw_eqs (ws' := hp g (pst (upR s 50 f) (skw tx E p + 1) w (-1)) n) ?_ rfl rfl (congrArg (fun z => hp g z n) pst_in)
      refine aw_aload_n rfl rfl ?_
      refine pg_39_24 rfl kl_X12_55 ?_
      refine aw_iload_n rfl rfl ?_
      refine aw_iload_n rfl rfl ?_
      refine ps_50 rfl rfl (by omega) ?_
      refine aw_eqs (ws' := hp g (pst (upR s 50 (upd f row (nI i))) (skw tx E p + 1) w (-1)) n) ?_ rfl rfl (congrArg (fun z => hp g z n) (pst_C rfl rfl))
      refine aw_aload_n rfl rfl ?_
      refine pg_39_24 rfl kl_X12_55 ?_
      refine aw_iload_n rfl rfl ?_
      refine aw_iconst (v := 1) rfl (by decide) ?_
      refine aw_iadd rfl ?_
      refine aw_iconst (v := -1) rfl (by decide) ?_
      refine ps_50 rfl (nI_add row 1) (by omega) ?_
      refine aw_eqs (ws' := hp g (pst (upR s 50 (upd (upd f row (nI i)) (row + 1) (-1))) (skw tx E p + 1) w (-1)) n) ?_ rfl rfl (congrArg (fun z => hp g z n) (pst_C rfl rfl))
      refine aw_aload_n rfl rfl ?_
      refine pg_39_24 rfl kl_X12_55 ?_
      refine aw_iload_n rfl rfl ?_
      refine aw_iconst (v := 2) rfl (by decide) ?_
      refine aw_iadd rfl ?_
      refine aw_iconst (v := -1) rfl (by decide) ?_
      refine ps_50 rfl (nI_add row 2) (by omega) ?_
      refine aw_eqs (ws' := hp g (pst (upR s 50 (st3 f row (nI i) (-1) (-1))) (skw tx E p + 1) w (-1)) n) ?_ rfl rfl (congrArg (fun z => hp g z n) (pst_C rfl rfl))
      refine aw_iload_n rfl rfl ?_
      refine aw_if_ne (tgt := 62) rfl (by decide) (fun h58 => ?_) (fun h58 => absurd h58 (fun e => h0 ((nI_eq (b := 0) (by omega) (by decide)).mp e)))
      refine aw_aload_n rfl rfl ?_
      refine pg_39_24 rfl kl_X12_55 ?_
      refine aw_iload_n rfl rfl ?_
      refine aw_iconst (v := 1) rfl (by decide) ?_
      refine aw_iadd rfl ?_
      refine aw_aload_n rfl rfl ?_
      refine aw_d2 (q0 := 39) (ci := 12) rfl cw_X12_266 rfl rfl rfl (c_m_digit (hTR (st3 f row (nI i) (-1) (-1))) hnx) rfl rfl (Nat.le_of_ble_eq_true rfl) (by decide) (by decide) (by decide) (by decide) (fun z hz => ?_) (fun fe xe hz => ?_)
      · rw [hz] at hb ⊢
        have hz1 : z.1 ≤ E := hb.2.1
        simp only
        by_cases h3 : i < 3
        · rw [if_pos h3]
          have hb2 := dg1_b (tx := tx) hz1
          refine ps_50 rfl (nI_add row 1) (by omega) ?_
          refine aw_eqs (ws' := hp g (pst (upR s 50 (st3 f row (nI i) (nI z.2) (-1))) z.1 w (-1)) n) ?_ rfl rfl (congrArg (fun z => hp g z n) (by rw [pst_C rfl rfl, st3_1]))
          refine aw_aload_n rfl rfl ?_
          refine pg_39_11 rfl kl_X12_128 ?_
          refine aw_iconst (v := -1) rfl (by decide) ?_
          refine aw_icmp_ne (tgt := 99) rfl (by decide) (fun h79 => absurd (rfl) h79) (fun h79 => ?_)
          refine aw_iload_n rfl rfl ?_
          refine aw_iconst (v := 3) rfl (by decide) ?_
          refine aw_icmp_ge (tgt := 99) rfl (by decide) (fun h84 => absurd h84 (nI_ge (b := 3) (by omega) (by decide))) (fun h84 => ?_)
          refine aw_aload_n rfl rfl ?_
          refine pg_39_24 rfl kl_X12_55 ?_
          refine aw_iload_n rfl rfl ?_
          refine aw_iconst (v := 2) rfl (by decide) ?_
          refine aw_iadd rfl ?_
          refine aw_aload_n rfl rfl ?_
          refine aw_d2 (q0 := 39) (ci := 12) rfl cw_X12_266 rfl rfl rfl (c_m_digit (hTR (st3 f row (nI i) (nI z.2) (-1))) hz1) rfl rfl (Nat.le_of_ble_eq_true rfl) (by decide) (by decide) (by decide) (by decide) (fun y hy => ?_) (fun fe xe hy => ?_)
          · rw [hy]
            refine ps_50 rfl (nI_add row 2) (by omega) ?_
            refine aw_eqs (ws' := hp g (pst (upR s 50 (st3 f row (nI i) (nI z.2) (nI y.2))) y.1 w (-1)) n) ?_ rfl rfl (congrArg (fun z => hp g z n) (by rw [pst_C rfl rfl, st3_2]))
            exact aw_vret rfl rfl ⟨rfl, rfl⟩
          · rw [hy]
            refine ps_50 rfl (nI_add row 2) (by omega) ?_
            refine aw_eqs (ws' := hp g (pst (upR s 50 (st3 f row (nI i) (nI z.2) xe)) fe w (nI fe)) n) ?_ rfl rfl (congrArg (fun z => hp g z n) (by rw [pst_C rfl rfl, st3_2]))
            exact aw_vret rfl rfl ⟨rfl, _, _, rfl, fun j hj => st3_o (Or.inl hj)⟩
        · rw [if_neg h3]
          refine ps_50 rfl (nI_add row 1) (by omega) ?_
          refine aw_eqs (ws' := hp g (pst (upR s 50 (st3 f row (nI i) (nI z.2) (-1))) z.1 w (-1)) n) ?_ rfl rfl (congrArg (fun z => hp g z n) (by rw [pst_C rfl rfl, st3_1]))
          refine aw_aload_n rfl rfl ?_
          refine pg_39_11 rfl kl_X12_128 ?_
          refine aw_iconst (v := -1) rfl (by decide) ?_
          refine aw_icmp_ne (tgt := 99) rfl (by decide) (fun h79 => absurd (rfl) h79) (fun h79 => ?_)
          refine aw_iload_n rfl rfl ?_
          refine aw_iconst (v := 3) rfl (by decide) ?_
          refine aw_icmp_ge (tgt := 99) rfl (by decide) (fun h84 => ?_) (fun h84 => absurd (nI_le (a := 3) (by omega) (by omega)) h84)
          exact aw_vret rfl rfl ⟨rfl, rfl⟩
      · rw [hz] at hb ⊢
        have hfe : fe ≤ E := hb.2
        have hf24 : ¬ nI fe = (-1 : Int32) := nI_nm1 (by omega)
        simp only
        refine ps_50 rfl (nI_add row 1) (by omega) ?_
        refine aw_eqs (ws' := hp g (pst (upR s 50 (st3 f row (nI i) xe (-1))) fe w (nI fe)) n) ?_ rfl rfl (congrArg (fun z => hp g z n) (by rw [pst_C rfl rfl, st3_1]))
        refine aw_aload_n rfl rfl ?_
        refine pg_39_11 rfl kl_X12_128 ?_
        refine aw_iconst (v := -1) rfl (by decide) ?_
        refine aw_icmp_ne (tgt := 99) rfl (by decide) (fun h79 => ?_) (fun h79 => absurd h79 (hf24))
        exact aw_vret rfl rfl ⟨rfl, _, _, rfl, fun j hj => st3_o (Or.inl hj)⟩
def rgL (tx : Nat → Nat) (E : Nat) : Nat → Nat → Nat → (Nat → Int32) → Except Nat (Nat × (Nat → Int32))
  | 0, _, p, _ => .error p
  | d + 1, m, p, F => match stR' tx E p with
    | .error f => .error f
    | .ok z => if cst tx E z.1 = 59 then (if m + 1 = 16 then .error (skw tx E z.1) else rgL tx E d (m + 1) (skw tx E z.1 + 1) (st3 F (3 * m) z.2.1 z.2.2.1 z.2.2.2)) else if cst tx E z.1 = -1 then .ok (m + 1, st3 F (3 * m) z.2.1 z.2.2.1 z.2.2.2) else .error (skw tx E z.1)
def rgR (tx : Nat → Nat) (E : Nat) : Except Nat (Nat × (Nat → Int32)) := rgL tx E 16 0 0 (fun _ => 0)
def skR : Nat → Nat → Bool := fun k j => Nat.beq k 50 && Nat.ble 192 j || (Nat.beq k 51 && Nat.beq j 4 || skG k j)
theorem eo_GR {s s' : am_S} (h : eo skG s s') : eo skR s s' := fun k j e => h k j (by unfold skR at e; exact (Bool.or_eq_false_iff.mp (Bool.or_eq_false_iff.mp e).2).2)
theorem TX_up51 {s : am_S} {n : am_N} {B b E i : Nat} {tx : Nat → Nat} {v : Int32} (h : TX s n B b E tx) : TX (up s 51 i v) n B b E tx := by
  refine ⟨h.1, h.2.1, h.2.2.1, h.2.2.2.1, h.2.2.2.2.1, ?_⟩
  rcases h.2.2.2.2.1 with ⟨rfl, _⟩ | ⟨rfl, _⟩ <;> exact h.2.2.2.2.2
def PV (g : ag_G) (s : am_S) (n : am_N) (r : Except Nat (Nat × (Nat → Int32))) : Option Value → va_W → Prop := fun o y => o = none ∧ ∃ s', y = hp g s' n ∧ eo skR s s' ∧ (match r with
  | .ok z => s' 39 11 = -1 ∧ s' 51 4 = nI z.1 ∧ ∀ j, j < 3 * z.1 → s' 50 (192 + j) = z.2 j
  | .error f => s' 39 11 = nI f)
theorem aw_pS {l : Launch} {g : ag_G} {M N : ag_M} {R : Room} {Z : ag_Z} {pc index d k q0 ci b w row : Nat} {L : List (Option Value)} {s : am_S} {n : am_N} {ws : va_W} {f : Nat → Int32} {rr : Except Nat (Nat × Int32 × Int32 × Int32)} {C : vw_C} {fs As rest st0 : List Value}
    (hd : m_at M pc = some (.invokevirtual index, 3)) (hw : aw_cV (m_y M).cls index N k) (hc : aw_cl[ci]? = some C) (hcn : C.1 = (m_y N).cls) (he : ws[q0]? = some (b, .inr (ci, fs)))
    (hM : aw_M l g N d 0 0 (.ref b :: As) ws (PS3 g s n w row f rr)) (hk : As.length = k) (hst : st0 = As.reverse ++ .ref b :: rest) (hrest : (rest.map fun v => v.category).sum ≤ 8) (hf : d + 1 ≤ R.frames) (hlo : 8 + (m_n N + 11) + 100 * d ≤ R.locals) (h1 : 0 ≤ R.cells) (h2 : 0 ≤ R.slots)
    (kk : ∀ z, rr = .ok z → aw_W l g M R Z 0 0 (hp g (pst (upR s 50 (st3 f row z.2.1 z.2.2.1 z.2.2.2)) z.1 w (-1)) n) (pc + 3) L rest) (kn : ∀ e f' p, rr = .error e → (∀ j, j < row → f' j = f j) → aw_W l g M R Z 0 0 (hp g (pst (upR s 50 f') p w (nI e)) n) (pc + 3) L rest) : aw_W l g M R Z 0 0 ws pc L st0 :=
  aw_callV hd hw hc hcn he hM hk hst hrest hf hlo h1 h2 (by
    cases rr with
    | ok z => rintro r y ⟨rfl, rfl⟩; exact kk z rfl
    | error f => rintro r y ⟨rfl, f', p, rfl, a⟩; exact kn f f' p rfl a)
theorem eo_R50 {s s1 : am_S} {f : Nat → Int32} (h : eo skR s s1) (hf : ∀ j, j < 192 → f j = s 50 j) : eo skR s (upR s1 50 f) := by
  intro k j e
  unfold upR
  cases hb : Nat.beq k 50 with
  | true =>
    have hk := Nat.eq_of_beq_eq_true hb
    subst hk
    have : j < 192 := by
      unfold skR at e
      have e1 := (Bool.or_eq_false_iff.mp e).1
      simp only [Nat.beq_refl, Bool.true_and] at e1
      by_cases c : 192 ≤ j
      · rw [Nat.ble_eq_true_of_le c] at e1; cases e1
      · omega
    exact hf j this
  | false => exact h k j e
theorem eo_pstR {s s1 : am_S} {p w : Nat} {f : Int32} (h : eo skR s s1) : eo skR s (pst s1 p w f) := eo_upI rfl (eo_upI rfl (eo_upI rfl h))
set_option maxRecDepth 4000 in
theorem c_m_readReign {l : Launch} {g : ag_G} {s : am_S} {n : am_N} {E : Nat} {tx : Nat → Nat} (hx : aw_hx g) (hE : E ≤ 240) (hEe : s 39 6 = nI E) (htx : ∀ i, i < E → tx i < 256 ∧ s 40 i = n8 (tx i)) : aw_M l g mi_X12_readReign 6 0 0 [.ref (g_ad g 39)] (hp g s n) (PV g s (upT n 40) (rgR tx E)) := by
  obtain ⟨w, hw⟩ := nI_ex (s 39 12)
  obtain ⟨s0, hs0⟩ : ∃ z, z = up (up (up (up s 39 8 (nI 0)) 39 9 (nI E)) 39 10 0) 39 11 (-1) := ⟨_, rfl⟩
  have hT0 : TX s0 (upT n 40) 40 0 E tx := by rw [hs0]; exact ⟨rfl, rfl, rfl, hE, Or.inl ⟨rfl, by omega⟩, fun i hi => by rw [Nat.zero_add]; exact htx i hi⟩
  have he0 : eo skR s s0 := by rw [hs0]; exact eo_upI rfl (eo_upI rfl (eo_upI rfl (eo_upI rfl eo_rf)))
  have h500 : s0 50 = s 50 := by rw [hs0]; rfl
  have hps : pst s0 0 w (-1) = s0 := by rw [hs0]; exact pst_rf rfl hw rfl
  have loop : ∀ (d m p : Nat) (f F : Nat → Int32) (R : Except Nat (Nat × (Nat → Int32))), m + d = 16 → p ≤ E → (∀ j, j < 192 → f j = s 50 j) → (∀ j, j < 3 * m → f (192 + j) = F j) → rgL tx E d m p F = R → 0 < d → aw_W l g mi_X12_readReign (aw_rm 6 0 0) (aw_Z g (PV g s (upT n 40) R) 0 0) 0 0 (hp g (pst (upR s0 50 f) p w (-1)) (upT n 40)) 17 [some (.ref (g_ad g 39)), some (.int (nI m)), some (.int 1)] [] := by
    intro d
    induction d with
    | zero => intro m p f F R _ _ _ _ _ h; exact absurd h (Nat.lt_irrefl _)
    | succ d ih =>
      intro m p f F R hm hpE hf hF hR _
      simp only [rgL] at hR
      have hb := stR_b (tx := tx) hpE
      refine aw_iload_n rfl rfl ?_
      refine aw_if_eq (tgt := 91) rfl (by decide) (fun h18 => absurd h18 (by decide)) (fun h18 => ?_)
      refine aw_aload_n rfl rfl ?_
      refine aw_iconst (v := 3) rfl (by decide) ?_
      refine aw_bipush (v := 64) rfl (by decide) ?_
      refine aw_iload_n rfl rfl ?_
      refine aw_iadd rfl ?_
      refine aw_imul rfl ?_
      refine aw_pS (q0 := 39) (ci := 12) rfl cw_X12_269 rfl rfl rfl (show aw_M l g mi_X12_readStep 5 0 0 [.ref (g_ad g 39), .int (3 * (64 + nI m))] (hp g (pst (upR s0 50 f) p w (-1)) (upT n 40)) (PS3 g s0 (upT n 40) w (192 + 3 * m) f (stR' tx E p)) from by (rw [show (64 : Int32) + nI m = nI (64 + m) from nI_add 64 m, show (3 : Int32) * nI (64 + m) = nI (192 + 3 * m) from (pk_mul 3 (64 + m)).trans (congrArg nI (by omega))]; exact c_m_readStep hx hT0 hpE (by omega) f)) rfl rfl (Nat.le_of_ble_eq_true rfl) (by decide) (by decide) (by decide) (by decide) (fun z hz => ?_) (fun fe f2 p2 hz hf2 => ?_)
      · rw [hz] at hb hR
        have hz1 : z.1 ≤ E := hb.2
        have hT2 : TX (upR s0 50 (st3 f (192 + 3 * m) z.2.1 z.2.2.1 z.2.2.2)) (upT n 40) 40 0 E tx := TX_R hT0 rfl rfl rfl
        have hk := skw_b (tx := tx) hz1
        have hf' : ∀ j, j < 192 → st3 f (192 + 3 * m) z.2.1 z.2.2.1 z.2.2.2 j = s 50 j := fun j hj => (st3_o (Or.inl (by omega))).trans (hf j hj)
        have hF' : ∀ j, j < 3 * (m + 1) → st3 f (192 + 3 * m) z.2.1 z.2.2.1 z.2.2.2 (192 + j) = st3 F (3 * m) z.2.1 z.2.2.1 z.2.2.2 j := by
          intro j hj
          by_cases c : j < 3 * m
          · rw [st3_o (Or.inl (by omega)), st3_o (Or.inl (by omega))]; exact hF j c
          · unfold st3
            by_cases c2 : j = 3 * m + 2
            · rw [c2, ← Nat.add_assoc, upd_s, upd_s]
            · rw [upd_n (by omega), upd_n (i := 3 * m + 2) (by omega)]
              by_cases c1 : j = 3 * m + 1
              · rw [c1, ← Nat.add_assoc, upd_s, upd_s]
              · rw [upd_n (by omega), upd_n (i := 3 * m + 1) (by omega), show j = 3 * m from by omega, upd_s, upd_s]
        have heR : eo skR s (upR s0 50 (st3 f (192 + 3 * m) z.2.1 z.2.2.1 z.2.2.2)) := eo_R50 he0 hf'
        simp only at hR
        by_cases h59 : cst tx E z.1 = 59
        · have hnx := q_lt h59 (by decide)
          rw [if_pos h59] at hR
          by_cases h16 : m + 1 = 16
          · rw [if_pos h16] at hR
            subst hR
            refine aw_aload_n rfl rfl ?_
            refine pg_39_11 rfl kl_X12_128 ?_
            refine aw_iconst (v := -1) rfl (by decide) ?_
            refine aw_icmp_eq (tgt := 40) rfl (by decide) (fun h36 => ?_) (fun h36 => absurd (rfl) h36)
            refine aw_inc1 rfl rfl (by decide) ?_
            refine aw_aload_n rfl rfl ?_
            refine aw_iV (q0 := 39) (ci := 12) rfl cw_X12_138 rfl rfl rfl (c_m_lookC hT2 hz1) rfl rfl (Nat.le_of_ble_eq_true rfl) (by decide) (by decide) (by decide) (by decide) ?_
            refine aw_bipush (v := 59) rfl (by decide) ?_
            refine aw_icmp_ne (tgt := 56) rfl (by decide) (fun h49 => absurd (h59) h49) (fun h49 => ?_)
            refine aw_iconst (v := 1) rfl (by decide) ?_
            refine aw_goto (tgt := 57) rfl (by decide) ?_
            refine aw_istore_n rfl (by decide) ?_
            refine aw_iload_n rfl rfl ?_
            refine aw_if_eq (tgt := 74) rfl (by decide) (fun h59 => absurd h59 (by decide)) (fun h59 => ?_)
            refine aw_iload_n rfl rfl ?_
            refine aw_bipush (v := 16) rfl (by decide) ?_
            refine aw_icmp_ne (tgt := 74) rfl (by decide) (fun h65 => absurd (by rw [nI_1, h16]; rfl) h65) (fun h65 => ?_)
            refine aw_aload_n rfl rfl ?_
            refine aw_iV (q0 := 39) (ci := 12) rfl cw_X12_134 rfl rfl rfl (c_m_fails) rfl rfl (Nat.le_of_ble_eq_true rfl) (by decide) (by decide) (by decide) (by decide) ?_
            refine aw_pop rfl rfl ?_
            exact aw_vret rfl rfl ⟨rfl, _, rfl, eo_pstR heR, rfl⟩
          · rw [if_neg h16] at hR
            refine aw_aload_n rfl rfl ?_
            refine pg_39_11 rfl kl_X12_128 ?_
            refine aw_iconst (v := -1) rfl (by decide) ?_
            refine aw_icmp_eq (tgt := 40) rfl (by decide) (fun h36 => ?_) (fun h36 => absurd (rfl) h36)
            refine aw_inc1 rfl rfl (by decide) ?_
            refine aw_aload_n rfl rfl ?_
            refine aw_iV (q0 := 39) (ci := 12) rfl cw_X12_138 rfl rfl rfl (c_m_lookC hT2 hz1) rfl rfl (Nat.le_of_ble_eq_true rfl) (by decide) (by decide) (by decide) (by decide) ?_
            refine aw_bipush (v := 59) rfl (by decide) ?_
            refine aw_icmp_ne (tgt := 56) rfl (by decide) (fun h49 => absurd (h59) h49) (fun h49 => ?_)
            refine aw_iconst (v := 1) rfl (by decide) ?_
            refine aw_goto (tgt := 57) rfl (by decide) ?_
            refine aw_istore_n rfl (by decide) ?_
            refine aw_iload_n rfl rfl ?_
            refine aw_if_eq (tgt := 74) rfl (by decide) (fun h59 => absurd h59 (by decide)) (fun h59 => ?_)
            refine aw_iload_n rfl rfl ?_
            refine aw_bipush (v := 16) rfl (by decide) ?_
            refine aw_icmp_ne (tgt := 74) rfl (by decide) (fun h65 => ?_) (fun h65 => absurd h65 (fun e => h16 ((nI_eq (b := 16) (by omega) (by decide)).mp ((nI_1 m).symm.trans e))))
            refine aw_iload_n rfl rfl ?_
            refine aw_if_eq (tgt := 17) rfl (by decide) (fun h75 => absurd h75 (by decide)) (fun h75 => ?_)
            refine aw_aload_n rfl rfl ?_
            refine aw_dup rfl rfl ?_
            refine pg_39_10 rfl kl_X12_119 ?_
            refine aw_iconst (v := 1) rfl (by decide) ?_
            refine aw_iadd rfl ?_
            refine pp_39_10 rfl kl_X12_119 ?_
            refine aw_eqs (ws' := hp g (pst (upR s0 50 (st3 f (192 + 3 * m) z.2.1 z.2.2.1 z.2.2.2)) (skw tx E z.1 + 1) w (-1)) (upT n 40)) ?_ rfl rfl (congrArg (fun z => hp g z (upT n 40)) pst_in)
            refine aw_goto (tgt := 17) rfl (by decide) ?_
            exact aw_wk (ih (m + 1) (skw tx E z.1 + 1) _ _ R (by omega) hnx hf' hF' hR (by omega)) (And.intro rfl (And.intro (congrArg (fun x => some (Value.int x)) (nI_1 m)) (And.intro rfl True.intro)))
        · rw [if_neg h59] at hR
          have e51 : ∀ (q : Nat) (x v : Int32), up (pst (upR s0 50 (st3 f (192 + 3 * m) z.2.1 z.2.2.1 z.2.2.2)) q w x) 51 4 v = pst (up (upR s0 50 (st3 f (192 + 3 * m) z.2.1 z.2.2.1 z.2.2.2)) 51 4 v) q w x := by
            intro q x v
            unfold pst
            rw [up_comm (k := 39) (k' := 51) (i := 11) rfl rfl, up_comm (k := 39) (k' := 51) (i := 12) rfl rfl, up_comm (k := 39) (k' := 51) (i := 10) rfl rfl]
          have heR2 : eo skR s (up (upR s0 50 (st3 f (192 + 3 * m) z.2.1 z.2.2.1 z.2.2.2)) 51 4 (nI (m + 1))) := eo_upI rfl heR
          by_cases h1 : cst tx E z.1 = -1
          · rw [if_pos h1] at hR
            subst hR
            refine aw_aload_n rfl rfl ?_
            refine pg_39_11 rfl kl_X12_128 ?_
            refine aw_iconst (v := -1) rfl (by decide) ?_
            refine aw_icmp_eq (tgt := 40) rfl (by decide) (fun h36 => ?_) (fun h36 => absurd (rfl) h36)
            refine aw_inc1 rfl rfl (by decide) ?_
            refine aw_aload_n rfl rfl ?_
            refine aw_iV (q0 := 39) (ci := 12) rfl cw_X12_138 rfl rfl rfl (c_m_lookC hT2 hz1) rfl rfl (Nat.le_of_ble_eq_true rfl) (by decide) (by decide) (by decide) (by decide) ?_
            refine aw_bipush (v := 59) rfl (by decide) ?_
            refine aw_icmp_ne (tgt := 56) rfl (by decide) (fun h49 => ?_) (fun h49 => absurd h49 (h59))
            refine aw_iconst (v := 0) rfl (by decide) ?_
            refine aw_istore_n rfl (by decide) ?_
            refine aw_iload_n rfl rfl ?_
            refine aw_if_eq (tgt := 74) rfl (by decide) (fun h59 => ?_) (fun h59 => absurd h59 (by decide))
            refine aw_iload_n rfl rfl ?_
            refine aw_if_eq (tgt := 17) rfl (by decide) (fun h75 => ?_) (fun h75 => absurd h75 (by decide))
            refine aw_iload_n rfl rfl ?_
            refine aw_if_eq (tgt := 91) rfl (by decide) (fun h18 => ?_) (fun h18 => absurd h18 (by decide))
            refine aw_aload_n rfl rfl ?_
            refine pg_39_25 rfl kl_X12_58 ?_
            refine aw_iconst (v := 4) rfl (by decide) ?_
            refine aw_iload_n rfl rfl ?_
            refine ps_51 (j := 4) rfl rfl (by decide) ?_
            refine aw_eqs (ws' := hp g (pst (up (upR s0 50 (st3 f (192 + 3 * m) z.2.1 z.2.2.1 z.2.2.2)) 51 4 (nI (m + 1))) (skw tx E z.1) w (-1)) (upT n 40)) ?_ rfl rfl (congrArg (fun z => hp g z (upT n 40)) (by rw [← nI_1]; exact e51 _ _ _))
            refine aw_aload_n rfl rfl ?_
            refine aw_iV (q0 := 39) (ci := 12) rfl cw_X12_138 rfl rfl rfl (c_m_lookI (TX_up51 hT2) hz1) rfl rfl (Nat.le_of_ble_eq_true rfl) (by decide) (by decide) (by decide) (by decide) ?_
            refine aw_iconst (v := -1) rfl (by decide) ?_
            refine aw_icmp_eq (tgt := 111) rfl (by decide) (fun h103 => ?_) (fun h103 => absurd (h1) h103)
            exact aw_vret rfl rfl ⟨rfl, _, rfl, eo_pstR heR2, rfl, rfl, hF'⟩
          · rw [if_neg h1] at hR
            subst hR
            refine aw_aload_n rfl rfl ?_
            refine pg_39_11 rfl kl_X12_128 ?_
            refine aw_iconst (v := -1) rfl (by decide) ?_
            refine aw_icmp_eq (tgt := 40) rfl (by decide) (fun h36 => ?_) (fun h36 => absurd (rfl) h36)
            refine aw_inc1 rfl rfl (by decide) ?_
            refine aw_aload_n rfl rfl ?_
            refine aw_iV (q0 := 39) (ci := 12) rfl cw_X12_138 rfl rfl rfl (c_m_lookC hT2 hz1) rfl rfl (Nat.le_of_ble_eq_true rfl) (by decide) (by decide) (by decide) (by decide) ?_
            refine aw_bipush (v := 59) rfl (by decide) ?_
            refine aw_icmp_ne (tgt := 56) rfl (by decide) (fun h49 => ?_) (fun h49 => absurd h49 (h59))
            refine aw_iconst (v := 0) rfl (by decide) ?_
            refine aw_istore_n rfl (by decide) ?_
            refine aw_iload_n rfl rfl ?_
            refine aw_if_eq (tgt := 74) rfl (by decide) (fun h59 => ?_) (fun h59 => absurd h59 (by decide))
            refine aw_iload_n rfl rfl ?_
            refine aw_if_eq (tgt := 17) rfl (by decide) (fun h75 => ?_) (fun h75 => absurd h75 (by decide))
            refine aw_iload_n rfl rfl ?_
            refine aw_if_eq (tgt := 91) rfl (by decide) (fun h18 => ?_) (fun h18 => absurd h18 (by decide))
            refine aw_aload_n rfl rfl ?_
            refine pg_39_25 rfl kl_X12_58 ?_
            refine aw_iconst (v := 4) rfl (by decide) ?_
            refine aw_iload_n rfl rfl ?_
            refine ps_51 (j := 4) rfl rfl (by decide) ?_
            refine aw_eqs (ws' := hp g (pst (up (upR s0 50 (st3 f (192 + 3 * m) z.2.1 z.2.2.1 z.2.2.2)) 51 4 (nI (m + 1))) (skw tx E z.1) w (-1)) (upT n 40)) ?_ rfl rfl (congrArg (fun z => hp g z (upT n 40)) (by rw [← nI_1]; exact e51 _ _ _))
            refine aw_aload_n rfl rfl ?_
            refine aw_iV (q0 := 39) (ci := 12) rfl cw_X12_138 rfl rfl rfl (c_m_lookI (TX_up51 hT2) hz1) rfl rfl (Nat.le_of_ble_eq_true rfl) (by decide) (by decide) (by decide) (by decide) ?_
            refine aw_iconst (v := -1) rfl (by decide) ?_
            refine aw_icmp_eq (tgt := 111) rfl (by decide) (fun h103 => absurd h103 (h1)) (fun h103 => ?_)
            refine aw_aload_n rfl rfl ?_
            refine aw_iV (q0 := 39) (ci := 12) rfl cw_X12_134 rfl rfl rfl (c_m_fails) rfl rfl (Nat.le_of_ble_eq_true rfl) (by decide) (by decide) (by decide) (by decide) ?_
            refine aw_pop rfl rfl ?_
            exact aw_vret rfl rfl ⟨rfl, _, rfl, eo_pstR heR2, rfl⟩
      · rw [hz] at hb hR
        have hfe : fe ≤ E := hb
        have hf24 : ¬ nI fe = (-1 : Int32) := nI_nm1 (by omega)
        have heR : eo skR s (upR s0 50 f2) := eo_R50 he0 (fun j hj => (hf2 j (by omega)).trans (hf j hj))
        subst hR
        refine aw_aload_n rfl rfl ?_
        refine pg_39_11 rfl kl_X12_128 ?_
        refine aw_iconst (v := -1) rfl (by decide) ?_
        refine aw_icmp_eq (tgt := 40) rfl (by decide) (fun h36 => absurd h36 (hf24)) (fun h36 => ?_)
        exact aw_vret rfl rfl ⟨rfl, _, rfl, eo_pstR heR, rfl⟩
  have z0 := loop 16 0 0 (s0 50) (fun _ => 0) _ (by decide) (Nat.zero_le _) (fun j _ => congrFun h500 j) (fun j hj => absurd hj (by omega)) rfl (by decide)
  rw [upR_rf, hps] at z0
  refine aw_M_of mo_X12_readReign (by decide) (Nat.le_of_ble_eq_true rfl) ?_
  refine aw_aload_n rfl rfl ?_
  refine aw_aload_n rfl rfl ?_
  refine pg_39_1 rfl kl_X12_9 ?_
  refine aw_iconst (v := 0) rfl (by decide) ?_
  refine aw_aload_n rfl rfl ?_
  refine pg_39_6 rfl kl_X12_109 ?_
  refine aw_vV (q0 := 39) (ci := 12) rfl cw_X12_207 rfl rfl rfl (show aw_V l g mi_X12_starts 0 [.ref (g_ad g 39), .ref (g_ad g 40), .int 0, .int (s 39 6)] (hp g s n) (hp g s0 (upT n 40)) from by (rw [hEe, hs0]; exact c_m_starts_40 (b := 0))) rfl rfl (Nat.le_of_ble_eq_true rfl) (by decide) (by decide) (by decide) (by decide) ?_
  refine aw_iconst (v := 0) rfl (by decide) ?_
  refine aw_istore_n rfl (by decide) ?_
  refine aw_iconst (v := 1) rfl (by decide) ?_
  refine aw_istore_n rfl (by decide) ?_
  exact aw_wk z0 (And.intro rfl (And.intro rfl (And.intro rfl True.intro)))
