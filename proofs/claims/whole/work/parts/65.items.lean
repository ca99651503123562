/-! the reference: numbers and items of a kingdom -/
theorem nI_ex (x : Int32) : ∃ w, x = nI w := ⟨x.toBitVec.toNat, by
  unfold nI
  exact Int32.toBitVec_inj.mp (by rw [Int32.toBitVec_ofNat', BitVec.ofNat_toNat, BitVec.setWidth_eq])⟩
def nm2 (tx : Nat → Nat) (E p M : Nat) : Except Nat (Nat × Nat) := if dg tx E (skw tx E p) = true then (if dg tx E (skw tx E p + 1) = true then (if dg tx E (skw tx E p + 2) = true then .error (skw tx E p + 2) else if 10 * (tx (skw tx E p) - 48) + (tx (skw tx E p + 1) - 48) ≤ M then .ok (skw tx E p + 2, 10 * (tx (skw tx E p) - 48) + (tx (skw tx E p + 1) - 48)) else .error (skw tx E p + 1)) else if tx (skw tx E p) - 48 ≤ M then .ok (skw tx E p + 1, tx (skw tx E p) - 48) else .error (skw tx E p)) else .error (skw tx E p)
theorem inn_le {v M : Nat} (hv : v < 2 ^ 31) (hM : M < 2 ^ 31) : inn (nI v).toInt64 (0 : Int32).toInt64 (nI M).toInt64 = decide (v ≤ M) := by
  rw [inn_i (A := 0) (B := M) (by decide) (by rw [Int32.toInt_toInt64, nI_toInt hM]), nI_toInt hv]
  by_cases h : v ≤ M
  · rw [decide_eq_true (by omega), decide_eq_true (by omega), decide_eq_true h]; rfl
  · rw [decide_eq_false (p := (v : Int) ≤ M) (by omega), decide_eq_false h, Bool.and_false]
theorem cv_dg {tx : Nat → Nat} {E q : Nat} (h : dg tx E q = true) : cv tx E q = nI (tx q) ∧ 48 ≤ tx q ∧ tx q ≤ 57 ∧ q < E := by
  have hc := dg_c h
  refine ⟨?_, hc.2.1, hc.2.2, hc.1⟩
  unfold cv
  rw [if_pos hc.1]
def PD2 (g : ag_G) (s : am_S) (n : am_N) (w : Nat) : Except Nat (Nat × Nat) → Option Value → va_W → Prop
  | .ok z => fun o y => o = some (.int (nI z.2)) ∧ y = hp g (pst s z.1 w (-1)) n
  | .error f => fun o y => ∃ x, o = some (.int x) ∧ y = hp g (pst s f w (nI f)) n
theorem nI_s48 {c : Nat} (h : 48 ≤ c) : nI c - 48 = nI (c - 48) := nI_sb (b := 48) h
set_option maxRecDepth 4000 in
theorem c_m_number {l : Launch} {g : ag_G} {s : am_S} {n : am_N} {B b E p w : Nat} {tx : Nat → Nat} (hT : TX s n B b E tx) (hpE : p ≤ E) {M : Nat} (hM : M ≤ 99) : aw_M l g mi_X12_number 1 0 0 [.ref (g_ad g 39), .int 0, .int (nI M)] (hp g (pst s p w (-1)) n) (PD2 g s n w (nm2 tx E p M)) := by
  have hE := hT.2.2.2.1
  have hk := skw_b (tx := tx) hpE
  refine aw_M_of mo_X12_number (by decide) (Nat.le_of_ble_eq_true rfl) ?_
  cases h1 : dg tx E (skw tx E p) with
  | false =>
    rw [show nm2 tx E p M = .error (skw tx E p) from by (unfold nm2; rw [if_neg (by rw [h1]; exact Bool.false_ne_true)])]
    refine aw_aload_n rfl rfl ?_
    refine aw_iV (q0 := 39) (ci := 12) rfl cw_X12_138 rfl rfl rfl (c_m_look hT hpE) rfl rfl (Nat.le_of_ble_eq_true rfl) (by decide) (by decide) (by decide) (by decide) ?_
    refine aw_istore_n rfl (by decide) ?_
    refine aw_aload_n rfl rfl ?_
    refine aw_iV (q0 := 39) (ci := 12) rfl cw_X12_168 rfl rfl rfl (c_m_isDigit hT hk.2.1) rfl rfl (Nat.le_of_ble_eq_true rfl) (by decide) (by decide) (by decide) (by decide) ?_
    refine aw_if_ne (tgt := 19) rfl (by decide) (fun h9 => absurd (by rw [h1]; rfl) h9) (fun h9 => ?_)
    refine aw_aload_n rfl rfl ?_
    refine aw_iV (q0 := 39) (ci := 12) rfl cw_X12_134 rfl rfl rfl (c_m_fails) rfl rfl (Nat.le_of_ble_eq_true rfl) (by decide) (by decide) (by decide) (by decide) ?_
    refine aw_pop rfl rfl ?_
    refine aw_iconst (v := 0) rfl (by decide) ?_
    exact aw_iret rfl rfl ⟨_, rfl, rfl⟩
  | true =>
    have c1 := cv_dg h1
    have hq1 : skw tx E p + 1 ≤ E := by have := c1.2.2.2; omega
    have hv1 : cv tx E (skw tx E p) - 48 = nI (tx (skw tx E p) - 48) := by rw [c1.1]; exact nI_s48 c1.2.1
    cases h2 : dg tx E (skw tx E p + 1) with
    | false =>
      have hN : nm2 tx E p M = if tx (skw tx E p) - 48 ≤ M then .ok (skw tx E p + 1, tx (skw tx E p) - 48) else .error (skw tx E p) := by (unfold nm2; rw [if_pos h1, if_neg (by rw [h2]; exact Bool.false_ne_true)])
      have hin := inn_le (v := tx (skw tx E p) - 48) (M := M) (by omega) (by omega)
      by_cases h3 : tx (skw tx E p) - 48 ≤ M
      · rw [hN, if_pos h3]
        refine aw_aload_n rfl rfl ?_
        refine aw_iV (q0 := 39) (ci := 12) rfl cw_X12_138 rfl rfl rfl (c_m_look hT hpE) rfl rfl (Nat.le_of_ble_eq_true rfl) (by decide) (by decide) (by decide) (by decide) ?_
        refine aw_istore_n rfl (by decide) ?_
        refine aw_aload_n rfl rfl ?_
        refine aw_iV (q0 := 39) (ci := 12) rfl cw_X12_168 rfl rfl rfl (c_m_isDigit hT hk.2.1) rfl rfl (Nat.le_of_ble_eq_true rfl) (by decide) (by decide) (by decide) (by decide) ?_
        refine aw_if_ne (tgt := 19) rfl (by decide) (fun h9 => ?_) (fun h9 => absurd h9 (by rw [h1]; decide))
        refine aw_iload_n rfl rfl ?_
        refine aw_bipush (v := 48) rfl (by decide) ?_
        refine aw_isub rfl ?_
        rw [hv1]
        refine aw_istore rfl (by decide) ?_
        refine aw_aload_n rfl rfl ?_
        refine aw_dup rfl rfl ?_
        refine pg_39_10 rfl kl_X12_119 ?_
        refine aw_iconst (v := 1) rfl (by decide) ?_
        refine aw_iadd rfl ?_
        refine pp_39_10 rfl kl_X12_119 ?_
        refine aw_eqs (ws' := hp g (pst s ((skw tx E p) + 1) w (-1)) n) ?_ rfl rfl (congrArg (fun z => hp g z n) pst_in)
        refine aw_aload_n rfl rfl ?_
        refine aw_iV (q0 := 39) (ci := 12) rfl cw_X12_168 rfl rfl rfl (c_m_isDigit hT hq1) rfl rfl (Nat.le_of_ble_eq_true rfl) (by decide) (by decide) (by decide) (by decide) ?_
        refine aw_if_eq (tgt := 67) rfl (by decide) (fun h39 => ?_) (fun h39 => absurd (by rw [h2]; rfl) h39)
        refine aw_aload_n rfl rfl ?_
        refine aw_iV (q0 := 39) (ci := 12) rfl cw_X12_168 rfl rfl rfl (c_m_isDigit hT hq1) rfl rfl (Nat.le_of_ble_eq_true rfl) (by decide) (by decide) (by decide) (by decide) ?_
        refine aw_if_eq (tgt := 81) rfl (by decide) (fun h71 => ?_) (fun h71 => absurd (by rw [h2]; rfl) h71)
        refine aw_iload rfl rfl ?_
        refine aw_i2l rfl ?_
        refine aw_iload_n rfl rfl ?_
        refine aw_i2l rfl ?_
        refine aw_iload_n rfl rfl ?_
        refine aw_i2l rfl ?_
        refine aw_iS rfl cw_X12_217 (c_m_isIn) rfl rfl (Nat.le_of_ble_eq_true rfl) (by decide) (by decide) (by decide) (by decide) ?_
        refine aw_if_ne (tgt := 109) rfl (by decide) (fun h91 => ?_) (fun h91 => absurd h91 (by rw [hin, decide_eq_true h3]; decide))
        refine aw_iload rfl rfl ?_
        exact aw_iret rfl rfl ⟨rfl, rfl⟩
      · rw [hN, if_neg h3]
        refine aw_aload_n rfl rfl ?_
        refine aw_iV (q0 := 39) (ci := 12) rfl cw_X12_138 rfl rfl rfl (c_m_look hT hpE) rfl rfl (Nat.le_of_ble_eq_true rfl) (by decide) (by decide) (by decide) (by decide) ?_
        refine aw_istore_n rfl (by decide) ?_
        refine aw_aload_n rfl rfl ?_
        refine aw_iV (q0 := 39) (ci := 12) rfl cw_X12_168 rfl rfl rfl (c_m_isDigit hT hk.2.1) rfl rfl (Nat.le_of_ble_eq_true rfl) (by decide) (by decide) (by decide) (by decide) ?_
        refine aw_if_ne (tgt := 19) rfl (by decide) (fun h9 => ?_) (fun h9 => absurd h9 (by rw [h1]; decide))
        refine aw_iload_n rfl rfl ?_
        refine aw_bipush (v := 48) rfl (by decide) ?_
        refine aw_isub rfl ?_
        rw [hv1]
        refine aw_istore rfl (by decide) ?_
        refine aw_aload_n rfl rfl ?_
        refine aw_dup rfl rfl ?_
        refine pg_39_10 rfl kl_X12_119 ?_
        refine aw_iconst (v := 1) rfl (by decide) ?_
        refine aw_iadd rfl ?_
        refine pp_39_10 rfl kl_X12_119 ?_
        refine aw_eqs (ws' := hp g (pst s ((skw tx E p) + 1) w (-1)) n) ?_ rfl rfl (congrArg (fun z => hp g z n) pst_in)
        refine aw_aload_n rfl rfl ?_
        refine aw_iV (q0 := 39) (ci := 12) rfl cw_X12_168 rfl rfl rfl (c_m_isDigit hT hq1) rfl rfl (Nat.le_of_ble_eq_true rfl) (by decide) (by decide) (by decide) (by decide) ?_
        refine aw_if_eq (tgt := 67) rfl (by decide) (fun h39 => ?_) (fun h39 => absurd (by rw [h2]; rfl) h39)
        refine aw_aload_n rfl rfl ?_
        refine aw_iV (q0 := 39) (ci := 12) rfl cw_X12_168 rfl rfl rfl (c_m_isDigit hT hq1) rfl rfl (Nat.le_of_ble_eq_true rfl) (by decide) (by decide) (by decide) (by decide) ?_
        refine aw_if_eq (tgt := 81) rfl (by decide) (fun h71 => ?_) (fun h71 => absurd (by rw [h2]; rfl) h71)
        refine aw_iload rfl rfl ?_
        refine aw_i2l rfl ?_
        refine aw_iload_n rfl rfl ?_
        refine aw_i2l rfl ?_
        refine aw_iload_n rfl rfl ?_
        refine aw_i2l rfl ?_
        refine aw_iS rfl cw_X12_217 (c_m_isIn) rfl rfl (Nat.le_of_ble_eq_true rfl) (by decide) (by decide) (by decide) (by decide) ?_
        refine aw_if_ne (tgt := 109) rfl (by decide) (fun h91 => absurd (by rw [hin, decide_eq_false h3]; rfl) h91) (fun h91 => ?_)
        refine aw_aload_n rfl rfl ?_
        refine aw_dup rfl rfl ?_
        refine pg_39_10 rfl kl_X12_119 ?_
        refine aw_iconst (v := 1) rfl (by decide) ?_
        refine aw_isub rfl ?_
        refine pp_39_10 rfl kl_X12_119 ?_
        refine aw_eqs (ws' := hp g (pst s (skw tx E p) w (-1)) n) ?_ rfl rfl (congrArg (fun z => hp g z n) (show up (pst s ((skw tx E p) + 1) w (-1)) 39 10 (nI ((skw tx E p) + 1) - 1) = _ from by (rw [nI_m1 (by omega), Nat.add_sub_cancel, pst_10])))
        refine aw_aload_n rfl rfl ?_
        refine aw_iV (q0 := 39) (ci := 12) rfl cw_X12_134 rfl rfl rfl (c_m_fails) rfl rfl (Nat.le_of_ble_eq_true rfl) (by decide) (by decide) (by decide) (by decide) ?_
        refine aw_pop rfl rfl ?_
        refine aw_iload rfl rfl ?_
        exact aw_iret rfl rfl ⟨_, rfl, rfl⟩
    | true =>
      have c2 := cv_dg h2
      have hq2 : skw tx E p + 1 + 1 ≤ E := by have := c2.2.2.2; omega
      have hv2 : (10 : Int32) * nI (tx (skw tx E p) - 48) + cv tx E (skw tx E p + 1) - 48 = nI (10 * (tx (skw tx E p) - 48) + (tx (skw tx E p + 1) - 48)) := by rw [c2.1]; exact nm_ad c2.2.1
      cases h4 : dg tx E (skw tx E p + 2) with
      | true =>
        rw [show nm2 tx E p M = .error (skw tx E p + 2) from by (unfold nm2; rw [if_pos h1, if_pos h2, if_pos h4])]
        refine aw_aload_n rfl rfl ?_
        refine aw_iV (q0 := 39) (ci := 12) rfl cw_X12_138 rfl rfl rfl (c_m_look hT hpE) rfl rfl (Nat.le_of_ble_eq_true rfl) (by decide) (by decide) (by decide) (by decide) ?_
        refine aw_istore_n rfl (by decide) ?_
        refine aw_aload_n rfl rfl ?_
        refine aw_iV (q0 := 39) (ci := 12) rfl cw_X12_168 rfl rfl rfl (c_m_isDigit hT hk.2.1) rfl rfl (Nat.le_of_ble_eq_true rfl) (by decide) (by decide) (by decide) (by decide) ?_
        refine aw_if_ne (tgt := 19) rfl (by decide) (fun h9 => ?_) (fun h9 => absurd h9 (by rw [h1]; decide))
        refine aw_iload_n rfl rfl ?_
        refine aw_bipush (v := 48) rfl (by decide) ?_
        refine aw_isub rfl ?_
        rw [hv1]
        refine aw_istore rfl (by decide) ?_
        refine aw_aload_n rfl rfl ?_
        refine aw_dup rfl rfl ?_
        refine pg_39_10 rfl kl_X12_119 ?_
        refine aw_iconst (v := 1) rfl (by decide) ?_
        refine aw_iadd rfl ?_
        refine pp_39_10 rfl kl_X12_119 ?_
        refine aw_eqs (ws' := hp g (pst s ((skw tx E p) + 1) w (-1)) n) ?_ rfl rfl (congrArg (fun z => hp g z n) pst_in)
        refine aw_aload_n rfl rfl ?_
        refine aw_iV (q0 := 39) (ci := 12) rfl cw_X12_168 rfl rfl rfl (c_m_isDigit hT hq1) rfl rfl (Nat.le_of_ble_eq_true rfl) (by decide) (by decide) (by decide) (by decide) ?_
        refine aw_if_eq (tgt := 67) rfl (by decide) (fun h39 => absurd h39 (by rw [h2]; decide)) (fun h39 => ?_)
        refine aw_bipush (v := 10) rfl (by decide) ?_
        refine aw_iload rfl rfl ?_
        refine aw_imul rfl ?_
        refine aw_aload_n rfl rfl ?_
        refine aw_iV (q0 := 39) (ci := 12) rfl cw_X12_214 rfl rfl rfl (c_m_here hT hq1) rfl rfl (Nat.le_of_ble_eq_true rfl) (by decide) (by decide) (by decide) (by decide) ?_
        refine aw_iadd rfl ?_
        refine aw_bipush (v := 48) rfl (by decide) ?_
        refine aw_isub rfl ?_
        rw [hv2]
        refine aw_istore rfl (by decide) ?_
        refine aw_aload_n rfl rfl ?_
        refine aw_dup rfl rfl ?_
        refine pg_39_10 rfl kl_X12_119 ?_
        refine aw_iconst (v := 1) rfl (by decide) ?_
        refine aw_iadd rfl ?_
        refine pp_39_10 rfl kl_X12_119 ?_
        refine aw_eqs (ws' := hp g (pst s ((skw tx E p + 1) + 1) w (-1)) n) ?_ rfl rfl (congrArg (fun z => hp g z n) pst_in)
        refine aw_aload_n rfl rfl ?_
        refine aw_iV (q0 := 39) (ci := 12) rfl cw_X12_168 rfl rfl rfl (c_m_isDigit hT hq2) rfl rfl (Nat.le_of_ble_eq_true rfl) (by decide) (by decide) (by decide) (by decide) ?_
        refine aw_if_eq (tgt := 81) rfl (by decide) (fun h71 => absurd h71 (by rw [h4]; decide)) (fun h71 => ?_)
        refine aw_aload_n rfl rfl ?_
        refine aw_iV (q0 := 39) (ci := 12) rfl cw_X12_134 rfl rfl rfl (c_m_fails) rfl rfl (Nat.le_of_ble_eq_true rfl) (by decide) (by decide) (by decide) (by decide) ?_
        refine aw_pop rfl rfl ?_
        refine aw_iconst (v := 0) rfl (by decide) ?_
        exact aw_iret rfl rfl ⟨_, rfl, rfl⟩
      | false =>
        have hN : nm2 tx E p M = if 10 * (tx (skw tx E p) - 48) + (tx (skw tx E p + 1) - 48) ≤ M then .ok (skw tx E p + 2, 10 * (tx (skw tx E p) - 48) + (tx (skw tx E p + 1) - 48)) else .error (skw tx E p + 1) := by (unfold nm2; rw [if_pos h1, if_pos h2, if_neg (by rw [h4]; exact Bool.false_ne_true)])
        have hin := inn_le (v := 10 * (tx (skw tx E p) - 48) + (tx (skw tx E p + 1) - 48)) (M := M) (by omega) (by omega)
        by_cases h3 : 10 * (tx (skw tx E p) - 48) + (tx (skw tx E p + 1) - 48) ≤ M
        · rw [hN, if_pos h3]
          refine aw_aload_n rfl rfl ?_
          refine aw_iV (q0 := 39) (ci := 12) rfl cw_X12_138 rfl rfl rfl (c_m_look hT hpE) rfl rfl (Nat.le_of_ble_eq_true rfl) (by decide) (by decide) (by decide) (by decide) ?_
          refine aw_istore_n rfl (by decide) ?_
          refine aw_aload_n rfl rfl ?_
          refine aw_iV (q0 := 39) (ci := 12) rfl cw_X12_168 rfl rfl rfl (c_m_isDigit hT hk.2.1) rfl rfl (Nat.le_of_ble_eq_true rfl) (by decide) (by decide) (by decide) (by decide) ?_
          refine aw_if_ne (tgt := 19) rfl (by decide) (fun h9 => ?_) (fun h9 => absurd h9 (by rw [h1]; decide))
          refine aw_iload_n rfl rfl ?_
          refine aw_bipush (v := 48) rfl (by decide) ?_
          refine aw_isub rfl ?_
          rw [hv1]
          refine aw_istore rfl (by decide) ?_
          refine aw_aload_n rfl rfl ?_
          refine aw_dup rfl rfl ?_
          refine pg_39_10 rfl kl_X12_119 ?_
          refine aw_iconst (v := 1) rfl (by decide) ?_
          refine aw_iadd rfl ?_
          refine pp_39_10 rfl kl_X12_119 ?_
          refine aw_eqs (ws' := hp g (pst s ((skw tx E p) + 1) w (-1)) n) ?_ rfl rfl (congrArg (fun z => hp g z n) pst_in)
          refine aw_aload_n rfl rfl ?_
          refine aw_iV (q0 := 39) (ci := 12) rfl cw_X12_168 rfl rfl rfl (c_m_isDigit hT hq1) rfl rfl (Nat.le_of_ble_eq_true rfl) (by decide) (by decide) (by decide) (by decide) ?_
          refine aw_if_eq (tgt := 67) rfl (by decide) (fun h39 => absurd h39 (by rw [h2]; decide)) (fun h39 => ?_)
          refine aw_bipush (v := 10) rfl (by decide) ?_
          refine aw_iload rfl rfl ?_
          refine aw_imul rfl ?_
          refine aw_aload_n rfl rfl ?_
          refine aw_iV (q0 := 39) (ci := 12) rfl cw_X12_214 rfl rfl rfl (c_m_here hT hq1) rfl rfl (Nat.le_of_ble_eq_true rfl) (by decide) (by decide) (by decide) (by decide) ?_
          refine aw_iadd rfl ?_
          refine aw_bipush (v := 48) rfl (by decide) ?_
          refine aw_isub rfl ?_
          rw [hv2]
          refine aw_istore rfl (by decide) ?_
          refine aw_aload_n rfl rfl ?_
          refine aw_dup rfl rfl ?_
          refine pg_39_10 rfl kl_X12_119 ?_
          refine aw_iconst (v := 1) rfl (by decide) ?_
          refine aw_iadd rfl ?_
          refine pp_39_10 rfl kl_X12_119 ?_
          refine aw_eqs (ws' := hp g (pst s ((skw tx E p + 1) + 1) w (-1)) n) ?_ rfl rfl (congrArg (fun z => hp g z n) pst_in)
          refine aw_aload_n rfl rfl ?_
          refine aw_iV (q0 := 39) (ci := 12) rfl cw_X12_168 rfl rfl rfl (c_m_isDigit hT hq2) rfl rfl (Nat.le_of_ble_eq_true rfl) (by decide) (by decide) (by decide) (by decide) ?_
          refine aw_if_eq (tgt := 81) rfl (by decide) (fun h71 => ?_) (fun h71 => absurd (by rw [h4]; rfl) h71)
          refine aw_iload rfl rfl ?_
          refine aw_i2l rfl ?_
          refine aw_iload_n rfl rfl ?_
          refine aw_i2l rfl ?_
          refine aw_iload_n rfl rfl ?_
          refine aw_i2l rfl ?_
          refine aw_iS rfl cw_X12_217 (c_m_isIn) rfl rfl (Nat.le_of_ble_eq_true rfl) (by decide) (by decide) (by decide) (by decide) ?_
          refine aw_if_ne (tgt := 109) rfl (by decide) (fun h91 => ?_) (fun h91 => absurd h91 (by rw [hin, decide_eq_true h3]; decide))
          refine aw_iload rfl rfl ?_
          exact aw_iret rfl rfl ⟨rfl, rfl⟩
        · rw [hN, if_neg h3]
          refine aw_aload_n rfl rfl ?_
          refine aw_iV (q0 := 39) (ci := 12) rfl cw_X12_138 rfl rfl rfl (c_m_look hT hpE) rfl rfl (Nat.le_of_ble_eq_true rfl) (by decide) (by decide) (by decide) (by decide) ?_
          refine aw_istore_n rfl (by decide) ?_
          refine aw_aload_n rfl rfl ?_
          refine aw_iV (q0 := 39) (ci := 12) rfl cw_X12_168 rfl rfl rfl (c_m_isDigit hT hk.2.1) rfl rfl (Nat.le_of_ble_eq_true rfl) (by decide) (by decide) (by decide) (by decide) ?_
          refine aw_if_ne (tgt := 19) rfl (by decide) (fun h9 => ?_) (fun h9 => absurd h9 (by rw [h1]; decide))
          refine aw_iload_n rfl rfl ?_
          refine aw_bipush (v := 48) rfl (by decide) ?_
          refine aw_isub rfl ?_
          rw [hv1]
          refine aw_istore rfl (by decide) ?_
          refine aw_aload_n rfl rfl ?_
          refine aw_dup rfl rfl ?_
          refine pg_39_10 rfl kl_X12_119 ?_
          refine aw_iconst (v := 1) rfl (by decide) ?_
          refine aw_iadd rfl ?_
          refine pp_39_10 rfl kl_X12_119 ?_
          refine aw_eqs (ws' := hp g (pst s ((skw tx E p) + 1) w (-1)) n) ?_ rfl rfl (congrArg (fun z => hp g z n) pst_in)
          refine aw_aload_n rfl rfl ?_
          refine aw_iV (q0 := 39) (ci := 12) rfl cw_X12_168 rfl rfl rfl (c_m_isDigit hT hq1) rfl rfl (Nat.le_of_ble_eq_true rfl) (by decide) (by decide) (by decide) (by decide) ?_
          refine aw_if_eq (tgt := 67) rfl (by decide) (fun h39 => absurd h39 (by rw [h2]; decide)) (fun h39 => ?_)
          refine aw_bipush (v := 10) rfl (by decide) ?_
          refine aw_iload rfl rfl ?_
          refine aw_imul rfl ?_
          refine aw_aload_n rfl rfl ?_
          refine aw_iV (q0 := 39) (ci := 12) rfl cw_X12_214 rfl rfl rfl (c_m_here hT hq1) rfl rfl (Nat.le_of_ble_eq_true rfl) (by decide) (by decide) (by decide) (by decide) ?_
          refine aw_iadd rfl ?_
          refine aw_bipush (v := 48) rfl (by decide) ?_
          refine aw_isub rfl ?_
          rw [hv2]
          refine aw_istore rfl (by decide) ?_
          refine aw_aload_n rfl rfl ?_
          refine aw_dup rfl rfl ?_
          refine pg_39_10 rfl kl_X12_119 ?_
          refine aw_iconst (v := 1) rfl (by decide) ?_
          refine aw_iadd rfl ?_
          refine pp_39_10 rfl kl_X12_119 ?_
          refine aw_eqs (ws' := hp g (pst s ((skw tx E p + 1) + 1) w (-1)) n) ?_ rfl rfl (congrArg (fun z => hp g z n) pst_in)
          refine aw_aload_n rfl rfl ?_
          refine aw_iV (q0 := 39) (ci := 12) rfl cw_X12_168 rfl rfl rfl (c_m_isDigit hT hq2) rfl rfl (Nat.le_of_ble_eq_true rfl) (by decide) (by decide) (by decide) (by decide) ?_
          refine aw_if_eq (tgt := 81) rfl (by decide) (fun h71 => ?_) (fun h71 => absurd (by rw [h4]; rfl) h71)
          refine aw_iload rfl rfl ?_
          refine aw_i2l rfl ?_
          refine aw_iload_n rfl rfl ?_
          refine aw_i2l rfl ?_
          refine aw_iload_n rfl rfl ?_
          refine aw_i2l rfl ?_
          refine aw_iS rfl cw_X12_217 (c_m_isIn) rfl rfl (Nat.le_of_ble_eq_true rfl) (by decide) (by decide) (by decide) (by decide) ?_
          refine aw_if_ne (tgt := 109) rfl (by decide) (fun h91 => absurd (by rw [hin, decide_eq_false h3]; rfl) h91) (fun h91 => ?_)
          refine aw_aload_n rfl rfl ?_
          refine aw_dup rfl rfl ?_
          refine pg_39_10 rfl kl_X12_119 ?_
          refine aw_iconst (v := 1) rfl (by decide) ?_
          refine aw_isub rfl ?_
          refine pp_39_10 rfl kl_X12_119 ?_
          refine aw_eqs (ws' := hp g (pst s (skw tx E p + 1) w (-1)) n) ?_ rfl rfl (congrArg (fun z => hp g z n) (show up (pst s ((skw tx E p + 1) + 1) w (-1)) 39 10 (nI ((skw tx E p + 1) + 1) - 1) = _ from by (rw [nI_m1 (by omega), Nat.add_sub_cancel, pst_10])))
          refine aw_aload_n rfl rfl ?_
          refine aw_iV (q0 := 39) (ci := 12) rfl cw_X12_134 rfl rfl rfl (c_m_fails) rfl rfl (Nat.le_of_ble_eq_true rfl) (by decide) (by decide) (by decide) (by decide) ?_
          refine aw_pop rfl rfl ?_
          refine aw_iload rfl rfl ?_
          exact aw_iret rfl rfl ⟨_, rfl, rfl⟩
def msO (d x : Int32) : Int32 := if d = 115 then (if x = 0 then 99 else if x = 1 then 40 else 9) else if d = 116 then (if x = 0 then 4 else if x = 1 then 40 else 9) else 9
def usO (d x : Int32) : Int32 := if d = 115 then (if x = 0 then 20 else if x = 1 then 10 else 2) else if d = 114 then 3 else if x = 0 then 0 else if x = 1 then 15 else if x = 2 then 3 else if x = 3 then 2 else 1
set_option maxRecDepth 4000 in
theorem c_m_mostOf {l : Launch} {g : ag_G} {s : am_S} {n : am_N} {d x : Int32} : aw_F l g mi_X12_mostOf 0 [.int d, .int x] (hp g s n) (.int (msO d x)) (hp g s n) := by
  refine aw_F_of mo_X12_mostOf (by decide) (Nat.le_of_ble_eq_true rfl) ?_
  refine aw_iload_n rfl rfl ?_
  refine aw_bipush (v := 115) rfl (by decide) ?_
  refine aw_icmp_ne (tgt := 28) rfl (by decide) (fun h3 => ?_) (fun h3 => ?_)
  · refine aw_iload_n rfl rfl ?_
    refine aw_bipush (v := 116) rfl (by decide) ?_
    refine aw_icmp_ne (tgt := 55) rfl (by decide) (fun h31 => ?_) (fun h31 => ?_)
    · refine aw_bipush (v := 9) rfl (by decide) ?_
      exact aw_fi rfl rfl (by simp_all [msO]) rfl
    · refine aw_iload_n rfl rfl ?_
      refine aw_if_ne (tgt := 42) rfl (by decide) (fun h35 => ?_) (fun h35 => ?_)
      · refine aw_iload_n rfl rfl ?_
        refine aw_iconst (v := 1) rfl (by decide) ?_
        refine aw_icmp_ne (tgt := 52) rfl (by decide) (fun h44 => ?_) (fun h44 => ?_)
        · refine aw_bipush (v := 9) rfl (by decide) ?_
          exact aw_fi rfl rfl (by simp_all [msO]) rfl
        · refine aw_bipush (v := 40) rfl (by decide) ?_
          refine aw_goto (tgt := 54) rfl (by decide) ?_
          exact aw_fi rfl rfl (by simp_all [msO]) rfl
      · refine aw_iconst (v := 4) rfl (by decide) ?_
        refine aw_goto (tgt := 54) rfl (by decide) ?_
        exact aw_fi rfl rfl (by simp_all [msO]) rfl
  · refine aw_iload_n rfl rfl ?_
    refine aw_if_ne (tgt := 15) rfl (by decide) (fun h7 => ?_) (fun h7 => ?_)
    · refine aw_iload_n rfl rfl ?_
      refine aw_iconst (v := 1) rfl (by decide) ?_
      refine aw_icmp_ne (tgt := 25) rfl (by decide) (fun h17 => ?_) (fun h17 => ?_)
      · refine aw_bipush (v := 9) rfl (by decide) ?_
        exact aw_fi rfl rfl (by simp_all [msO]) rfl
      · refine aw_bipush (v := 40) rfl (by decide) ?_
        refine aw_goto (tgt := 27) rfl (by decide) ?_
        exact aw_fi rfl rfl (by simp_all [msO]) rfl
    · refine aw_bipush (v := 99) rfl (by decide) ?_
      refine aw_goto (tgt := 27) rfl (by decide) ?_
      exact aw_fi rfl rfl (by simp_all [msO]) rfl
set_option maxRecDepth 4000 in
theorem c_m_usual {l : Launch} {g : ag_G} {s : am_S} {n : am_N} {d x : Int32} : aw_F l g mi_X12_usual 0 [.int d, .int x] (hp g s n) (.int (usO d x)) (hp g s n) := by
  refine aw_F_of mo_X12_usual (by decide) (Nat.le_of_ble_eq_true rfl) ?_
  refine aw_iload_n rfl rfl ?_
  refine aw_bipush (v := 115) rfl (by decide) ?_
  refine aw_icmp_ne (tgt := 27) rfl (by decide) (fun h3 => ?_) (fun h3 => ?_)
  · refine aw_iload_n rfl rfl ?_
    refine aw_bipush (v := 114) rfl (by decide) ?_
    refine aw_icmp_ne (tgt := 35) rfl (by decide) (fun h30 => ?_) (fun h30 => ?_)
    · refine aw_iload_n rfl rfl ?_
      refine aw_if_ne (tgt := 43) rfl (by decide) (fun h36 => ?_) (fun h36 => ?_)
      · refine aw_iload_n rfl rfl ?_
        refine aw_iconst (v := 1) rfl (by decide) ?_
        refine aw_icmp_ne (tgt := 53) rfl (by decide) (fun h45 => ?_) (fun h45 => ?_)
        · refine aw_iload_n rfl rfl ?_
          refine aw_iconst (v := 2) rfl (by decide) ?_
          refine aw_icmp_ne (tgt := 62) rfl (by decide) (fun h55 => ?_) (fun h55 => ?_)
          · refine aw_iload_n rfl rfl ?_
            refine aw_iconst (v := 3) rfl (by decide) ?_
            refine aw_icmp_ne (tgt := 71) rfl (by decide) (fun h64 => ?_) (fun h64 => ?_)
            · refine aw_iconst (v := 1) rfl (by decide) ?_
              exact aw_fi rfl rfl (by simp_all [usO]) rfl
            · refine aw_iconst (v := 2) rfl (by decide) ?_
              refine aw_goto (tgt := 72) rfl (by decide) ?_
              exact aw_fi rfl rfl (by simp_all [usO]) rfl
          · refine aw_iconst (v := 3) rfl (by decide) ?_
            refine aw_goto (tgt := 72) rfl (by decide) ?_
            exact aw_fi rfl rfl (by simp_all [usO]) rfl
        · refine aw_bipush (v := 15) rfl (by decide) ?_
          refine aw_goto (tgt := 72) rfl (by decide) ?_
          exact aw_fi rfl rfl (by simp_all [usO]) rfl
      · refine aw_iconst (v := 0) rfl (by decide) ?_
        refine aw_goto (tgt := 72) rfl (by decide) ?_
        exact aw_fi rfl rfl (by simp_all [usO]) rfl
    · refine aw_iconst (v := 3) rfl (by decide) ?_
      exact aw_fi rfl rfl (by simp_all [usO]) rfl
  · refine aw_iload_n rfl rfl ?_
    refine aw_if_ne (tgt := 15) rfl (by decide) (fun h7 => ?_) (fun h7 => ?_)
    · refine aw_iload_n rfl rfl ?_
      refine aw_iconst (v := 1) rfl (by decide) ?_
      refine aw_icmp_ne (tgt := 25) rfl (by decide) (fun h17 => ?_) (fun h17 => ?_)
      · refine aw_iconst (v := 2) rfl (by decide) ?_
        exact aw_fi rfl rfl (by simp_all [usO]) rfl
      · refine aw_bipush (v := 10) rfl (by decide) ?_
        refine aw_goto (tgt := 26) rfl (by decide) ?_
        exact aw_fi rfl rfl (by simp_all [usO]) rfl
    · refine aw_bipush (v := 20) rfl (by decide) ?_
      refine aw_goto (tgt := 26) rfl (by decide) ?_
      exact aw_fi rfl rfl (by simp_all [usO]) rfl
def dg1 (tx : Nat → Nat) (E p : Nat) : Except Nat (Nat × Nat) := if dg tx E (skw tx E p) = true then .ok (skw tx E p + 1, tx (skw tx E p) - 48) else .error (skw tx E p)
set_option maxRecDepth 4000 in
theorem c_m_digit {l : Launch} {g : ag_G} {s : am_S} {n : am_N} {B b E p w : Nat} {tx : Nat → Nat} (hT : TX s n B b E tx) (hpE : p ≤ E) : aw_M l g mi_X12_digit 1 0 0 [.ref (g_ad g 39)] (hp g (pst s p w (-1)) n) (PD2 g s n w (dg1 tx E p)) := by
  have hE := hT.2.2.2.1
  have hk := skw_b (tx := tx) hpE
  refine aw_M_of mo_X12_digit (by decide) (Nat.le_of_ble_eq_true rfl) ?_
  cases h1 : dg tx E (skw tx E p) with
  | false =>
    rw [show dg1 tx E p = .error (skw tx E p) from by (unfold dg1; rw [if_neg (by rw [h1]; exact Bool.false_ne_true)])]
    refine aw_aload_n rfl rfl ?_
    refine aw_iV (q0 := 39) (ci := 12) rfl cw_X12_138 rfl rfl rfl (c_m_look hT hpE) rfl rfl (Nat.le_of_ble_eq_true rfl) (by decide) (by decide) (by decide) (by decide) ?_
    refine aw_istore_n rfl (by decide) ?_
    refine aw_aload_n rfl rfl ?_
    refine aw_iV (q0 := 39) (ci := 12) rfl cw_X12_168 rfl rfl rfl (c_m_isDigit hT hk.2.1) rfl rfl (Nat.le_of_ble_eq_true rfl) (by decide) (by decide) (by decide) (by decide) ?_
    refine aw_if_ne (tgt := 19) rfl (by decide) (fun h9 => absurd (by rw [h1]; rfl) h9) (fun h9 => ?_)
    refine aw_aload_n rfl rfl ?_
    refine aw_iV (q0 := 39) (ci := 12) rfl cw_X12_134 rfl rfl rfl (c_m_fails) rfl rfl (Nat.le_of_ble_eq_true rfl) (by decide) (by decide) (by decide) (by decide) ?_
    refine aw_pop rfl rfl ?_
    refine aw_iconst (v := 0) rfl (by decide) ?_
    exact aw_iret rfl rfl ⟨_, rfl, rfl⟩
  | true =>
    have c1 := cv_dg h1
    have hv1 : cv tx E (skw tx E p) - 48 = nI (tx (skw tx E p) - 48) := by rw [c1.1]; exact nI_s48 c1.2.1
    rw [show dg1 tx E p = .ok (skw tx E p + 1, tx (skw tx E p) - 48) from by (unfold dg1; rw [if_pos h1])]
    refine aw_aload_n rfl rfl ?_
    refine aw_iV (q0 := 39) (ci := 12) rfl cw_X12_138 rfl rfl rfl (c_m_look hT hpE) rfl rfl (Nat.le_of_ble_eq_true rfl) (by decide) (by decide) (by decide) (by decide) ?_
    refine aw_istore_n rfl (by decide) ?_
    refine aw_aload_n rfl rfl ?_
    refine aw_iV (q0 := 39) (ci := 12) rfl cw_X12_168 rfl rfl rfl (c_m_isDigit hT hk.2.1) rfl rfl (Nat.le_of_ble_eq_true rfl) (by decide) (by decide) (by decide) (by decide) ?_
    refine aw_if_ne (tgt := 19) rfl (by decide) (fun h9 => ?_) (fun h9 => absurd h9 (by rw [h1]; decide))
    refine aw_aload_n rfl rfl ?_
    refine aw_dup rfl rfl ?_
    refine pg_39_10 rfl kl_X12_119 ?_
    refine aw_iconst (v := 1) rfl (by decide) ?_
    refine aw_iadd rfl ?_
    refine pp_39_10 rfl kl_X12_119 ?_
    refine aw_eqs (ws' := hp g (pst s ((skw tx E p) + 1) w (-1)) n) ?_ rfl rfl (congrArg (fun z => hp g z n) pst_in)
    refine aw_iload_n rfl rfl ?_
    refine aw_bipush (v := 48) rfl (by decide) ?_
    refine aw_isub rfl ?_
    rw [hv1]
    exact aw_iret rfl rfl ⟨rfl, rfl⟩
