/-! the class: fault and text -/
def skL : Nat → Nat → Bool := fun k j => Nat.beq k 4 || (Nat.beq k 5 || (Nat.beq k 7 || (Nat.beq k 9 || (Nat.beq k 1 && Nat.beq j 2 || (Nat.beq k 6 && Nat.beq j 2 || (Nat.beq k 8 && Nat.beq j 2))))))
theorem eo_lm {s : am_S} {a K : Nat} {F : Nat → Int32} : eo skL s (lm s a F K) := eo_upI rfl (eo_upI rfl (eo_upRK (fun _ => rfl) eo_rf))
theorem eo_km {s : am_S} {a : Nat} {R C : Nat → Int32} : eo skL s (km s a R C) := eo_upI rfl (eo_upRK (fun _ => rfl) (eo_upRK (fun _ => rfl) eo_rf))
theorem eo_rM {s : am_S} {a : Nat} {P : Nat → Int32} {t : Int32} : eo skL s (rM s a P t) := eo_upI rfl (eo_upI rfl (eo_upRK (fun _ => rfl) eo_rf))
theorem inn2_no {x : Int32} (h0 : ¬ x = 0) (h1 : ¬ x = 1) (h2 : ¬ x = 2) : inn x.toInt64 0 2 = false := by
  rw [inn_i (A := 0) (B := 2) (by decide) (by decide)]
  have e0 := ne_toInt h0 (i := 0) (by decide)
  have e1 := ne_toInt h1 (i := 1) (by decide)
  have e2 := ne_toInt h2 (i := 2) (by decide)
  rw [Bool.and_eq_false_iff, decide_eq_false_iff_not, decide_eq_false_iff_not]
  omega
theorem fVal_0 {tx : Nat → Nat} {E : Nat} {r1 : Rl} : fVal tx E r1 0 = exI (kgR tx E) := rfl
theorem fVal_1 {tx : Nat → Nat} {E : Nat} {r1 : Rl} : fVal tx E r1 1 = exI r1 := rfl
theorem fVal_2 {tx : Nat → Nat} {E : Nat} {r1 : Rl} : fVal tx E r1 2 = exI (rgR tx E) := rfl
theorem fVal_n {tx : Nat → Nat} {E : Nat} {r1 : Rl} {x : Int32} (h0 : ¬ x = 0) (h1 : ¬ x = 1) (h2 : ¬ x = 2) : fVal tx E r1 x = -2 := by
  unfold fVal
  rw [if_neg (by rw [inn2_no h0 h1 h2]; exact Bool.false_ne_true)]
set_option maxRecDepth 4000 in
theorem c_X11_fault {l : Launch} {g : ag_G} {s : am_S} {n : am_N} {E : Nat} {tx : Nat → Nat} (hx : aw_hx g) (hT : CT s E tx) {r1 : Rl} (hr1 : LW tx E r1) {x : Int32} : aw_M l g mi_X11_fault 29 0 0 [.ref (g_ad g 0), .int x] (hp g s n) (fun r z => r = some (.int (fVal tx E r1 x)) ∧ ∃ s', z = hp g s' n ∧ eo skL s s') := by
  refine aw_M_of mo_X11_fault (by decide) (Nat.le_of_ble_eq_true rfl) ?_
  refine aw_iload_n rfl rfl ?_
  refine aw_sw 0 (fun h1_0 => ?_) (fun h1_0 => ?_)
  · refine aw_tabIn (off := 27) (tgt := 28) rfl (by decide) (by decide) (by decide) (by decide) ?_
    refine aw_aload_n rfl rfl ?_
    refine pg_0_1 rfl kl_X11_21 ?_
    subst h1_0
    refine aw_callV (q0 := 3) (ci := 4) rfl cw_X11_110 rfl rfl rfl (c_X4_reads hx hT) rfl rfl (Nat.le_of_ble_eq_true rfl) (by decide) (by decide) (by decide) (by decide) (fun o y hy => ?_)
    cases hz : kgR tx E with
    | ok z =>
      rw [hz] at hy
      obtain ⟨rfl, a, R, C, rfl, hK⟩ := hy
      refine aw_istore_n rfl (by decide) ?_
      refine aw_goto (tgt := 64) rfl (by decide) ?_
      refine aw_iload_n rfl rfl ?_
      refine aw_if_eq (tgt := 72) rfl (by decide) (fun h65 => absurd h65 (by decide)) (fun h65 => ?_)
      refine aw_iconst (v := -1) rfl (by decide) ?_
      refine aw_goto (tgt := 79) rfl (by decide) ?_
      exact aw_iret rfl rfl ⟨congrArg (fun x => some (Value.int x)) (by first | (rw [fVal_0, hz]; rfl) | (rw [fVal_0]; rfl)), _, rfl, eo_km⟩
    | error e =>
      rw [hz] at hy
      obtain ⟨rfl, R, C, rfl⟩ := hy
      refine aw_istore_n rfl (by decide) ?_
      refine aw_goto (tgt := 64) rfl (by decide) ?_
      refine aw_iload_n rfl rfl ?_
      refine aw_if_eq (tgt := 72) rfl (by decide) (fun h65 => ?_) (fun h65 => absurd (rfl) h65)
      refine aw_aload_n rfl rfl ?_
      refine pg_0_0 rfl kl_X11_10 ?_
      refine pg_1_2 rfl kl_X11_116 ?_
      exact aw_iret rfl rfl ⟨congrArg (fun x => some (Value.int x)) (by first | (rw [fVal_0, hz]; rfl) | (rw [fVal_0]; rfl)), _, rfl, eo_km⟩
  · skip
    refine aw_sw 1 (fun h1_1 => ?_) (fun h1_1 => ?_)
    · refine aw_tabIn (off := 38) (tgt := 39) rfl (by decide) (by decide) (by decide) (by decide) ?_
      refine aw_aload_n rfl rfl ?_
      refine pg_0_2 rfl kl_X11_28 ?_
      subst h1_1
      refine aw_callV (q0 := 6) (ci := 5) rfl cw_X11_114 rfl rfl rfl (c_X5_reads hx hT hr1) rfl rfl (Nat.le_of_ble_eq_true rfl) (by decide) (by decide) (by decide) (by decide) (fun o y hy => ?_)
      cases hz : r1 with
      | ok z =>
        rw [hz] at hy
        obtain ⟨rfl, F, a, K, rfl, hK, hC⟩ := hy
        refine aw_istore_n rfl (by decide) ?_
        refine aw_goto (tgt := 64) rfl (by decide) ?_
        refine aw_iload_n rfl rfl ?_
        refine aw_if_eq (tgt := 72) rfl (by decide) (fun h65 => absurd h65 (by decide)) (fun h65 => ?_)
        refine aw_iconst (v := -1) rfl (by decide) ?_
        refine aw_goto (tgt := 79) rfl (by decide) ?_
        exact aw_iret rfl rfl ⟨congrArg (fun x => some (Value.int x)) (by first | (rw [fVal_1, hz]; rfl) | (rw [fVal_1]; rfl)), _, rfl, eo_lm⟩
      | error e =>
        rw [hz] at hy
        obtain ⟨rfl, F, K, rfl⟩ := hy
        refine aw_istore_n rfl (by decide) ?_
        refine aw_goto (tgt := 64) rfl (by decide) ?_
        refine aw_iload_n rfl rfl ?_
        refine aw_if_eq (tgt := 72) rfl (by decide) (fun h65 => ?_) (fun h65 => absurd (rfl) h65)
        refine aw_aload_n rfl rfl ?_
        refine pg_0_0 rfl kl_X11_10 ?_
        refine pg_1_2 rfl kl_X11_116 ?_
        exact aw_iret rfl rfl ⟨congrArg (fun x => some (Value.int x)) (by first | (rw [fVal_1, hz]; rfl) | (rw [fVal_1]; rfl)), _, rfl, eo_lm⟩
    · skip
      refine aw_sw 2 (fun h1_2 => ?_) (fun h1_2 => ?_)
      · refine aw_tabIn (off := 49) (tgt := 50) rfl (by decide) (by decide) (by decide) (by decide) ?_
        refine aw_aload_n rfl rfl ?_
        refine pg_0_3 rfl kl_X11_35 ?_
        subst h1_2
        refine aw_callV (q0 := 8) (ci := 9) rfl cw_X11_115 rfl rfl rfl (c_X9_readsG hx hT) rfl rfl (Nat.le_of_ble_eq_true rfl) (by decide) (by decide) (by decide) (by decide) (fun o y hy => ?_)
        cases hz : rgR tx E with
        | ok z =>
          rw [hz] at hy
          obtain ⟨rfl, a, P, rfl, hz6, hP⟩ := hy
          refine aw_istore_n rfl (by decide) ?_
          refine aw_goto (tgt := 64) rfl (by decide) ?_
          refine aw_iload_n rfl rfl ?_
          refine aw_if_eq (tgt := 72) rfl (by decide) (fun h65 => absurd h65 (by decide)) (fun h65 => ?_)
          refine aw_iconst (v := -1) rfl (by decide) ?_
          refine aw_goto (tgt := 79) rfl (by decide) ?_
          exact aw_iret rfl rfl ⟨congrArg (fun x => some (Value.int x)) (by first | (rw [fVal_2, hz]; rfl) | (rw [fVal_2]; rfl)), _, rfl, eo_rM⟩
        | error e =>
          rw [hz] at hy
          obtain ⟨rfl, P, t, rfl⟩ := hy
          refine aw_istore_n rfl (by decide) ?_
          refine aw_goto (tgt := 64) rfl (by decide) ?_
          refine aw_iload_n rfl rfl ?_
          refine aw_if_eq (tgt := 72) rfl (by decide) (fun h65 => ?_) (fun h65 => absurd (rfl) h65)
          refine aw_aload_n rfl rfl ?_
          refine pg_0_0 rfl kl_X11_10 ?_
          refine pg_1_2 rfl kl_X11_116 ?_
          exact aw_iret rfl rfl ⟨congrArg (fun x => some (Value.int x)) (by first | (rw [fVal_2, hz]; rfl) | (rw [fVal_2]; rfl)), _, rfl, eo_rM⟩
      · skip
        refine aw_tabOut (tgt := 61) rfl (by have e0 := ne_toInt h1_0 (i := 0) (by decide); have e1 := ne_toInt h1_1 (i := 1) (by decide); have e2 := ne_toInt h1_2 (i := 2) (by decide); omega) (by decide) ?_
        refine aw_bipush (v := -2) rfl (by decide) ?_
        exact aw_iret rfl rfl ⟨congrArg (fun x => some (Value.int x)) (fVal_n h1_0 h1_1 h1_2).symm, s, rfl, eo_rf⟩
set_option maxRecDepth 4000 in
theorem c_X11_text_no {l : Launch} {g : ag_G} {s : am_S} {n : am_N} {E : Nat} {tx : Nat → Nat} (hx : aw_hx g) (hT : CT s E tx) {r1 : Rl} (hr1 : LW tx E r1) {x : Int32} {N P : Nat} (hN : s 10 3 = nI N) (hN4 : N ≤ 4) (hP : s 0 6 = nI P) (hP4 : P ≤ 4) (hno : ¬ (inn x.toInt64 0 2 = true ∧ (x = 1 → ¬ N = 4) ∧ (x = 2 → ¬ P = 4) ∧ fVal tx E r1 x = -1)) : aw_M l g mi_X11_text 30 1 240 [.ref (g_ad g 0), .int x] (hp g s n) (fun r z => r = some (.int (-1)) ∧ ∃ s', z = hp g s' n ∧ eo skL s s') := by
  refine aw_M_of mo_X11_text (by decide) (Nat.le_of_ble_eq_true rfl) ?_
  refine aw_iload_n rfl rfl ?_
  refine aw_sw 0 (fun h1_0 => ?_) (fun h1_0 => ?_)
  · refine aw_tabIn (off := 27) (tgt := 28) rfl (by decide) (by decide) (by decide) (by decide) ?_
    refine aw_aload_n rfl rfl ?_
    refine pg_0_1 rfl kl_X11_21 ?_
    subst h1_0
    refine aw_callV (q0 := 3) (ci := 4) rfl cw_X11_110 rfl rfl rfl (c_X4_reads hx hT) rfl rfl (Nat.le_of_ble_eq_true rfl) (by decide) (by decide) (by decide) (by decide) (fun o y hy => ?_)
    cases hz : kgR tx E with
    | ok z => exact absurd ⟨by decide, (fun e => absurd e (by decide)), (fun e => absurd e (by decide)), by rw [fVal_0, hz]; rfl⟩ hno
    | error e =>
      rw [hz] at hy
      obtain ⟨rfl, R, C, rfl⟩ := hy
      refine aw_if_ne (tgt := 40) rfl (by decide) (fun h35 => absurd (rfl) h35) (fun h35 => ?_)
      refine aw_iconst (v := -1) rfl (by decide) ?_
      refine aw_widen (c' := 1) (s' := 240) (by decide) (by decide) ?_
      exact aw_iret rfl rfl ⟨rfl, _, rfl, eo_km⟩
  · skip
    refine aw_sw 1 (fun h1_1 => ?_) (fun h1_1 => ?_)
    · refine aw_tabIn (off := 59) (tgt := 60) rfl (by decide) (by decide) (by decide) (by decide) ?_
      refine aw_aload_n rfl rfl ?_
      refine pg_0_4 rfl kl_X11_42 ?_
      refine pg_10_3 rfl kl_X11_125 ?_
      refine aw_iconst (v := 4) rfl (by decide) ?_
      refine aw_icmp_ge (tgt := 81) rfl (by decide) (fun h68 => ?_) (fun h68 => ?_)
      · refine aw_iconst (v := -1) rfl (by decide) ?_
        refine aw_widen (c' := 1) (s' := 240) (by decide) (by decide) ?_
        exact aw_iret rfl rfl ⟨rfl, _, rfl, eo_rf⟩
      · refine aw_aload_n rfl rfl ?_
        refine pg_0_2 rfl kl_X11_28 ?_
        subst h1_1
        have hfull : ¬ N = 4 := fun e => h68 (by rw [show s 10 3 = nI N from hN, e]; exact nI_le (a := 4) (Nat.le_refl _) (by decide))
        refine aw_callV (q0 := 6) (ci := 5) rfl cw_X11_114 rfl rfl rfl (c_X5_reads hx hT hr1) rfl rfl (Nat.le_of_ble_eq_true rfl) (by decide) (by decide) (by decide) (by decide) (fun o y hy => ?_)
        cases hz : r1 with
        | ok z => exact absurd ⟨by decide, (fun e => hfull), (fun e => absurd e (by decide)), by rw [fVal_1, hz]; rfl⟩ hno
        | error e =>
          rw [hz] at hy
          obtain ⟨rfl, F, K, rfl⟩ := hy
          refine aw_if_ne (tgt := 83) rfl (by decide) (fun h78 => absurd (rfl) h78) (fun h78 => ?_)
          refine aw_iconst (v := -1) rfl (by decide) ?_
          refine aw_widen (c' := 1) (s' := 240) (by decide) (by decide) ?_
          exact aw_iret rfl rfl ⟨rfl, _, rfl, eo_lm⟩
    · skip
      refine aw_sw 2 (fun h1_2 => ?_) (fun h1_2 => ?_)
      · refine aw_tabIn (off := 102) (tgt := 103) rfl (by decide) (by decide) (by decide) (by decide) ?_
        refine aw_aload_n rfl rfl ?_
        refine pg_0_6 rfl kl_X11_131 ?_
        refine aw_iconst (v := 4) rfl (by decide) ?_
        refine aw_icmp_ge (tgt := 121) rfl (by decide) (fun h108 => ?_) (fun h108 => ?_)
        · refine aw_iconst (v := -1) rfl (by decide) ?_
          refine aw_widen (c' := 1) (s' := 240) (by decide) (by decide) ?_
          exact aw_iret rfl rfl ⟨rfl, _, rfl, eo_rf⟩
        · refine aw_aload_n rfl rfl ?_
          refine pg_0_3 rfl kl_X11_35 ?_
          subst h1_2
          have hfull : ¬ P = 4 := fun e => h108 (by rw [show s 0 6 = nI P from hP, e]; exact nI_le (a := 4) (Nat.le_refl _) (by decide))
          refine aw_callV (q0 := 8) (ci := 9) rfl cw_X11_115 rfl rfl rfl (c_X9_readsG hx hT) rfl rfl (Nat.le_of_ble_eq_true rfl) (by decide) (by decide) (by decide) (by decide) (fun o y hy => ?_)
          cases hz : rgR tx E with
          | ok z => exact absurd ⟨by decide, (fun e => absurd e (by decide)), (fun e => hfull), by rw [fVal_2, hz]; rfl⟩ hno
          | error e =>
            rw [hz] at hy
            obtain ⟨rfl, Q, t, rfl⟩ := hy
            refine aw_if_ne (tgt := 123) rfl (by decide) (fun h118 => absurd (rfl) h118) (fun h118 => ?_)
            refine aw_iconst (v := -1) rfl (by decide) ?_
            refine aw_widen (c' := 1) (s' := 240) (by decide) (by decide) ?_
            exact aw_iret rfl rfl ⟨rfl, _, rfl, eo_rM⟩
      · skip
        refine aw_tabOut (tgt := 164) rfl (by have e0 := ne_toInt h1_0 (i := 0) (by decide); have e1 := ne_toInt h1_1 (i := 1) (by decide); have e2 := ne_toInt h1_2 (i := 2) (by decide); omega) (by decide) ?_
        refine aw_iconst (v := -1) rfl (by decide) ?_
        refine aw_widen (c' := 1) (s' := 240) (by decide) (by decide) ?_
        exact aw_iret rfl rfl ⟨rfl, _, rfl, eo_rf⟩
set_option maxRecDepth 4000 in
theorem c_X11_text_king {l : Launch} {g : ag_G} {s : am_S} {n : am_N} {E : Nat} {tx : Nat → Nat} (hx : aw_hx g) (hT : CT s E tx) {r1 : Rl} (hr1 : LW tx E r1) {K : Kd} (hf : kgR tx E = .ok K) : aw_M l g mi_X11_text 30 1 240 [.ref (g_ad g 0), .int 0] (hp g s n) (fun r z => r = some (.int (nI K.2.1)) ∧ ∃ s', z = hp g (up (bgS s' K.2.1 K.2.2.1) 1 1 0) n ∧ eo skL s s' ∧ KC K (s' 4) (s' 5)) := by
  have hrd := c_X4_reads (l := l) (g := g) (n := n) hx hT
  rw [hf] at hrd
  refine aw_M_of mo_X11_text (by decide) (Nat.le_of_ble_eq_true rfl) ?_
  refine aw_iload_n rfl rfl ?_
  refine aw_tabIn (off := 27) (tgt := 28) rfl (by decide) (by decide) (by decide) (by decide) ?_
  refine aw_aload_n rfl rfl ?_
  refine pg_0_1 rfl kl_X11_21 ?_
  refine aw_callV (q0 := 3) (ci := 4) rfl cw_X11_110 rfl rfl rfl (hrd) rfl rfl (Nat.le_of_ble_eq_true rfl) (by decide) (by decide) (by decide) (by decide) (fun o y hy => ?_)
  obtain ⟨rfl, a, R, C, rfl, hK⟩ := hy
  refine aw_if_ne (tgt := 40) rfl (by decide) (fun h35 => ?_) (fun h35 => absurd h35 (by decide))
  refine aw_aload_n rfl rfl ?_
  refine aw_vV (q0 := 0) (ci := 11) rfl cw_X11_119 rfl rfl rfl (c_X11_beginsKingdom hx hK.2.1 hK.2.2.1 hK.2.2.2.1 hK.2.2.2.2.1) rfl rfl (Nat.le_of_ble_eq_true rfl) (by decide) (by decide) (by decide) (by decide) ?_
  refine aw_aload_n rfl rfl ?_
  refine pg_0_0 rfl kl_X11_10 ?_
  refine aw_iconst (v := 0) rfl (by decide) ?_
  refine pp_1_1 rfl kl_X11_102 ?_
  refine aw_aload_n rfl rfl ?_
  refine pg_0_8 rfl kl_X11_57 ?_
  refine pg_15_6 rfl kl_X11_122 ?_
  refine aw_widen (c' := 1) (s' := 240) (by decide) (by decide) ?_
  exact aw_iret rfl rfl ⟨rfl, _, rfl, eo_km, hK⟩
set_option maxRecDepth 4000 in
theorem c_X11_text_law {l : Launch} {g : ag_G} {s : am_S} {n : am_N} {E : Nat} {tx : Nat → Nat} (hx : aw_hx g) (hz : aw_hz g) (hT : CT s E tx) {L : List (Ex × Ex)} (hr1 : LW tx E (.ok L)) {N : Nat} (hN : s 10 3 = nI N) (hN4 : N < 4) : aw_M l g mi_X11_text 30 1 240 [.ref (g_ad g 0), .int 1] (hp g s n) (fun r z => r = some (.int (nI N)) ∧ ∃ s' q f K, z = hp g (up (up s' 1 1 0) 10 3 (nI (N + 1))) (upQ (upW n (n.2.2.2 ++ [(q, .inl (g_ca g 0, K, .inl f))])) 11 N (some q)) ∧ eo skL s s' ∧ K ≤ 240 ∧ CL f 0 L K) := by
  refine aw_M_of mo_X11_text (by decide) (Nat.le_of_ble_eq_true rfl) ?_
  refine aw_iload_n rfl rfl ?_
  refine aw_tabIn (off := 59) (tgt := 60) rfl (by decide) (by decide) (by decide) (by decide) ?_
  refine aw_aload_n rfl rfl ?_
  refine pg_0_4 rfl kl_X11_42 ?_
  refine pg_10_3 rfl kl_X11_125 ?_
  refine aw_iconst (v := 4) rfl (by decide) ?_
  refine aw_icmp_ge (tgt := 81) rfl (by decide) (fun h68 => absurd h68 (by rw [hN]; exact nI_ge (b := 4) hN4 (by decide))) (fun h68 => ?_)
  refine aw_aload_n rfl rfl ?_
  refine pg_0_2 rfl kl_X11_28 ?_
  refine aw_callV (q0 := 6) (ci := 5) rfl cw_X11_114 rfl rfl rfl (c_X5_reads hx hT hr1) rfl rfl (Nat.le_of_ble_eq_true rfl) (by decide) (by decide) (by decide) (by decide) (fun o y hy => ?_)
  obtain ⟨rfl, F, a, K, rfl, hK, hC⟩ := hy
  refine aw_if_ne (tgt := 83) rfl (by decide) (fun h78 => ?_) (fun h78 => absurd h78 (by decide))
  refine aw_aload_n rfl rfl ?_
  refine pg_0_0 rfl kl_X11_10 ?_
  refine aw_iconst (v := 0) rfl (by decide) ?_
  refine pp_1_1 rfl kl_X11_102 ?_
  refine aw_aload_n rfl rfl ?_
  refine pg_0_4 rfl kl_X11_42 ?_
  refine aw_aload_n rfl rfl ?_
  refine pg_0_2 rfl kl_X11_28 ?_
  refine aw_callV (q0 := 10) (ci := 6) rfl cw_X11_128 rfl rfl rfl (c_X6_adds hz (K := K) (N := N) rfl hK hN hN4) rfl rfl (Nat.le_of_ble_eq_true rfl) (by decide) (by decide) (by decide) (by decide) (fun o y hy => ?_)
  obtain ⟨q, f', rfl, rfl, hf⟩ := hy
  exact aw_iret rfl rfl ⟨rfl, _, q, f', K, rfl, eo_lm, hK, CL_c L 0 K hC hf⟩
set_option maxRecDepth 4000 in
theorem c_X11_text_reign {l : Launch} {g : ag_G} {s : am_S} {n : am_N} {E : Nat} {tx : Nat → Nat} (hx : aw_hx g) (hz : aw_hz g) (hT : CT s E tx) {z0 : Nat × (Nat → Int32)} (hf : rgR tx E = .ok z0) {P : Nat} (hP : s 0 6 = nI P) (hP4 : P < 4) : aw_M l g mi_X11_text 30 1 240 [.ref (g_ad g 0), .int 2] (hp g s n) (fun r z => r = some (.int (nI P)) ∧ ∃ s' q f, z = hp g (up (up s' 1 1 0) 0 6 (nI (P + 1))) (upQ (upW n (n.2.2.2 ++ [(q, .inl (g_ca g 0, 3 * z0.1, .inl f))])) 14 P (some q)) ∧ eo skL s s' ∧ z0.1 ≤ 16 ∧ ∀ j, j < 3 * z0.1 → f j = z0.2 j) := by
  have hrd := c_X9_readsG (l := l) (g := g) (n := n) hx hT
  rw [hf] at hrd
  refine aw_M_of mo_X11_text (by decide) (Nat.le_of_ble_eq_true rfl) ?_
  refine aw_iload_n rfl rfl ?_
  refine aw_tabIn (off := 102) (tgt := 103) rfl (by decide) (by decide) (by decide) (by decide) ?_
  refine aw_aload_n rfl rfl ?_
  refine pg_0_6 rfl kl_X11_131 ?_
  refine aw_iconst (v := 4) rfl (by decide) ?_
  refine aw_icmp_ge (tgt := 121) rfl (by decide) (fun h108 => absurd h108 (by rw [hP]; exact nI_ge (b := 4) hP4 (by decide))) (fun h108 => ?_)
  refine aw_aload_n rfl rfl ?_
  refine pg_0_3 rfl kl_X11_35 ?_
  refine aw_callV (q0 := 8) (ci := 9) rfl cw_X11_115 rfl rfl rfl (hrd) rfl rfl (Nat.le_of_ble_eq_true rfl) (by decide) (by decide) (by decide) (by decide) (fun o y hy => ?_)
  obtain ⟨rfl, a, Pp, rfl, h16, hPp⟩ := hy
  refine aw_if_ne (tgt := 123) rfl (by decide) (fun h118 => ?_) (fun h118 => absurd h118 (by decide))
  refine aw_aload_n rfl rfl ?_
  refine pg_0_0 rfl kl_X11_10 ?_
  refine aw_iconst (v := 0) rfl (by decide) ?_
  refine pp_1_1 rfl kl_X11_102 ?_
  refine aw_aload_n rfl rfl ?_
  refine pg_0_5 rfl kl_X11_48 ?_
  refine aw_aload_n rfl rfl ?_
  refine pg_0_6 rfl kl_X11_131 ?_
  refine aw_aload_n rfl rfl ?_
  refine pg_0_3 rfl kl_X11_35 ?_
  refine aw_callV (q0 := 8) (ci := 9) rfl cw_X11_134 rfl rfl rfl (c_X9_copiesSteps hz (t := z0.1) rfl h16) rfl rfl (Nat.le_of_ble_eq_true rfl) (by decide) (by decide) (by decide) (by decide) (fun o y hy => ?_)
  obtain ⟨q, f', rfl, rfl, hf'⟩ := hy
  refine aw_aast (q0 := 14) (qk := n.2.2.2.length + 63) rfl rfl hz.2 (hp_x.trans (show (n.2.2.2 ++ [(q, _)])[n.2.2.2.length]? = some (q, Sum.inl (g_ca g 0, 3 * z0.1, Sum.inl f')) from apx_get)) hP (by omega) (by decide) (ws2 := hp g (up (rM s a Pp (nI z0.1)) 1 1 0) (upQ (upW n (n.2.2.2 ++ [(q, .inl (g_ca g 0, 3 * z0.1, .inl f'))])) 14 P (some q))) rfl ?_
  refine aw_aload_n rfl rfl ?_
  refine aw_dup rfl rfl ?_
  refine pg_0_6 rfl kl_X11_131 ?_
  refine aw_iconst (v := 1) rfl (by decide) ?_
  refine aw_iadd rfl ?_
  refine pp_0_6 rfl kl_X11_131 ?_
  refine aw_eqs (ws' := hp g (up (up (rM s a Pp (nI z0.1)) 1 1 0) 0 6 (nI (P + 1))) (upQ (upW n (n.2.2.2 ++ [(q, .inl (g_ca g 0, 3 * z0.1, .inl f'))])) 14 P (some q))) ?_ rfl rfl (congrArg (fun z => hp g z _) (by rw [show up (rM s a Pp (nI z0.1)) 1 1 0 0 6 = nI P from hP, nI_1]))
  refine aw_aload_n rfl rfl ?_
  refine pg_0_6 rfl kl_X11_131 ?_
  refine aw_iconst (v := 1) rfl (by decide) ?_
  refine aw_isub rfl ?_
  exact aw_iret rfl rfl ⟨congrArg (fun x => some (Value.int x)) (show nI (P + 1) - 1 = nI P from nI_pred P), _, q, f', rfl, eo_rM, h16, fun j hj => (hf' j hj).trans (hPp j hj)⟩
