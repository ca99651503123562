/-! the class reads a kingdom -/
theorem x0_k : ∀ k, k < 3 → xix 0 (nI (kD k)) = nI k ∧ kD k < 256 ∧ 0 < kD k := by decide +kernel
theorem x0_no : ∀ q, q < 256 → q ≠ 115 → q ≠ 116 → q ≠ 114 → xix 0 (nI q) = -1 := by decide +kernel
set_option maxRecDepth 4000 in
theorem rc_k {l : Launch} {g : ag_G} {s : am_S} {n : am_N} {E p : Nat} {tx : Nat → Nat} {R C : Nat → Int32} (hx : aw_hx g) (hT : CT s E tx) (hpE : p ≤ E) {k c : Nat} (hk : k < 3) (hcq : cst tx E p = nI (kD k)) (hCk : C k = nI c) (hc : c < kM k) {Q : Option Value → va_W → Prop} (hQ : QI g s n tx E k c R C Q (it1 tx E (k + 1) (kD k) p)) : aw_M l g mi_X4_readsClause 4 0 0 [.ref (g_ad g 3)] (hp g (km s p R C) n) Q := by
  have hE := hT.2.1
  have hb := k_b k hk
  have h0 := x0_k k hk
  have hq := h0.2.1
  have hm1 : ¬ cst tx E p = -1 := by rw [hcq]; exact nI_m1n (by omega)
  have hnx : skw tx E p + 1 ≤ E := by have := cst_lt hm1; omega
  refine aw_M_of mo_X4_readsClause (by decide) (Nat.le_of_ble_eq_true rfl) ?_
  refine aw_aload_n rfl rfl ?_
  refine pg_3_0 rfl kl_X4_18 ?_
  refine aw_iV (q0 := 1) (ci := 10) rfl cw_X4_48 rfl rfl rfl (c_signK hT hpE) rfl rfl (Nat.le_of_ble_eq_true rfl) (by decide) (by decide) (by decide) (by decide) ?_
  refine aw_istore_n rfl (by decide) ?_
  refine aw_iload_n rfl rfl ?_
  refine aw_iconst (v := -1) rfl (by decide) ?_
  refine aw_icmp_ne (tgt := 17) rfl (by decide) (fun h10 => ?_) (fun h10 => absurd h10 (hm1))
  refine aw_ldcS rfl (xr_X4_63 hx) ?_
  refine aw_iload_n rfl rfl ?_
  refine aw_i2c rfl ?_
  rw [show ((cst tx E p).toUInt32 % 65536).toInt32 = nI (kD k) from by (rw [hcq]; exact i2c_nI hq)]
  refine aw_iX rfl cw_X4_65 (xs_recv hx (i := 0) (by decide)) (c_indexOf hx (i := 0) (by decide) hq) rfl rfl (Nat.le_of_ble_eq_true rfl) (by decide) (by decide) (by decide) (by decide) ?_
  rw [h0.1]
  refine aw_istore_n rfl (by decide) ?_
  refine aw_iload_n rfl rfl ?_
  refine aw_if_lt (tgt := 43) rfl (by decide) (fun h26 => absurd h26 (nI_pos (n := k) (by omega))) (fun h26 => ?_)
  refine aw_aload_n rfl rfl ?_
  refine pg_3_2 rfl kl_X4_15 ?_
  refine aw_iload_n rfl rfl ?_
  refine pl_5 (j := k) rfl rfl hk ?_
  rw [show km s (skw tx E p) R C 5 k = nI c from hCk]
  refine aw_xgets rfl (fun U hU => (xt_4 hx U hU).1) kl_X4_71 ?_
  refine aw_iload_n rfl rfl ?_
  refine aw_xti rfl (fun U hU => (xt_4 hx U hU).2) rfl (by omega) (by decide) rfl ?_
  rw [xa_4 k hk]
  refine aw_icmp_lt (tgt := 45) rfl (by decide) (fun h40 => ?_) (fun h40 => absurd (nI_lt hc (by omega)) h40)
  refine aw_aload_n rfl rfl ?_
  refine pg_3_0 rfl kl_X4_18 ?_
  refine aw_dup rfl rfl ?_
  refine pg_1_2 rfl kl_X4_28 ?_
  refine aw_iconst (v := 1) rfl (by decide) ?_
  refine aw_iadd rfl ?_
  refine pp_1_2 rfl kl_X4_28 ?_
  refine aw_eqs (ws' := hp g (km s (skw tx E p + 1) R C) n) ?_ rfl rfl (congrArg (fun z => hp g z n) km_in)
  refine aw_aload_n rfl rfl ?_
  refine aw_iload_n rfl rfl ?_
  refine aw_vV (q0 := 3) (ci := 4) rfl cw_X4_40 rfl rfl rfl (c_X4_without hx hk hc hCk) rfl rfl (Nat.le_of_ble_eq_true rfl) (by decide) (by decide) (by decide) (by decide) ?_
  refine aw_iconst (v := 0) rfl (by decide) ?_
  refine aw_istore_n rfl (by decide) ?_
  refine aw_iconst (v := 0) rfl (by decide) ?_
  refine aw_istore rfl (by decide) ?_
  exact aw_wk (kr_loop hx hT hk hc hCk (E + 1) (skw tx E p + 1) 0 0 _ (by omega) hnx (Nat.two_pow_pos _) (by decide) hQ) (And.intro rfl (And.intro rfl (And.intro rfl (And.intro rfl True.intro))))
set_option maxRecDepth 4000 in
theorem rc_f {l : Launch} {g : ag_G} {s : am_S} {n : am_N} {E p : Nat} {tx : Nat → Nat} {R C : Nat → Int32} (hx : aw_hx g) (hT : CT s E tx) (hpE : p ≤ E) {k c : Nat} (hk : k < 3) (hcq : cst tx E p = nI (kD k)) (hCk : C k = nI c) (hc : kM k ≤ c) (hc9 : c ≤ 9) {Q : Option Value → va_W → Prop} (hQ : Q (some (.int 0)) (hp g (km s (skw tx E p) R C) n)) : aw_M l g mi_X4_readsClause 4 0 0 [.ref (g_ad g 3)] (hp g (km s p R C) n) Q := by
  have h0 := x0_k k hk
  have hq := h0.2.1
  have hm1 : ¬ cst tx E p = -1 := by rw [hcq]; exact nI_m1n (by omega)
  refine aw_M_of mo_X4_readsClause (by decide) (Nat.le_of_ble_eq_true rfl) ?_
  refine aw_aload_n rfl rfl ?_
  refine pg_3_0 rfl kl_X4_18 ?_
  refine aw_iV (q0 := 1) (ci := 10) rfl cw_X4_48 rfl rfl rfl (c_signK hT hpE) rfl rfl (Nat.le_of_ble_eq_true rfl) (by decide) (by decide) (by decide) (by decide) ?_
  refine aw_istore_n rfl (by decide) ?_
  refine aw_iload_n rfl rfl ?_
  refine aw_iconst (v := -1) rfl (by decide) ?_
  refine aw_icmp_ne (tgt := 17) rfl (by decide) (fun h10 => ?_) (fun h10 => absurd h10 (hm1))
  refine aw_ldcS rfl (xr_X4_63 hx) ?_
  refine aw_iload_n rfl rfl ?_
  refine aw_i2c rfl ?_
  rw [show ((cst tx E p).toUInt32 % 65536).toInt32 = nI (kD k) from by (rw [hcq]; exact i2c_nI hq)]
  refine aw_iX rfl cw_X4_65 (xs_recv hx (i := 0) (by decide)) (c_indexOf hx (i := 0) (by decide) hq) rfl rfl (Nat.le_of_ble_eq_true rfl) (by decide) (by decide) (by decide) (by decide) ?_
  rw [h0.1]
  refine aw_istore_n rfl (by decide) ?_
  refine aw_iload_n rfl rfl ?_
  refine aw_if_lt (tgt := 43) rfl (by decide) (fun h26 => absurd h26 (nI_pos (n := k) (by omega))) (fun h26 => ?_)
  refine aw_aload_n rfl rfl ?_
  refine pg_3_2 rfl kl_X4_15 ?_
  refine aw_iload_n rfl rfl ?_
  refine pl_5 (j := k) rfl rfl hk ?_
  rw [show km s (skw tx E p) R C 5 k = nI c from hCk]
  refine aw_xgets rfl (fun U hU => (xt_4 hx U hU).1) kl_X4_71 ?_
  refine aw_iload_n rfl rfl ?_
  refine aw_xti rfl (fun U hU => (xt_4 hx U hU).2) rfl (by omega) (by decide) rfl ?_
  rw [xa_4 k hk]
  refine aw_icmp_lt (tgt := 45) rfl (by decide) (fun h40 => absurd h40 (nI_nlt hc (by omega))) (fun h40 => ?_)
  refine aw_iconst (v := 0) rfl (by decide) ?_
  exact aw_z0 rfl rfl hQ
set_option maxRecDepth 4000 in
theorem rc_n {l : Launch} {g : ag_G} {s : am_S} {n : am_N} {E p : Nat} {tx : Nat → Nat} {R C : Nat → Int32} (hx : aw_hx g) (hT : CT s E tx) (hpE : p ≤ E) (h1 : cst tx E p ≠ 115) (h2 : cst tx E p ≠ 116) (h3 : cst tx E p ≠ 114) {Q : Option Value → va_W → Prop} (hQ : Q (some (.int 0)) (hp g (km s (skw tx E p) R C) n)) : aw_M l g mi_X4_readsClause 4 0 0 [.ref (g_ad g 3)] (hp g (km s p R C) n) Q := by
  refine aw_M_of mo_X4_readsClause (by decide) (Nat.le_of_ble_eq_true rfl) ?_
  rcases CT_c hT (p := p) with hcq | ⟨q, -, hq, hcq⟩
  · skip
    refine aw_aload_n rfl rfl ?_
    refine pg_3_0 rfl kl_X4_18 ?_
    refine aw_iV (q0 := 1) (ci := 10) rfl cw_X4_48 rfl rfl rfl (c_signK hT hpE) rfl rfl (Nat.le_of_ble_eq_true rfl) (by decide) (by decide) (by decide) (by decide) ?_
    refine aw_istore_n rfl (by decide) ?_
    refine aw_iload_n rfl rfl ?_
    refine aw_iconst (v := -1) rfl (by decide) ?_
    refine aw_icmp_ne (tgt := 17) rfl (by decide) (fun h10 => absurd (hcq) h10) (fun h10 => ?_)
    refine aw_iconst (v := -1) rfl (by decide) ?_
    refine aw_goto (tgt := 24) rfl (by decide) ?_
    refine aw_istore_n rfl (by decide) ?_
    refine aw_iload_n rfl rfl ?_
    refine aw_if_lt (tgt := 43) rfl (by decide) (fun h26 => ?_) (fun h26 => absurd (by decide) h26)
    refine aw_iconst (v := 0) rfl (by decide) ?_
    exact aw_z0 rfl rfl hQ
  · have hxi := x0_no q hq (fun e => h1 (by rw [hcq, e]; rfl)) (fun e => h2 (by rw [hcq, e]; rfl)) (fun e => h3 (by rw [hcq, e]; rfl))
    refine aw_aload_n rfl rfl ?_
    refine pg_3_0 rfl kl_X4_18 ?_
    refine aw_iV (q0 := 1) (ci := 10) rfl cw_X4_48 rfl rfl rfl (c_signK hT hpE) rfl rfl (Nat.le_of_ble_eq_true rfl) (by decide) (by decide) (by decide) (by decide) ?_
    refine aw_istore_n rfl (by decide) ?_
    refine aw_iload_n rfl rfl ?_
    refine aw_iconst (v := -1) rfl (by decide) ?_
    refine aw_icmp_ne (tgt := 17) rfl (by decide) (fun h10 => ?_) (fun h10 => absurd h10 (by rw [hcq]; exact nI_m1n (by omega)))
    refine aw_ldcS rfl (xr_X4_63 hx) ?_
    refine aw_iload_n rfl rfl ?_
    refine aw_i2c rfl ?_
    rw [show ((cst tx E p).toUInt32 % 65536).toInt32 = nI (q) from by (rw [hcq]; exact i2c_nI hq)]
    refine aw_iX rfl cw_X4_65 (xs_recv hx (i := 0) (by decide)) (c_indexOf hx (i := 0) (by decide) hq) rfl rfl (Nat.le_of_ble_eq_true rfl) (by decide) (by decide) (by decide) (by decide) ?_
    rw [hxi]
    refine aw_istore_n rfl (by decide) ?_
    refine aw_iload_n rfl rfl ?_
    refine aw_if_lt (tgt := 43) rfl (by decide) (fun h26 => ?_) (fun h26 => absurd (by decide) h26)
    refine aw_iconst (v := 0) rfl (by decide) ?_
    exact aw_z0 rfl rfl hQ
def KC (K : Kd) (R C : Nat → Int32) : Prop := C 0 = bB K.1 ∧ C 1 = nI K.2.1 ∧ C 2 = nI K.2.2.1 ∧ K.2.1 ≤ 7 ∧ K.2.2.1 ≤ 5 ∧ (∀ i, i < 3 → R i = K.2.2.2.1 i) ∧ (∀ t, t < K.2.1 → ∀ i, i < 5 → R (3 + 5 * t + i) = K.2.2.2.2.1 t i) ∧ ∀ r, r < K.2.2.1 → R (38 + r) = K.2.2.2.2.2 r
def PKc (g : ag_G) (s : am_S) (n : am_N) (tx : Nat → Nat) (E : Nat) (rr : Except Nat (Nat × Kd)) : Option Value → va_W → Prop := fun o y => ∃ R' C', match rr with
  | .error e => o = some (.int 0) ∧ y = hp g (km s e R' C') n
  | .ok z => ((cst tx E z.1 = 59 ∨ cst tx E z.1 = -1) ∧ o = some (.int 1) ∧ y = hp g (km s z.1 R' C') n ∧ KC z.2 R' C') ∨ (¬ (cst tx E z.1 = 59 ∨ cst tx E z.1 = -1) ∧ o = some (.int 0) ∧ y = hp g (km s (skw tx E z.1) R' C') n)
theorem QI_of {g : ag_G} {s : am_S} {n : am_N} {tx : Nat → Nat} {E k c : Nat} {R C : Nat → Int32} {f : Nat × (Nat → Int32) → Nat × Kd} (hf : ∀ z, (f z).1 = z.1) (hK : ∀ z, KC (f z).2 (wrV R (kRow k c) (kI k) z.2) (upd C k (nI (c + 1)))) : ∀ X : Except Nat (Nat × (Nat → Int32)), QI g s n tx E k c R C (PKc g s n tx E (X.map f)) X
  | .error e => fun R' => ⟨R', C, rfl, rfl⟩
  | .ok z => ⟨fun h => ⟨_, _, Or.inl ⟨by rw [hf z]; exact h, rfl, by rw [hf z], hK z⟩⟩, fun h R' => ⟨R', C, Or.inr ⟨by rw [hf z]; exact h, rfl, by rw [hf z]⟩⟩⟩
theorem wrV_in {f r : Nat → Int32} {row len i : Nat} (h : i < len) : wrV f row len r (row + i) = r i := by
  unfold wrV
  rw [if_pos (by omega), show row + i - row = i by omega]
theorem wrV_out {f r : Nat → Int32} {row len j : Nat} (h : j < row ∨ row + len ≤ j) : wrV f row len r j = f j := by
  unfold wrV
  rw [if_neg (by omega)]
theorem c_X4_readsClause {l : Launch} {g : ag_G} {s : am_S} {n : am_N} {E p : Nat} {tx : Nat → Nat} {R C : Nat → Int32} (hx : aw_hx g) (hT : CT s E tx) (hpE : p ≤ E) {K : Kd} (hK : KC K R C) : aw_M l g mi_X4_readsClause 4 0 0 [.ref (g_ad g 3)] (hp g (km s p R C) n) (PKc g s n tx E (kCl tx E K p)) := by
  obtain ⟨k0, k1, k2, k3, k4, k5, k6, k7⟩ := hK
  unfold kCl
  by_cases h1 : cst tx E p = 115
  · rw [if_neg (c := cst tx E p = 116 ∧ _) (by rw [h1]; exact fun e => absurd e.1 (by decide)), if_neg (c := cst tx E p = 114 ∧ _) (by rw [h1]; exact fun e => absurd e.1 (by decide))]
    cases hb : K.1 with
    | false =>
      rw [if_pos ⟨h1, rfl⟩]
      rw [hb] at k0
      refine rc_k hx hT hpE (k := 0) (c := 0) (by decide) h1 k0 (by decide) (QI_of (fun _ => rfl) (fun z => ?_) _)
      refine ⟨rfl, k1, k2, k3, k4, fun i hi => ?_, fun t ht i hi => ?_, fun r hr => ?_⟩
      · have := wrV_in (f := R) (r := z.2) (row := 0) (len := 3) hi
        rw [Nat.zero_add] at this
        exact this
      · exact (wrV_out (Or.inr (show kRow 0 0 + kI 0 ≤ 3 + 5 * t + i from by show 0 + 3 ≤ _; omega))).trans (k6 t ht i hi)
      · exact (wrV_out (Or.inr (show kRow 0 0 + kI 0 ≤ 38 + r from by show 0 + 3 ≤ _; omega))).trans (k7 r hr)
    | true =>
      rw [if_neg (fun e => absurd e.2 (by decide))]
      rw [hb] at k0
      exact rc_f hx hT hpE (k := 0) (c := 1) (by decide) h1 k0 (by decide) (by decide) ⟨R, C, rfl, rfl⟩
  · rw [if_neg (fun e => h1 e.1)]
    by_cases h2 : cst tx E p = 116
    · rw [if_neg (c := cst tx E p = 114 ∧ _) (by rw [h2]; exact fun e => absurd e.1 (by decide))]
      by_cases hT7 : K.2.1 < 7
      · rw [if_pos ⟨h2, hT7⟩]
        refine rc_k hx hT hpE (k := 1) (c := K.2.1) (by decide) h2 k1 hT7 (QI_of (fun _ => rfl) (fun z => ?_) _)
        have hrow : kRow 1 K.2.1 = 3 + 5 * K.2.1 := by show 3 + K.2.1 * 5 = _; omega
        rw [hrow]
        refine ⟨k0, rfl, k2, show K.2.1 + 1 ≤ 7 from hT7, k4, fun i hi => ?_, fun t ht i hi => ?_, fun r hr => ?_⟩
        · exact (wrV_out (Or.inl (by omega))).trans (k5 i hi)
        · have ht' : t < K.2.1 + 1 := ht
          show wrV R (3 + 5 * K.2.1) 5 z.2 (3 + 5 * t + i) = (if t = K.2.1 then z.2 else K.2.2.2.2.1 t) i
          by_cases e : t = K.2.1
          · rw [if_pos e, e]; exact wrV_in hi
          · rw [if_neg e]; exact (wrV_out (Or.inl (by omega))).trans (k6 t (by omega) i hi)
        · exact (wrV_out (Or.inr (show 3 + 5 * K.2.1 + 5 ≤ 38 + r by omega))).trans (k7 r hr)
      · rw [if_neg (fun e => hT7 e.2)]
        exact rc_f hx hT hpE (k := 1) (c := K.2.1) (by decide) h2 k1 (show 7 ≤ K.2.1 by omega) (by omega) ⟨R, C, rfl, rfl⟩
    · rw [if_neg (fun e => h2 e.1)]
      by_cases h3 : cst tx E p = 114
      · by_cases hQ5 : K.2.2.1 < 5
        · rw [if_pos ⟨h3, hQ5⟩]
          refine rc_k hx hT hpE (k := 2) (c := K.2.2.1) (by decide) h3 k2 hQ5 (QI_of (fun _ => rfl) (fun z => ?_) _)
          have hrow : kRow 2 K.2.2.1 = 38 + K.2.2.1 := by show 38 + K.2.2.1 * 1 = _; omega
          rw [hrow]
          refine ⟨k0, k1, rfl, k3, show K.2.2.1 + 1 ≤ 5 from hQ5, fun i hi => ?_, fun t ht i hi => ?_, fun r hr => ?_⟩
          · exact (wrV_out (Or.inl (by omega))).trans (k5 i hi)
          · have ht' : t < K.2.1 := ht
            exact (wrV_out (Or.inl (by omega))).trans (k6 t ht i hi)
          · have hr' : r < K.2.2.1 + 1 := hr
            show wrV R (38 + K.2.2.1) 1 z.2 (38 + r) = upd K.2.2.2.2.2 K.2.2.1 (z.2 0) r
            by_cases e : r = K.2.2.1
            · rw [e, upd_s]; exact wrV_in (i := 0) (by decide)
            · rw [upd_n e]; exact (wrV_out (Or.inl (by omega))).trans (k7 r (by omega))
        · rw [if_neg (fun e => hQ5 e.2)]
          exact rc_f hx hT hpE (k := 2) (c := K.2.2.1) (by decide) h3 k2 (show 5 ≤ K.2.2.1 by omega) (by omega) ⟨R, C, rfl, rfl⟩
      · rw [if_neg (fun e => h3 e.1)]
        exact rc_n hx hT hpE h1 h2 h3 ⟨R, C, rfl, rfl⟩
set_option maxRecDepth 4000 in
theorem c_X4_isWhole {l : Launch} {g : ag_G} {s : am_S} {n : am_N} {a : Nat} {R C : Nat → Int32} (hx : aw_hx g) {K : Kd} (hK : KC K R C) : aw_F l g mi_X4_isWhole 1 [.ref (g_ad g 3)] (hp g (km s a R C) n) (.int (bB (whK K))) (hp g (km s a R C) n) := by
  obtain ⟨k0, k1, k2, k3, k4, k5, k6, k7⟩ := hK
  have loop : ∀ (d i : Nat), i + d = K.2.1 → 0 < K.2.1 → 0 < K.2.2.1 → bB (whK K) = bB (fs (fun t => !decide (K.2.2.2.2.1 t 0 < nI K.2.2.1)) i d).isNone → aw_W l g mi_X4_isWhole (aw_rm 1 0 0) (aw_Z g (fun r z => r = some (.int (bB (whK K))) ∧ z = hp g (km s a R C) n) 0 0) 0 0 (hp g (km s a R C) n) 22 [some (.ref (g_ad g 3)), some (.int (nI i))] [] := by
    intro d
    induction d with
    | zero =>
      intro i hi h1 h2 hX
      refine aw_iload_n rfl rfl ?_
      refine aw_aload_n rfl rfl ?_
      refine pg_3_2 rfl kl_X4_15 ?_
      refine aw_iconst (v := 1) rfl (by decide) ?_
      refine pl_5 (j := 1) rfl rfl (by decide) ?_
      refine aw_icmp_ge (tgt := 56) rfl (by decide) (fun h29 => ?_) (fun h29 => absurd (by rw [show km s a R C 5 1 = nI K.2.1 from k1]; exact nI_le (by omega) (by omega)) h29)
      refine aw_iconst (v := 1) rfl (by decide) ?_
      exact aw_fz rfl rfl (Or.inr rfl) (by rw [hX]; rfl) rfl
    | succ d ih =>
      intro i hi h1 h2 hX
      have hRi : km s a R C 4 (kRow 1 i + 0) = K.2.2.2.2.1 i 0 := by
        have := k6 i (by omega) 0 (by decide)
        rw [← this]
        show R (3 + i * 5 + 0) = R (3 + 5 * i + 0)
        rw [Nat.mul_comm]
      refine aw_iload_n rfl rfl ?_
      refine aw_aload_n rfl rfl ?_
      refine pg_3_2 rfl kl_X4_15 ?_
      refine aw_iconst (v := 1) rfl (by decide) ?_
      refine pl_5 (j := 1) rfl rfl (by decide) ?_
      refine aw_icmp_ge (tgt := 56) rfl (by decide) (fun h29 => absurd h29 (by rw [show km s a R C 5 1 = nI K.2.1 from k1]; exact nI_ge (by omega) (by omega))) (fun h29 => ?_)
      refine aw_aload_n rfl rfl ?_
      refine aw_iconst (v := 1) rfl (by decide) ?_
      refine aw_iload_n rfl rfl ?_
      refine aw_iconst (v := 0) rfl (by decide) ?_
      refine aw_iV (q0 := 3) (ci := 4) rfl cw_X4_59 rfl rfl rfl (c_X4_item hx (k := 1) (c := i) (i := 0) (by decide) (show i < 7 by omega) (by decide)) rfl rfl (Nat.le_of_ble_eq_true rfl) (by decide) (by decide) (by decide) (by decide) ?_
      refine aw_aload_n rfl rfl ?_
      refine pg_3_2 rfl kl_X4_15 ?_
      refine aw_iconst (v := 2) rfl (by decide) ?_
      refine pl_5 (j := 2) rfl rfl (by decide) ?_
      refine aw_icmp_lt (tgt := 50) rfl (by decide) (fun h45 => ?_) (fun h45 => ?_)
      · refine aw_inc1 rfl rfl (by decide) ?_
        refine aw_goto (tgt := 22) rfl (by decide) ?_
        refine aw_wk (ih (i + 1) (by omega) h1 h2 ?_) (And.intro rfl (And.intro (congrArg (fun x => some (Value.int x)) (nI_1 i)) True.intro))
        rw [hX]
        simp only [fs]
        rw [if_neg (by rw [decide_eq_true (show K.2.2.2.2.1 i 0 < nI K.2.2.1 from by (rw [hRi, show km s a R C 5 2 = nI K.2.2.1 from k2] at h45; exact h45))]; decide)]
      · refine aw_iconst (v := 0) rfl (by decide) ?_
        exact aw_fz rfl rfl (Or.inl rfl) (by rw [hX]; simp only [fs]; rw [if_pos (by rw [decide_eq_false (show ¬ K.2.2.2.2.1 i 0 < nI K.2.2.1 from by (intro e; exact h45 (by rw [hRi, show km s a R C 5 2 = nI K.2.2.1 from k2]; exact e)))]; rfl)]; rfl) rfl
  refine aw_F_of mo_X4_isWhole (by decide) (Nat.le_of_ble_eq_true rfl) ?_
  refine aw_aload_n rfl rfl ?_
  refine pg_3_2 rfl kl_X4_15 ?_
  refine aw_iconst (v := 1) rfl (by decide) ?_
  refine pl_5 (j := 1) rfl rfl (by decide) ?_
  refine aw_if_eq (tgt := 18) rfl (by decide) (fun h6 => ?_) (fun h6 => ?_)
  · refine aw_iconst (v := 0) rfl (by decide) ?_
    first
    | exact aw_fz rfl rfl (Or.inl rfl) (by unfold whK; rw [decide_eq_false (show ¬ 0 < K.2.1 from by (intro e; exact absurd (show nI K.2.1 = 0 from by (rw [← k1]; exact h6)) (nI_ne0 e (by omega))))]; cases (fs (fun t => !decide (K.2.2.2.2.1 t 0 < nI K.2.2.1)) 0 K.2.1).isNone <;> first | rfl | (cases decide (0 < K.2.1) <;> rfl)) rfl
    | exact aw_fz rfl rfl (Or.inl rfl) (by unfold whK; rw [decide_eq_false (show ¬ 0 < K.2.2.1 from by (intro e; exact absurd (show nI K.2.2.1 = 0 from by (rw [← k2]; exact h15)) (nI_ne0 e (by omega))))]; cases (fs (fun t => !decide (K.2.2.2.2.1 t 0 < nI K.2.2.1)) 0 K.2.1).isNone <;> first | rfl | (cases decide (0 < K.2.1) <;> rfl)) rfl
  · refine aw_aload_n rfl rfl ?_
    refine pg_3_2 rfl kl_X4_15 ?_
    refine aw_iconst (v := 2) rfl (by decide) ?_
    refine pl_5 (j := 2) rfl rfl (by decide) ?_
    refine aw_if_ne (tgt := 20) rfl (by decide) (fun h15 => ?_) (fun h15 => ?_)
    · refine aw_iconst (v := 0) rfl (by decide) ?_
      refine aw_istore_n rfl (by decide) ?_
      have h1 : 0 < K.2.1 := Nat.pos_of_ne_zero (fun e => h6 (by rw [show km s a R C 5 1 = nI K.2.1 from k1, e]; rfl))
      have h2 : 0 < K.2.2.1 := Nat.pos_of_ne_zero (fun e => h15 (by rw [show km s a R C 5 2 = nI K.2.2.1 from k2, e]; rfl))
      exact aw_wk (loop K.2.1 0 (by omega) h1 h2 (by unfold whK; rw [decide_eq_true h1, decide_eq_true h2, Bool.and_true, Bool.and_true])) (And.intro rfl (And.intro rfl True.intro))
    · refine aw_iconst (v := 0) rfl (by decide) ?_
      first
      | exact aw_fz rfl rfl (Or.inl rfl) (by unfold whK; rw [decide_eq_false (show ¬ 0 < K.2.1 from by (intro e; exact absurd (show nI K.2.1 = 0 from by (rw [← k1]; exact h6)) (nI_ne0 e (by omega))))]; cases (fs (fun t => !decide (K.2.2.2.2.1 t 0 < nI K.2.2.1)) 0 K.2.1).isNone <;> first | rfl | (cases decide (0 < K.2.1) <;> rfl)) rfl
      | exact aw_fz rfl rfl (Or.inl rfl) (by unfold whK; rw [decide_eq_false (show ¬ 0 < K.2.2.1 from by (intro e; exact absurd (show nI K.2.2.1 = 0 from by (rw [← k2]; exact h15)) (nI_ne0 e (by omega))))]; cases (fs (fun t => !decide (K.2.2.2.2.1 t 0 < nI K.2.2.1)) 0 K.2.1).isNone <;> first | rfl | (cases decide (0 < K.2.1) <;> rfl)) rfl
def PKg (g : ag_G) (s : am_S) (n : am_N) : Except Nat Kd → Option Value → va_W → Prop
  | .ok K => fun o y => o = some (.int 1) ∧ ∃ a R C, y = hp g (km s a R C) n ∧ KC K R C
  | .error e => fun o y => o = some (.int 0) ∧ ∃ R C, y = hp g (km s e R C) n
set_option maxRecDepth 4000 in
theorem kg_loop {l : Launch} {g : ag_G} {s : am_S} {n : am_N} {E : Nat} {tx : Nat → Nat} (hx : aw_hx g) (hT : CT s E tx) {X : Except Nat Kd} : ∀ (d p t : Nat) (R C : Nat → Int32) (K : Kd), E - p < d → p ≤ E → 2 * t ≤ p → KC K R C → kgL tx E d p K = X → aw_W l g mi_X4_reads (aw_rm 5 0 0) (aw_Z g (PKg g s n X) 0 0) 0 0 (hp g (km s p R C) n) 23 [some (.ref (g_ad g 3)), some (.int (nI t))] [] := by
  have hE := hT.2.1
  intro d
  induction d with
  | zero => intro p t R C K h; omega
  | succ d ih =>
    intro p t R C K hd hpE ht hK hX
    have hkb := kCl_b (tx := tx) (E := E) (p := p) (K := K) hpE ⟨hK.2.2.2.1, hK.2.2.2.2.1⟩
    simp only [kgL] at hX
    refine aw_iload_n rfl rfl ?_
    refine aw_sipush (v := 240) rfl (by decide) ?_
    refine aw_icmp_ge (tgt := 75) rfl (by decide) (fun h27 => absurd h27 (nI_ge (a := t) (b := 240) (by omega) (by decide))) (fun h27 => ?_)
    refine aw_aload_n rfl rfl ?_
    refine aw_callV (q0 := 3) (ci := 4) rfl cw_X4_44 rfl rfl rfl (c_X4_readsClause hx hT hpE hK) rfl rfl (Nat.le_of_ble_eq_true rfl) (by decide) (by decide) (by decide) (by decide) (fun o y hy => ?_)
    obtain ⟨R1, C1, hy⟩ := hy
    cases hz : kCl tx E K p with
    | error e =>
      rw [hz] at hX hy
      obtain ⟨rfl, rfl⟩ := hy
      subst hX
      refine aw_if_ne (tgt := 39) rfl (by decide) (fun h34 => absurd (rfl) h34) (fun h34 => ?_)
      refine aw_iconst (v := 0) rfl (by decide) ?_
      exact aw_z0 rfl rfl ⟨rfl, R1, C1, rfl⟩
    | ok z =>
      rw [hz] at hX hy hkb
      have hzE : z.1 ≤ E := hkb.2.1
      have hzp : p < z.1 := hkb.1
      have hsk := skw_b (tx := tx) hzE
      have hce : cst tx E (skw tx E z.1) = cst tx E z.1 := by unfold cst; rw [skw_sk hzE]
      rcases hy with ⟨hc, rfl, rfl, hK1⟩ | ⟨hc, rfl, rfl⟩
      · dsimp only at hX
        by_cases h59 : cst tx E z.1 = 59
        · rw [if_pos h59] at hX
          have hnx : skw tx E z.1 + 1 ≤ E := by (have := cst_lt (tx := tx) (E := E) (p := z.1) (by rw [h59]; decide); omega)
          refine aw_if_ne (tgt := 39) rfl (by decide) (fun h34 => ?_) (fun h34 => absurd h34 (by decide))
          refine aw_aload_n rfl rfl ?_
          refine pg_3_0 rfl kl_X4_18 ?_
          refine aw_iV (q0 := 1) (ci := 10) rfl cw_X4_48 rfl rfl rfl (c_signK hT hzE) rfl rfl (Nat.le_of_ble_eq_true rfl) (by decide) (by decide) (by decide) (by decide) ?_
          refine aw_iconst (v := -1) rfl (by decide) ?_
          refine aw_icmp_ne (tgt := 55) rfl (by decide) (fun h47 => ?_) (fun h47 => absurd h47 (by rw [h59]; decide))
          refine aw_aload_n rfl rfl ?_
          refine pg_3_0 rfl kl_X4_18 ?_
          refine aw_bipush (v := 59) rfl (by decide) ?_
          refine aw_iV (q0 := 1) (ci := 10) rfl cw_X4_55 rfl rfl rfl (c_passKY hT hsk.2.1 (hce.trans h59)) rfl rfl (Nat.le_of_ble_eq_true rfl) (by decide) (by decide) (by decide) (by decide) ?_
          rw [skw_sk hzE]
          refine aw_if_ne (tgt := 69) rfl (by decide) (fun h64 => ?_) (fun h64 => absurd h64 (by decide))
          refine aw_inc1 rfl rfl (by decide) ?_
          refine aw_goto (tgt := 23) rfl (by decide) ?_
          exact aw_wk (ih (skw tx E z.1 + 1) (t + 1) R1 C1 z.2 (by omega) hnx (by omega) hK1 hX) (And.intro rfl (And.intro (congrArg (fun x => some (Value.int x)) (nI_1 t)) True.intro))
        · rw [if_neg h59] at hX
          have hm1 := hc.resolve_left h59
          have hwh := c_X4_isWhole (l := l) (g := g) (n := n) (s := s) (a := skw tx E z.1) hx hK1
          cases hb : whK z.2 with
          | true =>
            rw [if_pos ⟨hm1, hb⟩] at hX
            subst hX
            rw [hb] at hwh
            refine aw_if_ne (tgt := 39) rfl (by decide) (fun h34 => ?_) (fun h34 => absurd h34 (by decide))
            refine aw_aload_n rfl rfl ?_
            refine pg_3_0 rfl kl_X4_18 ?_
            refine aw_iV (q0 := 1) (ci := 10) rfl cw_X4_48 rfl rfl rfl (c_signK hT hzE) rfl rfl (Nat.le_of_ble_eq_true rfl) (by decide) (by decide) (by decide) (by decide) ?_
            refine aw_iconst (v := -1) rfl (by decide) ?_
            refine aw_icmp_ne (tgt := 55) rfl (by decide) (fun h47 => absurd (hm1) h47) (fun h47 => ?_)
            refine aw_aload_n rfl rfl ?_
            refine aw_iV (q0 := 3) (ci := 4) rfl cw_X4_52 rfl rfl rfl (hwh) rfl rfl (Nat.le_of_ble_eq_true rfl) (by decide) (by decide) (by decide) (by decide) ?_
            exact aw_z1 rfl rfl ⟨rfl, _, R1, C1, rfl, hK1⟩
          | false =>
            rw [if_neg (fun e => by rw [hb] at e; exact absurd e.2 (by decide))] at hX
            subst hX
            rw [hb] at hwh
            refine aw_if_ne (tgt := 39) rfl (by decide) (fun h34 => ?_) (fun h34 => absurd h34 (by decide))
            refine aw_aload_n rfl rfl ?_
            refine pg_3_0 rfl kl_X4_18 ?_
            refine aw_iV (q0 := 1) (ci := 10) rfl cw_X4_48 rfl rfl rfl (c_signK hT hzE) rfl rfl (Nat.le_of_ble_eq_true rfl) (by decide) (by decide) (by decide) (by decide) ?_
            refine aw_iconst (v := -1) rfl (by decide) ?_
            refine aw_icmp_ne (tgt := 55) rfl (by decide) (fun h47 => absurd (hm1) h47) (fun h47 => ?_)
            refine aw_aload_n rfl rfl ?_
            refine aw_iV (q0 := 3) (ci := 4) rfl cw_X4_52 rfl rfl rfl (hwh) rfl rfl (Nat.le_of_ble_eq_true rfl) (by decide) (by decide) (by decide) (by decide) ?_
            exact aw_z0 rfl rfl ⟨rfl, R1, C1, rfl⟩
      · dsimp only at hX
        rw [if_neg (fun e => hc (Or.inl e)), if_neg (fun e => hc (Or.inr e.1))] at hX
        subst hX
        refine aw_if_ne (tgt := 39) rfl (by decide) (fun h34 => absurd (rfl) h34) (fun h34 => ?_)
        refine aw_iconst (v := 0) rfl (by decide) ?_
        exact aw_z0 rfl rfl ⟨rfl, R1, C1, rfl⟩
set_option maxRecDepth 4000 in
theorem c_X4_reads {l : Launch} {g : ag_G} {s : am_S} {n : am_N} {E : Nat} {tx : Nat → Nat} (hx : aw_hx g) (hT : CT s E tx) : aw_M l g mi_X4_reads 5 0 0 [.ref (g_ad g 3)] (hp g s n) (PKg g s n (kgR tx E)) := by
  have h0 : upR (up s 1 2 0) 5 (zf 3 (up s 1 2 0 5)) = km s 0 (s 4) (zf 3 (s 5)) := by
    unfold km
    rw [upR_rf, upR_comm (k := 5) (k' := 1) rfl rfl]; rfl
  refine aw_M_of mo_X4_reads (by decide) (Nat.le_of_ble_eq_true rfl) ?_
  refine aw_aload_n rfl rfl ?_
  refine pg_3_0 rfl kl_X4_18 ?_
  refine aw_iconst (v := 0) rfl (by decide) ?_
  refine pp_1_2 rfl kl_X4_28 ?_
  refine aw_aload_n rfl rfl ?_
  refine pg_3_2 rfl kl_X4_15 ?_
  refine aw_iconst (v := 0) rfl (by decide) ?_
  refine aw_vS rfl cw_X4_34 (c_fill_5) rfl rfl (Nat.le_of_ble_eq_true rfl) (by decide) (by decide) (by decide) (by decide) ?_
  refine aw_eqs (ws' := hp g (km s 0 (s 4) (zf 3 (s 5))) n) ?_ rfl rfl (congrArg (fun z => hp g z n) h0)
  refine aw_aload_n rfl rfl ?_
  refine aw_iconst (v := 0) rfl (by decide) ?_
  refine aw_vV (q0 := 3) (ci := 4) rfl cw_X4_40 rfl rfl rfl (c_X4_without hx (k := 0) (c := 0) (by decide) (by decide) rfl) rfl rfl (Nat.le_of_ble_eq_true rfl) (by decide) (by decide) (by decide) (by decide) ?_
  refine aw_iconst (v := 0) rfl (by decide) ?_
  refine aw_istore_n rfl (by decide) ?_
  exact aw_wk (kg_loop hx hT (E + 1) 0 0 _ _ kg0 (by omega) (Nat.zero_le _) (by omega) ⟨rfl, rfl, rfl, by decide, by decide, fun i hi => (by have := wrV_in (f := s 4) (r := usV 115) (row := 0) (len := 3) hi; rw [Nat.zero_add] at this; exact this), fun t ht => absurd ht (Nat.not_lt_zero _), fun r hr => absurd hr (Nat.not_lt_zero _)⟩ rfl) (And.intro rfl (And.intro rfl True.intro))
