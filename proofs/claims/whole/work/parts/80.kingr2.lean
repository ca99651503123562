/-! the class's reader of a kingdom: its methods -/
section AwXd
variable {l : Launch} {g : ag_G} {M : ag_M} {R : Room} {Z : ag_Z} {cells slots : Nat} {ws ws2 : va_W} {pc : Nat} {L : List (Option Value)} {st : List Value}
theorem aw_xcopyN {index q1 a1 t n0 n1 a b c : Nat} {f h : Nat → Int32} {sp dp n : Int32} (hd : m_at M pc = some (.invokestatic index, 3)) (hl : Cond.methodLink (m_y M).cls index arraycopyName ∈ aw_tbl) (hna : Cond.native arraycopyName ∈ aw_tbl) (hs : Cond.static arraycopyName ∈ aw_tbl) (hi : Cond.initialized "java/lang/System" ∈ aw_tbl) (hr : ∀ U, g_X g U → va_T .int t n0 (fun j => .int (f j)) (aw_A g) U U.heap) (ha1 : ws[q1]? = some (a1, .inl (g_ca g 0, n1, .inl h))) (h1 : sp = nI a) (h2 : dp = nI b) (h3 : n = nI c) (h4 : a + c ≤ n0) (h5 : b + c ≤ n1) (hz0 : n0 < 2 ^ 31) (hz1 : n1 < 2 ^ 31) (hf : 1 ≤ R.frames) (hlo : (st.map fun v => v.category).sum + (nativeFrameWords "java/lang/System" "arraycopy" 5 + 11) ≤ R.locals) (hw : ws.set q1 (a1, .inl (g_ca g 0, n1, .inl (va_cpy f h a b c))) = ws2) (kk : aw_W l g M R Z cells slots ws2 (pc + 3) L st) : aw_W l g M R Z cells slots ws pc L (.int n :: .int dp :: .ref a1 :: .int sp :: .ref t :: st) := by
  subst h1; subst h2; subst h3
  have e1 : (nI a).toNatClampNeg = a := nI_clamp (by omega)
  have e2 : (nI b).toNatClampNeg = b := nI_clamp (by omega)
  have e3 : (nI c).toNatClampNeg = c := nI_clamp (by omega)
  exact aw_xcopy hd hl hna hs hi hr ha1 (nI_pos (by omega)) (nI_pos (by omega)) (nI_pos (by omega)) (by rw [e1, e3]; exact h4) (by rw [e2, e3]; exact h5) hf hlo (ws2 := ws2) (by rw [e1, e2, e3]; exact hw) kk
end AwXd
theorem cpy_wr {F R r : Nat → Int32} {a row len : Nat} (h : ∀ i, i < len → F (a + i) = r i) : va_cpy F R a row len = wrV R row len r := by
  funext j
  unfold va_cpy wrV
  by_cases hj : row ≤ j ∧ j < row + len
  · rw [if_pos hj, if_pos hj]; exact h (j - row) (by omega)
  · rw [if_neg hj, if_neg hj]
theorem xK_on : ∀ k, k < 3 → ∀ q, q < 256 → xix (k + 1) (nI q) = on (xsp (k + 1) (nI q)) := by decide +kernel
theorem xK_59 : ∀ k, k < 3 → xsp (k + 1) 59 = none := by decide +kernel
theorem xK_len : ∀ k, k < 3 → xLen.getD (k + 1) 0 = kI k := by decide +kernel
theorem hs_tb : ∀ D, D < 128 → ∀ t, t < 7 → hs (nI D) (nI t) = D.testBit t := by decide +kernel
theorem pcn_le : ∀ T, T ≤ 7 → ∀ D, D < 2 ^ T → pcn D ≤ T := by decide +kernel
theorem pw5 {k : Nat} (h : k ≤ 5) : 2 ^ k ≤ 32 := Nat.pow_le_pow_right (by decide) h
set_option maxRecDepth 4000 in
theorem c_X4_without {l : Launch} {g : ag_G} {s : am_S} {n : am_N} {a : Nat} {R C : Nat → Int32} (hx : aw_hx g) {k c : Nat} (hk : k < 3) (hc : c < kM k) (hCk : C k = nI c) : aw_V l g mi_X4_setsWhatIsWithout 1 [.ref (g_ad g 3), .int (nI k)] (hp g (km s a R C) n) (hp g (km s a (wrV R (kRow k c) (kI k) (usV (nI (kD k)))) C) n) := by
  have hb := k_b k hk
  have hr := kRow_b hk hc
  refine aw_V_of mo_X4_setsWhatIsWithout (by decide) (Nat.le_of_ble_eq_true rfl) ?_
  refine aw_xgets rfl (fun U hU => (xt_0 hx U hU).1) kl_X4_22 ?_
  refine aw_iload_n rfl rfl ?_
  refine aw_xti rfl (fun U hU => (xt_0 hx U hU).2) rfl (by omega) (by decide) rfl ?_
  rw [xa_0 k hk]
  refine aw_aload_n rfl rfl ?_
  refine pg_3_2 rfl kl_X4_15 ?_
  refine aw_iload_n rfl rfl ?_
  refine pl_5 (j := k) rfl rfl hk ?_
  rw [show km s a R C 5 k = nI c from hCk]
  refine aw_xgets rfl (fun U hU => (xt_1 hx U hU).1) kl_X4_25 ?_
  refine aw_iload_n rfl rfl ?_
  refine aw_xti rfl (fun U hU => (xt_1 hx U hU).2) rfl (by omega) (by decide) rfl ?_
  rw [xa_1 k hk]
  refine aw_imul rfl ?_
  refine aw_iadd rfl ?_
  rw [kRow_e]
  refine aw_istore_n rfl (by decide) ?_
  refine aw_xgets rfl (fun U hU => (xt_2 hx U hU).1) kl_X4_92 ?_
  refine aw_xgets rfl (fun U hU => (xt_3 hx U hU).1) kl_X4_85 ?_
  refine aw_iload_n rfl rfl ?_
  refine aw_xti rfl (fun U hU => (xt_3 hx U hU).2) rfl (by omega) (by decide) rfl ?_
  rw [xa_3 k hk]
  refine aw_aload_n rfl rfl ?_
  refine pg_3_1 rfl kl_X4_11 ?_
  refine aw_iload_n rfl rfl ?_
  refine aw_xgets rfl (fun U hU => (xt_1 hx U hU).1) kl_X4_25 ?_
  refine aw_iload_n rfl rfl ?_
  refine aw_xti rfl (fun U hU => (xt_1 hx U hU).2) rfl (by omega) (by decide) rfl ?_
  rw [xa_1 k hk]
  refine aw_xcopyN (q1 := 4) (n0 := 9) (n1 := 43) (a := kA k) (b := kRow k c) (c := kI k) (f := fun i => (xArr.getD 2 []).getD i 0) rfl km_X4_95 (aw_t2 129 rfl rfl) (aw_t2 128 rfl rfl) (aw_t1 15 rfl rfl) (fun U hU => (xt_2 hx U hU).2) rfl rfl rfl rfl (by omega) (by omega) (by decide) (by decide) (by decide) (Nat.le_of_ble_eq_true rfl) rfl ?_
  exact aw_fv rfl rfl (congrArg (fun z => hp g z n) ((km_R (R := R) (f := va_cpy (fun i => (xArr.getD 2 []).getD i 0) R (kA k) (kRow k c) (kI k))).trans (congrArg (fun z => km s a z C) (cpy_wr (fun i hi => xa_2 k hk i hi)))))
set_option maxRecDepth 4000 in
theorem c_X4_item {l : Launch} {g : ag_G} {s : am_S} {n : am_N} (hx : aw_hx g) {k c i : Nat} (hk : k < 3) (hc : c < kM k) (hi : i < kI k) : aw_F l g mi_X4_item 0 [.ref (g_ad g 3), .int (nI k), .int (nI c), .int (nI i)] (hp g s n) (.int (s 4 (kRow k c + i))) (hp g s n) := by
  have hb := k_b k hk
  have hr := kRow_b hk hc
  refine aw_F_of mo_X4_item (by decide) (Nat.le_of_ble_eq_true rfl) ?_
  refine aw_aload_n rfl rfl ?_
  refine pg_3_1 rfl kl_X4_11 ?_
  refine aw_xgets rfl (fun U hU => (xt_0 hx U hU).1) kl_X4_22 ?_
  refine aw_iload_n rfl rfl ?_
  refine aw_xti rfl (fun U hU => (xt_0 hx U hU).2) rfl (by omega) (by decide) rfl ?_
  rw [xa_0 k hk]
  refine aw_iload_n rfl rfl ?_
  refine aw_xgets rfl (fun U hU => (xt_1 hx U hU).1) kl_X4_25 ?_
  refine aw_iload_n rfl rfl ?_
  refine aw_xti rfl (fun U hU => (xt_1 hx U hU).2) rfl (by omega) (by decide) rfl ?_
  rw [xa_1 k hk]
  refine aw_imul rfl ?_
  refine aw_iadd rfl ?_
  rw [kRow_e]
  refine aw_iload_n rfl rfl ?_
  refine aw_iadd rfl ?_
  refine pl_4 (j := kRow k c + i) rfl (nI_add _ _) (by omega) ?_
  exact aw_fi rfl rfl rfl rfl
theorem c_X4_clausesOf {l : Launch} {g : ag_G} {s : am_S} {n : am_N} {k : Nat} (hk : k < 3) : aw_F l g mi_X4_clausesOf 0 [.ref (g_ad g 3), .int (nI k)] (hp g s n) (.int (s 5 k)) (hp g s n) := by
  refine aw_F_of mo_X4_clausesOf (by decide) (Nat.le_of_ble_eq_true rfl) ?_
  refine aw_aload_n rfl rfl ?_
  refine pg_3_2 rfl kl_X4_15 ?_
  refine aw_iload_n rfl rfl ?_
  refine pl_5 (j := k) rfl rfl hk ?_
  exact aw_fi rfl rfl rfl rfl
set_option maxRecDepth 4000 in
theorem c_X4_lettersOf {l : Launch} {g : ag_G} {ws : va_W} (hx : aw_hx g) {k : Nat} (hk : k < 3) : aw_F l g mi_X4_lettersOf 0 [.int (nI k)] ws (.ref (g_ad g (100 + (k + 1)))) ws := by
  refine aw_F_of mo_X4_lettersOf (by decide) (Nat.le_of_ble_eq_true rfl) ?_
  rcases (show k = 0 ∨ k = 1 ∨ k = 2 by omega) with rfl | rfl | rfl
  · skip
    refine aw_iload_n rfl rfl ?_
    refine aw_if_ne (tgt := 9) rfl (by decide) (fun h1 => absurd (rfl) h1) (fun h1 => ?_)
    refine aw_ldcS rfl (xr_X4_101 hx) ?_
    refine aw_goto (tgt := 21) rfl (by decide) ?_
    exact aw_sret rfl rfl ⟨rfl, rfl⟩
  · skip
    refine aw_iload_n rfl rfl ?_
    refine aw_if_ne (tgt := 9) rfl (by decide) (fun h1 => ?_) (fun h1 => absurd h1 (by decide))
    refine aw_iload_n rfl rfl ?_
    refine aw_iconst (v := 1) rfl (by decide) ?_
    refine aw_icmp_ne (tgt := 19) rfl (by decide) (fun h11 => absurd (rfl) h11) (fun h11 => ?_)
    refine aw_ldcS rfl (xr_X4_103 hx) ?_
    refine aw_goto (tgt := 21) rfl (by decide) ?_
    exact aw_sret rfl rfl ⟨rfl, rfl⟩
  · skip
    refine aw_iload_n rfl rfl ?_
    refine aw_if_ne (tgt := 9) rfl (by decide) (fun h1 => ?_) (fun h1 => absurd h1 (by decide))
    refine aw_iload_n rfl rfl ?_
    refine aw_iconst (v := 1) rfl (by decide) ?_
    refine aw_icmp_ne (tgt := 19) rfl (by decide) (fun h11 => ?_) (fun h11 => absurd h11 (by decide))
    refine aw_ldcS rfl (xr_X4_105 hx) ?_
    exact aw_sret rfl rfl ⟨rfl, rfl⟩
def PNu (g : ag_G) (s : am_S) (n : am_N) (R C : Nat → Int32) (q : Nat) : Except Nat (Nat × Nat) → Option Value → va_W → Prop
  | .ok z => fun o y => o = some (.int 1) ∧ y = hp g (km s z.1 (upd R q (nI z.2)) C) n
  | .error e => fun o y => o = some (.int 0) ∧ y = hp g (km s e R C) n
set_option maxRecDepth 4000 in
theorem c_X4_readsNumber {l : Launch} {g : ag_G} {s : am_S} {n : am_N} {E p i : Nat} {tx : Nat → Nat} {R C : Nat → Int32} (hx : aw_hx g) (hT : CT s E tx) (hpE : p ≤ E) {k c : Nat} (hk : k < 3) (hc : c < kM k) (hCk : C k = nI c) (hi : i < kI k) : aw_M l g mi_X4_readsNumber 1 0 0 [.ref (g_ad g 3), .int (nI k), .int (nI i)] (hp g (km s p R C) n) (PNu g s n R C (kRow k c + i) (nm2 tx E p (msN (kD k) i))) := by
  have hb := k_b k hk
  have hr := kRow_b hk hc
  have h5 := xa_5 k hk i hi
  have hnb := nm2_b (tx := tx) (E := E) (p := p) (M := msN (kD k) i) hpE
  have hcn := fun (R' : Nat → Int32) => c_numK (l := l) (g := g) (n := n) (R := R') (C := C) hT hpE h5.2
  cases hN : nm2 tx E p (msN (kD k) i) with
  | ok z =>
    rw [hN] at hcn hnb
    have hz : z.2 ≤ 99 := Nat.le_trans hnb.2.2 h5.2
    have hcn2 : ∀ R' : Nat → Int32, aw_F l g mi_X10_number 0 [.ref (g_ad g 1), .int 2, .int (nI (msN (kD k) i))] (hp g (km s (skw tx E p) R' C) n) (.int (nI z.2)) (hp g (km s z.1 R' C) n) := hcn
    refine aw_M_of mo_X4_readsNumber (by decide) (Nat.le_of_ble_eq_true rfl) ?_
    refine aw_aload_n rfl rfl ?_
    refine pg_3_0 rfl kl_X4_18 ?_
    refine aw_iV (q0 := 1) (ci := 10) rfl cw_X4_48 rfl rfl rfl (c_signK hT hpE) rfl rfl (Nat.le_of_ble_eq_true rfl) (by decide) (by decide) (by decide) (by decide) ?_
    refine aw_pop rfl rfl ?_
    refine aw_aload_n rfl rfl ?_
    refine pg_3_0 rfl kl_X4_18 ?_
    refine aw_iconst (v := 2) rfl (by decide) ?_
    refine aw_xgets rfl (fun U hU => (xt_5 hx U hU).1) kl_X4_82 ?_
    refine aw_xgets rfl (fun U hU => (xt_3 hx U hU).1) kl_X4_85 ?_
    refine aw_iload_n rfl rfl ?_
    refine aw_xti rfl (fun U hU => (xt_3 hx U hU).2) rfl (by omega) (by decide) rfl ?_
    rw [xa_3 k hk]
    refine aw_iload_n rfl rfl ?_
    refine aw_iadd rfl ?_
    refine aw_xti rfl (fun U hU => (xt_5 hx U hU).2) (nI_add _ _) (by omega) (by decide) rfl ?_
    rw [h5.1]
    refine aw_iV (q0 := 1) (ci := 10) rfl cw_X4_88 rfl rfl rfl (hcn2 R) rfl rfl (Nat.le_of_ble_eq_true rfl) (by decide) (by decide) (by decide) (by decide) ?_
    refine aw_istore_n rfl (by decide) ?_
    refine aw_iload_n rfl rfl ?_
    refine aw_iconst (v := -1) rfl (by decide) ?_
    refine aw_icmp_ne (tgt := 35) rfl (by decide) (fun h30 => ?_) (fun h30 => absurd h30 (nI_m1n (m := z.2) (by omega)))
    refine aw_aload_n rfl rfl ?_
    refine pg_3_1 rfl kl_X4_11 ?_
    refine aw_xgets rfl (fun U hU => (xt_0 hx U hU).1) kl_X4_22 ?_
    refine aw_iload_n rfl rfl ?_
    refine aw_xti rfl (fun U hU => (xt_0 hx U hU).2) rfl (by omega) (by decide) rfl ?_
    rw [xa_0 k hk]
    refine aw_aload_n rfl rfl ?_
    refine pg_3_2 rfl kl_X4_15 ?_
    refine aw_iload_n rfl rfl ?_
    refine pl_5 (j := k) rfl rfl hk ?_
    rw [show km s z.1 R C 5 k = nI c from hCk]
    refine aw_xgets rfl (fun U hU => (xt_1 hx U hU).1) kl_X4_25 ?_
    refine aw_iload_n rfl rfl ?_
    refine aw_xti rfl (fun U hU => (xt_1 hx U hU).2) rfl (by omega) (by decide) rfl ?_
    rw [xa_1 k hk]
    refine aw_imul rfl ?_
    refine aw_iadd rfl ?_
    rw [kRow_e]
    refine aw_iload_n rfl rfl ?_
    refine aw_iadd rfl ?_
    refine aw_iload_n rfl rfl ?_
    refine ps_4 (j := kRow k c + i) rfl (nI_add _ _) (by omega) ?_
    refine aw_iconst (v := 1) rfl (by decide) ?_
    exact aw_z1 rfl rfl ⟨rfl, congrArg (fun z => hp g z n) km_4⟩
  | error e =>
    rw [hN] at hcn
    have hcn2 : ∀ R' : Nat → Int32, aw_F l g mi_X10_number 0 [.ref (g_ad g 1), .int 2, .int (nI (msN (kD k) i))] (hp g (km s (skw tx E p) R' C) n) (.int (-1)) (hp g (km s e R' C) n) := hcn
    refine aw_M_of mo_X4_readsNumber (by decide) (Nat.le_of_ble_eq_true rfl) ?_
    refine aw_aload_n rfl rfl ?_
    refine pg_3_0 rfl kl_X4_18 ?_
    refine aw_iV (q0 := 1) (ci := 10) rfl cw_X4_48 rfl rfl rfl (c_signK hT hpE) rfl rfl (Nat.le_of_ble_eq_true rfl) (by decide) (by decide) (by decide) (by decide) ?_
    refine aw_pop rfl rfl ?_
    refine aw_aload_n rfl rfl ?_
    refine pg_3_0 rfl kl_X4_18 ?_
    refine aw_iconst (v := 2) rfl (by decide) ?_
    refine aw_xgets rfl (fun U hU => (xt_5 hx U hU).1) kl_X4_82 ?_
    refine aw_xgets rfl (fun U hU => (xt_3 hx U hU).1) kl_X4_85 ?_
    refine aw_iload_n rfl rfl ?_
    refine aw_xti rfl (fun U hU => (xt_3 hx U hU).2) rfl (by omega) (by decide) rfl ?_
    rw [xa_3 k hk]
    refine aw_iload_n rfl rfl ?_
    refine aw_iadd rfl ?_
    refine aw_xti rfl (fun U hU => (xt_5 hx U hU).2) (nI_add _ _) (by omega) (by decide) rfl ?_
    rw [h5.1]
    refine aw_iV (q0 := 1) (ci := 10) rfl cw_X4_88 rfl rfl rfl (hcn2 R) rfl rfl (Nat.le_of_ble_eq_true rfl) (by decide) (by decide) (by decide) (by decide) ?_
    refine aw_istore_n rfl (by decide) ?_
    refine aw_iload_n rfl rfl ?_
    refine aw_iconst (v := -1) rfl (by decide) ?_
    refine aw_icmp_ne (tgt := 35) rfl (by decide) (fun h30 => absurd (rfl) h30) (fun h30 => ?_)
    refine aw_iconst (v := 0) rfl (by decide) ?_
    exact aw_z0 rfl rfl ⟨rfl, rfl⟩
section AwNu
variable {l : Launch} {g : ag_G} {M : ag_M} {R : Room} {Z : ag_Z} {pc : Nat} {L : List (Option Value)} {s : am_S} {n : am_N} {ws : va_W}
theorem aw_nu {N : ag_M} {index d k q0 ci b q : Nat} {R' C' : Nat → Int32} {rr : Except Nat (Nat × Nat)} {C : vw_C} {fs As rest st0 : List Value}
    (hd : m_at M pc = some (.invokevirtual index, 3)) (hw : aw_cV (m_y M).cls index N k) (hc : aw_cl[ci]? = some C) (hcn : C.1 = (m_y N).cls) (he : ws[q0]? = some (b, .inr (ci, fs)))
    (hM : aw_M l g N d 0 0 (.ref b :: As) ws (PNu g s n R' C' q rr)) (hk : As.length = k) (hst : st0 = As.reverse ++ .ref b :: rest) (hrest : (rest.map fun v => v.category).sum ≤ 8) (hf : d + 1 ≤ R.frames) (hlo : 8 + (m_n N + 11) + 100 * d ≤ R.locals) (h1 : 0 ≤ R.cells) (h2 : 0 ≤ R.slots)
    (ko : ∀ z, rr = .ok z → aw_W l g M R Z 0 0 (hp g (km s z.1 (upd R' q (nI z.2)) C') n) (pc + 3) L (.int 1 :: rest)) (kn : ∀ e, rr = .error e → aw_W l g M R Z 0 0 (hp g (km s e R' C') n) (pc + 3) L (.int 0 :: rest)) : aw_W l g M R Z 0 0 ws pc L st0 :=
  aw_callV hd hw hc hcn he hM hk hst hrest hf hlo h1 h2 (by
    cases rr with
    | ok z => rintro r y ⟨rfl, rfl⟩; exact ko z rfl
    | error e => rintro r y ⟨rfl, rfl⟩; exact kn e rfl)
end AwNu
/-- where a clause's items have been read: Q follows -/
def QI (g : ag_G) (s : am_S) (n : am_N) (tx : Nat → Nat) (E k c : Nat) (R C : Nat → Int32) (Q : Option Value → va_W → Prop) : Except Nat (Nat × (Nat → Int32)) → Prop
  | .error e => ∀ R', Q (some (.int 0)) (hp g (km s e R' C) n)
  | .ok z => ((cst tx E z.1 = 59 ∨ cst tx E z.1 = -1) → Q (some (.int 1)) (hp g (km s z.1 (wrV R (kRow k c) (kI k) z.2) (upd C k (nI (c + 1)))) n)) ∧ (¬ (cst tx E z.1 = 59 ∨ cst tx E z.1 = -1) → ∀ R', Q (some (.int 0)) (hp g (km s (skw tx E z.1) R' C) n))
set_option maxRecDepth 4000 in
theorem kr_loop {l : Launch} {g : ag_G} {s : am_S} {n : am_N} {E : Nat} {tx : Nat → Nat} {R C : Nat → Int32} (hx : aw_hx g) (hT : CT s E tx) {k c : Nat} (hk : k < 3) (hc : c < kM k) (hCk : C k = nI c) {Q : Option Value → va_W → Prop} : ∀ (d p D t : Nat) (r : Nat → Int32), E - p < d → p ≤ E → D < 2 ^ kI k → pcn D = t → QI g s n tx E k c R C Q (itL tx E (k + 1) (msN (kD k)) 0 d p (nI D) r) → aw_W l g mi_X4_readsClause (aw_rm 4 0 0) (aw_Z g Q 0 0) 0 0 (hp g (km s p (wrV R (kRow k c) (kI k) r) C) n) 68 [some (.ref (g_ad g 3)), none, some (.int (nI k)), some (.int (nI D)), some (.int (nI t)), none] [] := by
  have hE := hT.2.1
  have hb := k_b k hk
  have hr := kRow_b hk hc
  have hpw := pw5 hb.1
  intro d
  induction d with
  | zero => intro p D t r h; omega
  | succ d ih =>
    intro p D t r hd hpE hD ht hQ
    have hsk := skw_b (tx := tx) hpE
    have hce : cst tx E (skw tx E p) = cst tx E p := by unfold cst; rw [skw_sk hpE]
    have htk : t ≤ kI k := by rw [← ht]; exact pcn_le (kI k) (by omega) D hD
    simp only [itL] at hQ
    by_cases hend : cst tx E p = -1 ∨ cst tx E p = 59
    · have hno : xsp (k + 1) (cst tx E p) = none := by
        rcases hend with h | h
        · rw [h]; exact xsp_m1 _ (by omega)
        · rw [h]; exact xK_59 k hk
      rw [hno] at hQ
      have hq := hQ.1 (by rw [hce]; exact hend.symm)
      refine aw_iload rfl rfl ?_
      refine aw_xgets rfl (fun U hU => (xt_1 hx U hU).1) kl_X4_25 ?_
      refine aw_iload_n rfl rfl ?_
      refine aw_xti rfl (fun U hU => (xt_1 hx U hU).2) rfl (by omega) (by decide) rfl ?_
      rw [xa_1 k hk]
      refine aw_icmp_gt (tgt := 174) rfl (by decide) (fun h75 => absurd h75 (nI_nlt htk (by omega))) (fun h75 => ?_)
      refine aw_aload_n rfl rfl ?_
      refine pg_3_0 rfl kl_X4_18 ?_
      refine aw_iV (q0 := 1) (ci := 10) rfl cw_X4_48 rfl rfl rfl (c_signK hT hpE) rfl rfl (Nat.le_of_ble_eq_true rfl) (by decide) (by decide) (by decide) (by decide) ?_
      refine aw_istore_n rfl (by decide) ?_
      refine aw_iload_n rfl rfl ?_
      refine aw_iconst (v := -1) rfl (by decide) ?_
      refine aw_icmp_eq (tgt := 97) rfl (by decide) (fun h88 => ?_) (fun h88 => ?_)
      · refine aw_aload_n rfl rfl ?_
        refine pg_3_2 rfl kl_X4_15 ?_
        refine aw_iload_n rfl rfl ?_
        refine aw_dup2 rfl rfl rfl ?_
        refine pl_5 (j := k) rfl rfl hk ?_
        refine aw_iconst (v := 1) rfl (by decide) ?_
        refine aw_iadd rfl ?_
        refine ps_5 (j := k) rfl rfl hk ?_
        refine aw_iconst (v := 1) rfl (by decide) ?_
        exact aw_z1 rfl rfl (by (rw [km_5, show km s (skw tx E p) (wrV R (kRow k c) (kI k) r) C 5 k = nI c from hCk, nI_1]; exact hq))
      · refine aw_iload_n rfl rfl ?_
        refine aw_bipush (v := 59) rfl (by decide) ?_
        refine aw_icmp_ne (tgt := 109) rfl (by decide) (fun h94 => absurd (hend.resolve_left h88) h94) (fun h94 => ?_)
        refine aw_aload_n rfl rfl ?_
        refine pg_3_2 rfl kl_X4_15 ?_
        refine aw_iload_n rfl rfl ?_
        refine aw_dup2 rfl rfl rfl ?_
        refine pl_5 (j := k) rfl rfl hk ?_
        refine aw_iconst (v := 1) rfl (by decide) ?_
        refine aw_iadd rfl ?_
        refine ps_5 (j := k) rfl rfl hk ?_
        refine aw_iconst (v := 1) rfl (by decide) ?_
        exact aw_z1 rfl rfl (by (rw [km_5, show km s (skw tx E p) (wrV R (kRow k c) (kI k) r) C 5 k = nI c from hCk, nI_1]; exact hq))
    · have hm1 : ¬ cst tx E p = -1 := fun e => hend (Or.inl e)
      have h59 : ¬ cst tx E p = 59 := fun e => hend (Or.inr e)
      obtain ⟨q, -, hq, hcq⟩ := (CT_c hT (p := p)).resolve_left hm1
      have hxi : xix (k + 1) (nI q) = on (xsp (k + 1) (cst tx E p)) := by rw [hcq]; exact xK_on k hk q hq
      have hnx : skw tx E p + 1 ≤ E := by have := cst_lt hm1; omega
      cases hi : xsp (k + 1) (cst tx E p) with
      | none =>
        rw [hi] at hQ
        have hq2 := hQ.2 (fun e => hend (by rw [hce] at e; exact e.symm))
        rw [skw_sk hpE] at hq2
        refine aw_iload rfl rfl ?_
        refine aw_xgets rfl (fun U hU => (xt_1 hx U hU).1) kl_X4_25 ?_
        refine aw_iload_n rfl rfl ?_
        refine aw_xti rfl (fun U hU => (xt_1 hx U hU).2) rfl (by omega) (by decide) rfl ?_
        rw [xa_1 k hk]
        refine aw_icmp_gt (tgt := 174) rfl (by decide) (fun h75 => absurd h75 (nI_nlt htk (by omega))) (fun h75 => ?_)
        refine aw_aload_n rfl rfl ?_
        refine pg_3_0 rfl kl_X4_18 ?_
        refine aw_iV (q0 := 1) (ci := 10) rfl cw_X4_48 rfl rfl rfl (c_signK hT hpE) rfl rfl (Nat.le_of_ble_eq_true rfl) (by decide) (by decide) (by decide) (by decide) ?_
        refine aw_istore_n rfl (by decide) ?_
        refine aw_iload_n rfl rfl ?_
        refine aw_iconst (v := -1) rfl (by decide) ?_
        refine aw_icmp_eq (tgt := 97) rfl (by decide) (fun h88 => absurd h88 (hm1)) (fun h88 => ?_)
        refine aw_iload_n rfl rfl ?_
        refine aw_bipush (v := 59) rfl (by decide) ?_
        refine aw_icmp_ne (tgt := 109) rfl (by decide) (fun h94 => ?_) (fun h94 => absurd h94 (h59))
        refine aw_iload_n rfl rfl ?_
        refine aw_iS rfl cw_X4_74 (c_X4_lettersOf hx hk) rfl rfl (Nat.le_of_ble_eq_true rfl) (by decide) (by decide) (by decide) (by decide) ?_
        refine aw_iload_n rfl rfl ?_
        refine aw_i2c rfl ?_
        rw [show ((cst tx E p).toUInt32 % 65536).toInt32 = nI q from by (rw [hcq]; exact i2c_nI hq)]
        refine aw_iX rfl cw_X4_65 (xs_recv hx (i := k + 1) (by omega)) (c_indexOf hx (i := k + 1) (by omega) hq) rfl rfl (Nat.le_of_ble_eq_true rfl) (by decide) (by decide) (by decide) (by decide) ?_
        rw [hxi, hi]
        refine aw_istore rfl (by decide) ?_
        refine aw_iload rfl rfl ?_
        refine aw_if_lt (tgt := 134) rfl (by decide) (fun h122 => ?_) (fun h122 => absurd (show (-1 : Int32) < 0 from by decide) h122)
        refine aw_iconst (v := 0) rfl (by decide) ?_
        exact aw_z0 rfl rfl (hq2 _)
      | some i =>
        rw [hi] at hQ
        have hil : i < kI k := by have := xsp_lt hi; rw [xK_len k hk] at this; exact this
        have hth := hs_tb D (by omega) i (by omega)
        have htt := bd_tb D (by omega) i (by omega)
        dsimp only at hQ
        by_cases hbit : D.testBit i = true
        · rw [if_pos (by rw [hth]; exact hbit)] at hQ
          have hb131 : ¬ (nI D >>> (nI i &&& 31)) &&& 1 = 0 := fun e => by rw [tb_f e, hbit] at htt; cases htt
          refine aw_iload rfl rfl ?_
          refine aw_xgets rfl (fun U hU => (xt_1 hx U hU).1) kl_X4_25 ?_
          refine aw_iload_n rfl rfl ?_
          refine aw_xti rfl (fun U hU => (xt_1 hx U hU).2) rfl (by omega) (by decide) rfl ?_
          rw [xa_1 k hk]
          refine aw_icmp_gt (tgt := 174) rfl (by decide) (fun h75 => absurd h75 (nI_nlt htk (by omega))) (fun h75 => ?_)
          refine aw_aload_n rfl rfl ?_
          refine pg_3_0 rfl kl_X4_18 ?_
          refine aw_iV (q0 := 1) (ci := 10) rfl cw_X4_48 rfl rfl rfl (c_signK hT hpE) rfl rfl (Nat.le_of_ble_eq_true rfl) (by decide) (by decide) (by decide) (by decide) ?_
          refine aw_istore_n rfl (by decide) ?_
          refine aw_iload_n rfl rfl ?_
          refine aw_iconst (v := -1) rfl (by decide) ?_
          refine aw_icmp_eq (tgt := 97) rfl (by decide) (fun h88 => absurd h88 (hm1)) (fun h88 => ?_)
          refine aw_iload_n rfl rfl ?_
          refine aw_bipush (v := 59) rfl (by decide) ?_
          refine aw_icmp_ne (tgt := 109) rfl (by decide) (fun h94 => ?_) (fun h94 => absurd h94 (h59))
          refine aw_iload_n rfl rfl ?_
          refine aw_iS rfl cw_X4_74 (c_X4_lettersOf hx hk) rfl rfl (Nat.le_of_ble_eq_true rfl) (by decide) (by decide) (by decide) (by decide) ?_
          refine aw_iload_n rfl rfl ?_
          refine aw_i2c rfl ?_
          rw [show ((cst tx E p).toUInt32 % 65536).toInt32 = nI q from by (rw [hcq]; exact i2c_nI hq)]
          refine aw_iX rfl cw_X4_65 (xs_recv hx (i := k + 1) (by omega)) (c_indexOf hx (i := k + 1) (by omega) hq) rfl rfl (Nat.le_of_ble_eq_true rfl) (by decide) (by decide) (by decide) (by decide) ?_
          rw [hxi, hi, show on (some i) = nI i from rfl]
          refine aw_istore rfl (by decide) ?_
          refine aw_iload rfl rfl ?_
          refine aw_if_lt (tgt := 134) rfl (by decide) (fun h122 => absurd h122 (nI_pos (n := i) (by omega))) (fun h122 => ?_)
          refine aw_iload_n rfl rfl ?_
          refine aw_iload rfl rfl ?_
          refine aw_ishr rfl ?_
          refine aw_iconst (v := 1) rfl (by decide) ?_
          refine aw_iand rfl ?_
          refine aw_if_eq (tgt := 136) rfl (by decide) (fun h131 => absurd h131 (hb131)) (fun h131 => ?_)
          refine aw_iconst (v := 0) rfl (by decide) ?_
          exact aw_z0 rfl rfl (hQ _)
        · rw [if_neg (by rw [hth]; exact hbit)] at hQ
          have hbf : D.testBit i = false := by simpa using hbit
          have hb131 : (nI D >>> (nI i &&& 31)) &&& 1 = 0 := Decidable.of_not_not (fun e => by rw [tb_t e, hbf] at htt; cases htt)
          have hor := bd_or D (by omega) i (by omega)
          have hD2 := bd_lt (kI k) (by omega) D hD i hil
          have hinc := bd_inc D (by omega) i (by omega) hbf
          have hnb := nm2_b (tx := tx) (E := E) (p := skw tx E p + 1) (M := msN (kD k) i) hnx
          rw [show nI D ||| bt i = nI (D ||| 2 ^ i) from hor.1] at hQ
          refine aw_iload rfl rfl ?_
          refine aw_xgets rfl (fun U hU => (xt_1 hx U hU).1) kl_X4_25 ?_
          refine aw_iload_n rfl rfl ?_
          refine aw_xti rfl (fun U hU => (xt_1 hx U hU).2) rfl (by omega) (by decide) rfl ?_
          rw [xa_1 k hk]
          refine aw_icmp_gt (tgt := 174) rfl (by decide) (fun h75 => absurd h75 (nI_nlt htk (by omega))) (fun h75 => ?_)
          refine aw_aload_n rfl rfl ?_
          refine pg_3_0 rfl kl_X4_18 ?_
          refine aw_iV (q0 := 1) (ci := 10) rfl cw_X4_48 rfl rfl rfl (c_signK hT hpE) rfl rfl (Nat.le_of_ble_eq_true rfl) (by decide) (by decide) (by decide) (by decide) ?_
          refine aw_istore_n rfl (by decide) ?_
          refine aw_iload_n rfl rfl ?_
          refine aw_iconst (v := -1) rfl (by decide) ?_
          refine aw_icmp_eq (tgt := 97) rfl (by decide) (fun h88 => absurd h88 (hm1)) (fun h88 => ?_)
          refine aw_iload_n rfl rfl ?_
          refine aw_bipush (v := 59) rfl (by decide) ?_
          refine aw_icmp_ne (tgt := 109) rfl (by decide) (fun h94 => ?_) (fun h94 => absurd h94 (h59))
          refine aw_iload_n rfl rfl ?_
          refine aw_iS rfl cw_X4_74 (c_X4_lettersOf hx hk) rfl rfl (Nat.le_of_ble_eq_true rfl) (by decide) (by decide) (by decide) (by decide) ?_
          refine aw_iload_n rfl rfl ?_
          refine aw_i2c rfl ?_
          rw [show ((cst tx E p).toUInt32 % 65536).toInt32 = nI q from by (rw [hcq]; exact i2c_nI hq)]
          refine aw_iX rfl cw_X4_65 (xs_recv hx (i := k + 1) (by omega)) (c_indexOf hx (i := k + 1) (by omega) hq) rfl rfl (Nat.le_of_ble_eq_true rfl) (by decide) (by decide) (by decide) (by decide) ?_
          rw [hxi, hi, show on (some i) = nI i from rfl]
          refine aw_istore rfl (by decide) ?_
          refine aw_iload rfl rfl ?_
          refine aw_if_lt (tgt := 134) rfl (by decide) (fun h122 => absurd h122 (nI_pos (n := i) (by omega))) (fun h122 => ?_)
          refine aw_iload_n rfl rfl ?_
          refine aw_iload rfl rfl ?_
          refine aw_ishr rfl ?_
          refine aw_iconst (v := 1) rfl (by decide) ?_
          refine aw_iand rfl ?_
          refine aw_if_eq (tgt := 136) rfl (by decide) (fun h131 => ?_) (fun h131 => absurd (hb131) h131)
          refine aw_aload_n rfl rfl ?_
          refine pg_3_0 rfl kl_X4_18 ?_
          refine aw_dup rfl rfl ?_
          refine pg_1_2 rfl kl_X4_28 ?_
          refine aw_iconst (v := 1) rfl (by decide) ?_
          refine aw_iadd rfl ?_
          refine pp_1_2 rfl kl_X4_28 ?_
          refine aw_eqs (ws' := hp g (km s (skw tx E p + 1) (wrV R (kRow k c) (kI k) r) C) n) ?_ rfl rfl (congrArg (fun z => hp g z n) km_in)
          refine aw_iload_n rfl rfl ?_
          refine aw_iconst (v := 1) rfl (by decide) ?_
          refine aw_iload rfl rfl ?_
          refine aw_ishl rfl ?_
          refine aw_ior rfl ?_
          rw [hor.1]
          refine aw_istore_n rfl (by decide) ?_
          refine aw_aload_n rfl rfl ?_
          refine aw_iload_n rfl rfl ?_
          refine aw_iload rfl rfl ?_
          refine aw_nu (q0 := 3) (ci := 4) rfl cw_X4_78 rfl rfl rfl (c_X4_readsNumber hx hT hnx hk hc hCk hil) rfl rfl (Nat.le_of_ble_eq_true rfl) (by decide) (by decide) (by decide) (by decide) (fun z hz => ?_) (fun e hz => ?_)
          · rw [hz] at hQ hnb
            refine aw_if_ne (tgt := 168) rfl (by decide) (fun h163 => ?_) (fun h163 => absurd h163 (by decide))
            refine aw_inc1 rfl rfl (by decide) ?_
            refine aw_goto (tgt := 68) rfl (by decide) ?_
            rw [wrV_up hil]
            exact aw_wk (ih z.1 (D ||| 2 ^ i) (t + 1) _ (by have := hnb.1; omega) hnb.2.1 hD2 (by omega) hQ) (And.intro rfl (And.intro rfl (And.intro rfl (And.intro (congrArg (fun x => some (Value.int x)) (nI_1 t)) True.intro))))
          · rw [hz] at hQ
            refine aw_if_ne (tgt := 168) rfl (by decide) (fun h163 => absurd (rfl) h163) (fun h163 => ?_)
            refine aw_iconst (v := 0) rfl (by decide) ?_
            exact aw_z0 rfl rfl (hQ _)
