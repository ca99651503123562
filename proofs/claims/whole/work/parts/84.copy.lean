/-! Arrays.copyOf, and what is kept of a read law or reign -/
theorem apx_get {ws : va_W} {x : Nat × va_E} : (ws ++ [x])[ws.length]? = some x := by simp
theorem apx_old {ws : va_W} {x y : Nat × va_E} {q : Nat} (h : ws[q]? = some y) : (ws ++ [x])[q]? = some y := by
  rw [List.getElem?_append_left (List.getElem?_eq_some_iff.mp h).1]; exact h
theorem apx_set {ws : va_W} {x y : Nat × va_E} : (ws ++ [x]).set ws.length y = ws ++ [y] := by simp
/-- what of the start the makers need: a clone of ints, rows of rows -/
def aw_hz (g : ag_G) : Prop := (∀ U, g_X g U → va_Nw (.castable "[I" "java/lang/Cloneable") U) ∧ ∀ U, g_X g U → aw_AO U
theorem mn_cp {m n0 : Nat} (hm : m ≤ n0) (hn : n0 ≤ 240) : (if nI m < Int32.ofNat n0 then nI m else Int32.ofNat n0) = nI m := by
  by_cases e : m < n0
  · rw [if_pos (show nI m < Int32.ofNat n0 from nI_lt (b := n0) e (by omega))]
  · rw [show n0 = m by omega]; exact ite_self _
set_option maxRecDepth 4000 in
theorem c_copyOf {l : Launch} {g : ag_G} {ws : va_W} (hz : aw_hz g) {q0 a0 n0 m : Nat} {f : Nat → Int32} (ha : ws[q0]? = some (a0, .inl (g_ca g 0, n0, .inl f))) (hn : n0 ≤ 240) (hm : m ≤ n0) : aw_M l g mi_J7_copyOf_59c91 1 1 240 [.ref a0, .int (nI m)] ws (fun r z => ∃ q f', r = some (.ref q) ∧ z = ws ++ [(q, .inl (g_ca g 0, m, .inl f'))] ∧ ∀ j, j < m → f' j = f j) := by
  refine aw_M_of mo_J7_copyOf_59c91 (by decide) (Nat.le_of_ble_eq_true rfl) ?_
  refine aw_iload_n rfl rfl ?_
  refine aw_aload_n rfl rfl ?_
  refine aw_alen (q0 := q0) 0 rfl (by decide) ha rfl ?_
  refine aw_icmp_ne (tgt := 14) rfl (by decide) (fun h3 => ?_) (fun h3 => ?_)
  · refine aw_iload_n rfl rfl ?_
    refine aw_newi (N := m) rfl (aw_t1 56 rfl rfl) rfl (by omega) (by decide) (by show 0 + m ≤ 240; omega) (fun q => ?_)
    refine aw_astore_n rfl (by decide) ?_
    refine aw_aload_n rfl rfl ?_
    refine aw_iconst (v := 0) rfl (by decide) ?_
    refine aw_aload_n rfl rfl ?_
    refine aw_iconst (v := 0) rfl (by decide) ?_
    refine aw_aload_n rfl rfl ?_
    refine aw_alen (q0 := q0) 0 rfl (by decide) (apx_old ha) rfl ?_
    refine aw_iload_n rfl rfl ?_
    refine aw_mmin rfl km_J7_304 (aw_t2 171 rfl rfl) (aw_t1 18 rfl rfl) (aw_t2 172 rfl rfl) (by decide) (Nat.le_of_ble_eq_true rfl) (by decide) (by show 0 + m ≤ 240; omega) ?_
    rw [mn_cp hm hn]
    refine aw_copyN (q0 := q0) (q1 := ws.length) (a := 0) (b := 0) (c := m) rfl km_J7_150 (aw_t2 129 rfl rfl) (aw_t2 128 rfl rfl) (aw_t1 15 rfl rfl) (apx_old ha) apx_get rfl rfl rfl (by omega) (by omega) (by omega) (by omega) (by decide) (by decide) apx_set ?_
    refine aw_aload_n rfl rfl ?_
    refine aw_widen (c' := 1) (s' := 240) (by omega) (by omega) ?_
    exact aw_aret rfl rfl ⟨q, _, rfl, rfl, fun j hj => by rw [pk_cpy_in (by omega) (by omega)]; exact congrArg f (by omega)⟩
  · have hmn : m = n0 := (nI_eq (a := m) (b := n0) (by omega) (by omega)).mp h3
    refine aw_aload_n rfl rfl ?_
    refine aw_clone (q0 := q0) (N := n0) (f := f) rfl (aw_t3 107 rfl rfl) (aw_t3 108 rfl rfl) (aw_t3 109 rfl rfl) (aw_t3 110 rfl rfl) (aw_t3 111 rfl rfl) hz.1 ha (by decide) (by decide) (by decide) (by show 0 + n0 ≤ 240; omega) (fun q => ?_)
    refine aw_castI (q0 := ws.length) rfl (aw_t3 113 rfl rfl) apx_get ?_
    refine aw_widen (c' := 1) (s' := 240) (by omega) (by omega) ?_
    exact aw_aret rfl rfl ⟨q, f, rfl, by rw [hmn], fun j hj => rfl⟩
set_option maxRecDepth 4000 in
theorem c_X5_copiesCode {l : Launch} {g : ag_G} {s : am_S} {n : am_N} (hz : aw_hz g) {K : Nat} (hK : s 6 2 = nI K) (hK4 : K ≤ 240) : aw_M l g mi_X5_copiesCode 2 1 240 [.ref (g_ad g 6)] (hp g s n) (fun r z => ∃ q f', r = some (.ref q) ∧ z = hp g s (upW n (n.2.2.2 ++ [(q, .inl (g_ca g 0, K, .inl f'))])) ∧ ∀ j, j < K → f' j = s 7 j) := by
  refine aw_M_of mo_X5_copiesCode (by decide) (Nat.le_of_ble_eq_true rfl) ?_
  refine aw_aload_n rfl rfl ?_
  refine pg_6_1 rfl kl_X5_11 ?_
  refine aw_aload_n rfl rfl ?_
  refine pg_6_2 rfl kl_X5_21 ?_
  rw [hK]
  refine aw_callS rfl cw_X5_25 (c_copyOf hz (q0 := 7) (m := K) (f := s 7) rfl (by decide) (by omega)) rfl rfl (Nat.le_of_ble_eq_true rfl) (by decide) (by decide) (by decide) (by decide) (fun r z hy => ?_)
  obtain ⟨q, f', rfl, rfl, hf⟩ := hy
  exact aw_aret rfl rfl ⟨q, f', rfl, rfl, hf⟩
set_option maxRecDepth 4000 in
theorem c_X9_copiesSteps {l : Launch} {g : ag_G} {s : am_S} {n : am_N} (hz : aw_hz g) {t : Nat} (ht : s 8 2 = nI t) (ht4 : t ≤ 16) : aw_M l g mi_X9_copiesSteps 2 1 240 [.ref (g_ad g 8)] (hp g s n) (fun r z => ∃ q f', r = some (.ref q) ∧ z = hp g s (upW n (n.2.2.2 ++ [(q, .inl (g_ca g 0, (3 * t), .inl f'))])) ∧ ∀ j, j < (3 * t) → f' j = s 9 j) := by
  refine aw_M_of mo_X9_copiesSteps (by decide) (Nat.le_of_ble_eq_true rfl) ?_
  refine aw_aload_n rfl rfl ?_
  refine pg_8_1 rfl kl_X9_11 ?_
  refine aw_aload_n rfl rfl ?_
  refine pg_8_2 rfl kl_X9_19 ?_
  refine aw_iconst (v := 3) rfl (by decide) ?_
  refine aw_imul rfl ?_
  rw [show s 8 2 * 3 = nI (3 * t) from by (rw [ht, show nI t * 3 = nI (t * 3) from pk_mul t 3, Nat.mul_comm])]
  refine aw_callS rfl cw_X9_23 (c_copyOf hz (q0 := 9) (m := (3 * t)) (f := s 9) rfl (by decide) (by omega)) rfl rfl (Nat.le_of_ble_eq_true rfl) (by decide) (by decide) (by decide) (by decide) (fun r z hy => ?_)
  obtain ⟨q, f', rfl, rfl, hf⟩ := hy
  exact aw_aret rfl rfl ⟨q, f', rfl, rfl, hf⟩
set_option maxRecDepth 4000 in
theorem c_X6_adds {l : Launch} {g : ag_G} {s : am_S} {n : am_N} (hz : aw_hz g) {K N : Nat} (hK : s 6 2 = nI K) (hK4 : K ≤ 240) (hN : s 10 3 = nI N) (hN4 : N < 4) : aw_M l g mi_X6_adds 3 1 240 [.ref (g_ad g 10), .ref (g_ad g 6)] (hp g s n) (fun r z => ∃ q f', r = some (.int (nI N)) ∧ z = hp g (up s 10 3 (nI (N + 1))) (upQ (upW n (n.2.2.2 ++ [(q, .inl (g_ca g 0, K, .inl f'))])) 11 N (some q)) ∧ ∀ j, j < K → f' j = s 7 j) := by
  refine aw_M_of mo_X6_adds (by decide) (Nat.le_of_ble_eq_true rfl) ?_
  refine aw_aload_n rfl rfl ?_
  refine pg_10_3 rfl kl_X6_29 ?_
  refine aw_iconst (v := 4) rfl (by decide) ?_
  refine aw_icmp_lt (tgt := 10) rfl (by decide) (fun h5 => ?_) (fun h5 => absurd (by rw [hN]; exact nI_lt (b := 4) hN4 (by decide)) h5)
  refine aw_aload_n rfl rfl ?_
  refine pg_10_0 rfl kl_X6_13 ?_
  refine aw_aload_n rfl rfl ?_
  refine pg_10_3 rfl kl_X6_29 ?_
  refine aw_aload_n rfl rfl ?_
  refine aw_callV (q0 := 6) (ci := 5) rfl cw_X6_32 rfl rfl rfl (c_X5_copiesCode hz hK hK4) rfl rfl (Nat.le_of_ble_eq_true rfl) (by decide) (by decide) (by decide) (by decide) (fun r z hy => ?_)
  obtain ⟨q, f', rfl, rfl, hf⟩ := hy
  refine aw_aast (q0 := 11) (qk := n.2.2.2.length + 63) rfl rfl hz.2 (hp_x.trans (show (n.2.2.2 ++ [(q, _)])[n.2.2.2.length]? = some (q, Sum.inl (g_ca g 0, K, Sum.inl f')) from apx_get)) hN (by omega) (by decide) (ws2 := hp g s (upQ (upW n (n.2.2.2 ++ [(q, .inl (g_ca g 0, K, .inl f'))])) 11 N (some q))) rfl ?_
  refine aw_aload_n rfl rfl ?_
  refine aw_dup rfl rfl ?_
  refine pg_10_3 rfl kl_X6_29 ?_
  refine aw_iconst (v := 1) rfl (by decide) ?_
  refine aw_iadd rfl ?_
  refine pp_10_3 rfl kl_X6_29 ?_
  refine aw_eqs (ws' := hp g (up s 10 3 (nI (N + 1))) (upQ (upW n (n.2.2.2 ++ [(q, .inl (g_ca g 0, K, .inl f'))])) 11 N (some q))) ?_ rfl rfl (congrArg (fun z => hp g z _) (by rw [hN, nI_1]))
  refine aw_aload_n rfl rfl ?_
  refine pg_10_3 rfl kl_X6_29 ?_
  refine aw_iconst (v := 1) rfl (by decide) ?_
  refine aw_isub rfl ?_
  exact aw_iret rfl rfl ⟨q, f', congrArg (fun x => some (Value.int x)) (show nI (N + 1) - 1 = nI N from nI_pred N), rfl, hf⟩
