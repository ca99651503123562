theorem mnN (a b : Nat) (ha : a < 2 ^ 31) (hb : b < 2 ^ 31) : (if nI b < nI a then nI b else nI a) = nI (min a b) := by
  by_cases h : b < a
  · rw [if_pos ((nI_ltI hb ha).mpr h), Nat.min_eq_right (by omega)]
  · rw [if_neg (fun q => h ((nI_ltI hb ha).mp q)), Nat.min_eq_left (by omega)]
theorem sl_nI {m : Nat} (hm : m < 2 ^ 31) : (nI m &&& 127) * 3 = nI (m % 128 * 3) := by
  rw [pk_andN (by omega) 7 (by decide)]
  exact pk_mul (m % 2 ^ 7) 3

set_option maxRecDepth 4000 in
theorem c_X0_forgets {l : Launch} {g : ag_G} {s : am_S} {n : am_N} : aw_V l g mi_X0_forgets 0 [.ref (g_ad g 21)] (hp g s n) (hp g (up (up s 21 4 0) 21 7 0) n) := by
  refine aw_V_of mo_X0_forgets (by decide) (Nat.le_of_ble_eq_true rfl) ?_
  refine aw_aload_n rfl rfl ?_
  refine aw_iconst (v := 0) rfl (by decide) ?_
  refine pp_21_4 rfl kl_X0_29 ?_
  refine aw_aload_n rfl rfl ?_
  refine aw_iconst (v := 0) rfl (by decide) ?_
  refine pp_21_7 rfl kl_X0_33 (by first | exact Or.inl rfl | exact Or.inr rfl | exact bB_01) ?_
  exact aw_fv rfl rfl rfl
set_option maxRecDepth 4000 in
theorem c_X0_lengthFor {l : Launch} {g : ag_G} {s : am_S} {n : am_N} : aw_F l g mi_X0_lengthFor 1 [.ref (g_ad g 21), .ref (g_ad g 15)] (hp g s n) (.int (mn 60 (s 16 4))) (hp g s n) := by
  refine aw_F_of mo_X0_lengthFor (by decide) (Nat.le_of_ble_eq_true rfl) ?_
  refine aw_bipush (v := 60) rfl (by decide) ?_
  refine aw_aload_n rfl rfl ?_
  refine pg_15_1 rfl kl_X0_37 ?_
  refine aw_iconst (v := 4) rfl (by decide) ?_
  refine pl_16 (j := 4) rfl rfl (by decide) ?_
  refine aw_mmin rfl km_X0_40 (aw_t2 171 rfl rfl) (aw_t1 18 rfl rfl) (aw_t2 172 rfl rfl) (by decide) (Nat.le_of_ble_eq_true rfl) (by decide) (by decide) ?_
  exact aw_fi rfl rfl rfl rfl
set_option maxRecDepth 4000 in
theorem c_X0_slotOf {l : Launch} {g : ag_G} {s : am_S} {n : am_N} {m : Nat} (hm : m < 2 ^ 31) : aw_F l g mi_X0_slotOf 0 [.int (nI m)] (hp g s n) (.int (nI (m % 128 * 3))) (hp g s n) := by
  refine aw_F_of mo_X0_slotOf (by decide) (Nat.le_of_ble_eq_true rfl) ?_
  refine aw_iload_n rfl rfl ?_
  refine aw_bipush (v := 127) rfl (by decide) ?_
  refine aw_iand rfl ?_
  refine aw_iconst (v := 3) rfl (by decide) ?_
  refine aw_imul rfl ?_
  exact aw_fi rfl rfl (sl_nI hm) rfl
set_option maxRecDepth 4000 in
theorem c_X0_entry {l : Launch} {g : ag_G} {s : am_S} {n : am_N} {m q : Nat} (hm : m < 2 ^ 31) (hq : q < 3) : aw_F l g mi_X0_entry 1 [.ref (g_ad g 21), .int (nI m), .int (nI q)] (hp g s n) (.int (s 22 (m % 128 * 3 + q))) (hp g s n) := by
  refine aw_F_of mo_X0_entry (by decide) (Nat.le_of_ble_eq_true rfl) ?_
  refine aw_aload_n rfl rfl ?_
  refine pg_21_0 rfl kl_X0_11 ?_
  refine aw_iload_n rfl rfl ?_
  refine aw_iS rfl cw_X0_46 (c_X0_slotOf hm) rfl rfl (Nat.le_of_ble_eq_true rfl) (by decide) (by decide) (by decide) (by decide) ?_
  refine aw_iload_n rfl rfl ?_
  refine aw_iadd rfl ?_
  refine pl_22 rfl (nI_add _ _) (by omega) ?_
  exact aw_fi rfl rfl rfl rfl
set_option maxRecDepth 4000 in
theorem c_X0_writes {l : Launch} {g : ag_G} {s : am_S} {n : am_N} {m : Nat} {a b : Int32} (hm : m < 2 ^ 31) (ht : s 16 4 - 1 = nI m) : aw_V l g mi_X0_writes 1 [.ref (g_ad g 21), .ref (g_ad g 15), .int a, .int b] (hp g s n) (hp g (up (up (up s 22 (m % 128 * 3) a) 22 (m % 128 * 3 + 1) b) 22 (m % 128 * 3 + 2) (s 16 2)) n) := by
  refine aw_V_of mo_X0_writes (by decide) (Nat.le_of_ble_eq_true rfl) ?_
  refine aw_aload_n rfl rfl ?_
  refine pg_15_1 rfl kl_X0_37 ?_
  refine aw_iconst (v := 4) rfl (by decide) ?_
  refine pl_16 (j := 4) rfl rfl (by decide) ?_
  refine aw_iconst (v := 1) rfl (by decide) ?_
  refine aw_isub rfl ?_
  rw [ht]
  refine aw_iS rfl cw_X0_46 (c_X0_slotOf hm) rfl rfl (Nat.le_of_ble_eq_true rfl) (by decide) (by decide) (by decide) (by decide) ?_
  refine aw_istore rfl (by decide) ?_
  refine aw_aload_n rfl rfl ?_
  refine pg_21_0 rfl kl_X0_11 ?_
  refine aw_iload rfl rfl ?_
  refine aw_iload_n rfl rfl ?_
  refine ps_22 rfl rfl (by omega) ?_
  refine aw_aload_n rfl rfl ?_
  refine pg_21_0 rfl kl_X0_11 ?_
  refine aw_iload rfl rfl ?_
  refine aw_iconst (v := 1) rfl (by decide) ?_
  refine aw_iadd rfl ?_
  refine aw_iload_n rfl rfl ?_
  refine ps_22 rfl (nI_add _ 1) (by omega) ?_
  refine aw_aload_n rfl rfl ?_
  refine pg_21_0 rfl kl_X0_11 ?_
  refine aw_iload rfl rfl ?_
  refine aw_iconst (v := 2) rfl (by decide) ?_
  refine aw_iadd rfl ?_
  refine aw_aload_n rfl rfl ?_
  refine pg_15_1 rfl kl_X0_37 ?_
  refine aw_iconst (v := 2) rfl (by decide) ?_
  refine pl_16 (j := 2) rfl rfl (by decide) ?_
  refine ps_22 rfl (nI_add _ 2) (by omega) ?_
  exact aw_fv rfl rfl rfl
set_option maxRecDepth 4000 in
theorem c_X0_begins {l : Launch} {g : ag_G} {s : am_S} {n : am_N} : aw_V l g mi_X0_begins 1 [.ref (g_ad g 21), .ref (g_ad g 15)] (hp g s n) (hp g (cp s 16 23 0 0 36) n) := by
  refine aw_V_of mo_X0_begins (by decide) (Nat.le_of_ble_eq_true rfl) ?_
  refine aw_aload_n rfl rfl ?_
  refine pg_15_1 rfl kl_X0_37 ?_
  refine aw_iconst (v := 0) rfl (by decide) ?_
  refine aw_aload_n rfl rfl ?_
  refine pg_21_1 rfl kl_X0_17 ?_
  refine aw_iconst (v := 0) rfl (by decide) ?_
  refine aw_bipush (v := 36) rfl (by decide) ?_
  refine pc_16_23 rfl km_X0_50 (a := 0) (b := 0) (c := 36) rfl rfl rfl (by decide) (by decide) (by decide) (Nat.le_of_ble_eq_true rfl) ?_
  exact aw_fv rfl rfl rfl
set_option maxRecDepth 4000 in
theorem c_X0_keepsAct {l : Launch} {g : ag_G} {s : am_S} {n : am_N} {q a : Nat} (hq : s 21 3 = nI q) (hq4 : q < 40) (ha : s 21 4 = nI a) (ha4 : a ≤ 40) : aw_V l g mi_X0_keepsAct 1 [.ref (g_ad g 21)] (hp g s n) (hp g (up (up (cp s 23 24 0 (q * 36) 36) 21 3 (nI ((q + 1) % 40))) 21 4 (nI (min 40 (a + 1)))) n) := by
  refine aw_V_of mo_X0_keepsAct (by decide) (Nat.le_of_ble_eq_true rfl) ?_
  refine aw_aload_n rfl rfl ?_
  refine pg_21_1 rfl kl_X0_17 ?_
  refine aw_iconst (v := 0) rfl (by decide) ?_
  refine aw_aload_n rfl rfl ?_
  refine pg_21_2 rfl kl_X0_20 ?_
  refine aw_aload_n rfl rfl ?_
  refine pg_21_3 rfl kl_X0_56 ?_
  refine aw_bipush (v := 36) rfl (by decide) ?_
  refine aw_imul rfl ?_
  refine aw_bipush (v := 36) rfl (by decide) ?_
  refine pc_23_24 rfl km_X0_50 (a := 0) (b := q * 36) (c := 36) rfl (by rw [hq]; exact pk_mul q 36) rfl (by decide) (by omega) (by decide) (Nat.le_of_ble_eq_true rfl) ?_
  refine aw_aload_n rfl rfl ?_
  refine aw_aload_n rfl rfl ?_
  refine pg_21_3 rfl kl_X0_56 ?_
  refine aw_iconst (v := 1) rfl (by decide) ?_
  refine aw_iadd rfl ?_
  refine aw_bipush (v := 40) rfl (by decide) ?_
  refine aw_irem rfl (by decide) ?_
  rw [show cp s 23 24 0 (q * 36) 36 21 3 = s 21 3 from rfl, hq, show nI q + 1 = nI (q + 1) from nI_1 q, show nI (q + 1) - nI (q + 1) / 40 * 40 = nI ((q + 1) % 40) from pk_rem (d := 40) (by omega) (by decide) (by decide)]
  refine pp_21_3 rfl kl_X0_56 ?_
  refine aw_aload_n rfl rfl ?_
  refine aw_bipush (v := 40) rfl (by decide) ?_
  refine aw_aload_n rfl rfl ?_
  refine pg_21_4 rfl kl_X0_29 ?_
  refine aw_iconst (v := 1) rfl (by decide) ?_
  refine aw_iadd rfl ?_
  refine aw_mmin rfl km_X0_40 (aw_t2 171 rfl rfl) (aw_t1 18 rfl rfl) (aw_t2 172 rfl rfl) (by decide) (Nat.le_of_ble_eq_true rfl) (by decide) (by decide) ?_
  rw [show up (cp s 23 24 0 (q * 36) 36) 21 3 (nI ((q + 1) % 40)) 21 4 = s 21 4 from rfl, ha, show nI a + 1 = nI (a + 1) from nI_1 a, show (if nI (a + 1) < (40 : Int32) then nI (a + 1) else 40) = nI (min 40 (a + 1)) from mnN 40 (a + 1) (by decide) (by omega)]
  refine pp_21_4 rfl kl_X0_29 ?_
  exact aw_fv rfl rfl rfl
theorem c_X1_dummy : True := trivial
