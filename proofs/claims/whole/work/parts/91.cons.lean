/-! the constructors: the world grows at its end -/
theorem apx_g {pre t : List (Nat × va_E)} {x : Nat × va_E} (j : Nat) (h : t[j]? = some x) : (pre ++ t)[pre.length + j]? = some x := by
  rw [List.getElem?_append_right (by omega), show pre.length + j - pre.length = j by omega]; exact h
theorem apx_u {pre t t2 : List (Nat × va_E)} {x : Nat × va_E} (j : Nat) (h : t.set j x = t2) : (pre ++ t).set (pre.length + j) x = pre ++ t2 := by
  subst h
  rw [List.set_append_right _ _ (by omega), show pre.length + j - pre.length = j by omega]
/-- links of nest mates -/
def aw_hn (g : ag_G) : Prop := (∀ U, g_X g U → va_Nw (.methodLinkNest "WaxReign" 9 ⟨"WaxReign$Tape", "<init>", "()V"⟩ "WaxReign") U) ∧ (∀ U, g_X g U → va_Nw (.methodLinkNest "WaxReign" 41 ⟨"WaxReign$Laws", "<init>", "()V"⟩ "WaxReign") U) ∧ (∀ U, g_X g U → va_Nw (.methodLinkNest "WaxReign" 63 ⟨"WaxReign$Chronicle", "<init>", "()V"⟩ "WaxReign") U) ∧ (∀ U, g_X g U → va_Nw (.methodLinkNest "WaxReign" 93 ⟨"WaxReign$Draws", "<init>", "()V"⟩ "WaxReign") U)
set_option maxRecDepth 8000 in
theorem c_X10_init {l : Launch} {g : ag_G}  {pre : va_W} {a  : Nat} : aw_M l g mi_X10_init 1 1 240 [.ref a] (pre ++ [(a, .inr (10, [.null, .int 0, .int 0]))]) (fun r w => ∃ q0, r = none ∧ w = pre ++ [(a, .inr (10, [.ref q0, .int 0, .int 0])), (q0, .inl (g_ca g 0, 240, .inl (fun _ => 0)))]) := by
  refine aw_M_of mo_X10_init (by decide) (Nat.le_of_ble_eq_true rfl) ?_
  refine aw_aload_n rfl rfl ?_
  refine aw_objI rfl (aw_t1 40 rfl rfl) (aw_t1 33 rfl rfl) (aw_t1 34 rfl rfl) (by decide) (by decide) ?_
  refine aw_aload_n rfl rfl ?_
  refine aw_sipush (v := 240) rfl (by decide) ?_
  refine aw_newi (N := 240) rfl (aw_t1 56 rfl rfl) rfl (by decide) (by decide) (by decide) (fun q0 => ?_)
  refine aw_eqs (ws' := pre ++ [(a, .inr (10, [.null, .int 0, .int 0])), (q0, .inl (g_ca g 0, 240, .inl (fun _ => 0)))]) ?_ rfl rfl (List.append_assoc _ _ _)
  refine aw_putF (q0 := pre.length + 0) (ci := 10) 0 kY10 (ws2 := pre ++ [(a, .inr (10, [.ref q0, .int 0, .int 0])), (q0, .inl (g_ca g 0, 240, .inl (fun _ => 0)))]) rfl (apx_g 0 rfl) rfl kI10 kO10 kN10 (by decide) rfl rfl kl_X10_11 rfl rfl rfl rfl (Nat.le_of_ble_eq_true rfl) (apx_u 0 rfl) ?_
  exact aw_vret rfl rfl ⟨q0, rfl, rfl⟩
set_option maxRecDepth 8000 in
theorem c_X4_init {l : Launch} {g : ag_G}  {pre : va_W} {a b0 : Nat} : aw_M l g mi_X4_init 1 2 46 [.ref a, .ref b0] (pre ++ [(a, .inr (4, [.null, .null, .null]))]) (fun r w => ∃ q0 q1, r = none ∧ w = pre ++ [(a, .inr (4, [.ref b0, .ref q0, .ref q1])), (q0, .inl (g_ca g 0, 43, .inl (fun _ => 0))), (q1, .inl (g_ca g 0, 3, .inl (fun _ => 0)))]) := by
  refine aw_M_of mo_X4_init (by decide) (Nat.le_of_ble_eq_true rfl) ?_
  refine aw_aload_n rfl rfl ?_
  refine aw_objI rfl (aw_t1 62 rfl rfl) (aw_t1 33 rfl rfl) (aw_t1 34 rfl rfl) (by decide) (by decide) ?_
  refine aw_aload_n rfl rfl ?_
  refine aw_bipush (v := 43) rfl (by decide) ?_
  refine aw_newi (N := 43) rfl (aw_t1 56 rfl rfl) rfl (by decide) (by decide) (by decide) (fun q0 => ?_)
  refine aw_eqs (ws' := pre ++ [(a, .inr (4, [.null, .null, .null])), (q0, .inl (g_ca g 0, 43, .inl (fun _ => 0)))]) ?_ rfl rfl (List.append_assoc _ _ _)
  refine aw_putF (q0 := pre.length + 0) (ci := 4) 1 kY4 (ws2 := pre ++ [(a, .inr (4, [.null, .ref q0, .null])), (q0, .inl (g_ca g 0, 43, .inl (fun _ => 0)))]) rfl (apx_g 0 rfl) rfl kI4 kO4 kN4 (by decide) rfl rfl kl_X4_11 rfl rfl rfl rfl (Nat.le_of_ble_eq_true rfl) (apx_u 0 rfl) ?_
  refine aw_aload_n rfl rfl ?_
  refine aw_iconst (v := 3) rfl (by decide) ?_
  refine aw_newi (N := 3) rfl (aw_t1 56 rfl rfl) rfl (by decide) (by decide) (by decide) (fun q1 => ?_)
  refine aw_eqs (ws' := pre ++ [(a, .inr (4, [.null, .ref q0, .null])), (q0, .inl (g_ca g 0, 43, .inl (fun _ => 0))), (q1, .inl (g_ca g 0, 3, .inl (fun _ => 0)))]) ?_ rfl rfl (List.append_assoc _ _ _)
  refine aw_putF (q0 := pre.length + 0) (ci := 4) 2 kY4 (ws2 := pre ++ [(a, .inr (4, [.null, .ref q0, .ref q1])), (q0, .inl (g_ca g 0, 43, .inl (fun _ => 0))), (q1, .inl (g_ca g 0, 3, .inl (fun _ => 0)))]) rfl (apx_g 0 rfl) rfl kI4 kO4 kN4 (by decide) rfl rfl kl_X4_15 rfl rfl rfl rfl (Nat.le_of_ble_eq_true rfl) (apx_u 0 rfl) ?_
  refine aw_aload_n rfl rfl ?_
  refine aw_aload_n rfl rfl ?_
  refine aw_putF (q0 := pre.length + 0) (ci := 4) 0 kY4 (ws2 := pre ++ [(a, .inr (4, [.ref b0, .ref q0, .ref q1])), (q0, .inl (g_ca g 0, 43, .inl (fun _ => 0))), (q1, .inl (g_ca g 0, 3, .inl (fun _ => 0)))]) rfl (apx_g 0 rfl) rfl kI4 kO4 kN4 (by decide) rfl rfl kl_X4_18 rfl rfl rfl rfl (Nat.le_of_ble_eq_true rfl) (apx_u 0 rfl) ?_
  exact aw_vret rfl rfl ⟨q0, q1, rfl, rfl⟩
set_option maxRecDepth 8000 in
theorem c_X5_init {l : Launch} {g : ag_G}  {pre : va_W} {a b0 : Nat} : aw_M l g mi_X5_init 1 1 240 [.ref a, .ref b0] (pre ++ [(a, .inr (5, [.null, .null, .int 0]))]) (fun r w => ∃ q0, r = none ∧ w = pre ++ [(a, .inr (5, [.ref b0, .ref q0, .int 0])), (q0, .inl (g_ca g 0, 240, .inl (fun _ => 0)))]) := by
  refine aw_M_of mo_X5_init (by decide) (Nat.le_of_ble_eq_true rfl) ?_
  refine aw_aload_n rfl rfl ?_
  refine aw_objI rfl (aw_t1 78 rfl rfl) (aw_t1 33 rfl rfl) (aw_t1 34 rfl rfl) (by decide) (by decide) ?_
  refine aw_aload_n rfl rfl ?_
  refine aw_sipush (v := 240) rfl (by decide) ?_
  refine aw_newi (N := 240) rfl (aw_t1 56 rfl rfl) rfl (by decide) (by decide) (by decide) (fun q0 => ?_)
  refine aw_eqs (ws' := pre ++ [(a, .inr (5, [.null, .null, .int 0])), (q0, .inl (g_ca g 0, 240, .inl (fun _ => 0)))]) ?_ rfl rfl (List.append_assoc _ _ _)
  refine aw_putF (q0 := pre.length + 0) (ci := 5) 1 kY5 (ws2 := pre ++ [(a, .inr (5, [.null, .ref q0, .int 0])), (q0, .inl (g_ca g 0, 240, .inl (fun _ => 0)))]) rfl (apx_g 0 rfl) rfl kI5 kO5 kN5 (by decide) rfl rfl kl_X5_11 rfl rfl rfl rfl (Nat.le_of_ble_eq_true rfl) (apx_u 0 rfl) ?_
  refine aw_aload_n rfl rfl ?_
  refine aw_aload_n rfl rfl ?_
  refine aw_putF (q0 := pre.length + 0) (ci := 5) 0 kY5 (ws2 := pre ++ [(a, .inr (5, [.ref b0, .ref q0, .int 0])), (q0, .inl (g_ca g 0, 240, .inl (fun _ => 0)))]) rfl (apx_g 0 rfl) rfl kI5 kO5 kN5 (by decide) rfl rfl kl_X5_17 rfl rfl rfl rfl (Nat.le_of_ble_eq_true rfl) (apx_u 0 rfl) ?_
  exact aw_vret rfl rfl ⟨q0, rfl, rfl⟩
set_option maxRecDepth 8000 in
theorem c_X9_init {l : Launch} {g : ag_G}  {pre : va_W} {a b0 : Nat} : aw_M l g mi_X9_init 1 1 48 [.ref a, .ref b0] (pre ++ [(a, .inr (9, [.null, .null, .int 0]))]) (fun r w => ∃ q0, r = none ∧ w = pre ++ [(a, .inr (9, [.ref b0, .ref q0, .int 0])), (q0, .inl (g_ca g 0, 48, .inl (fun _ => 0)))]) := by
  refine aw_M_of mo_X9_init (by decide) (Nat.le_of_ble_eq_true rfl) ?_
  refine aw_aload_n rfl rfl ?_
  refine aw_objI rfl (aw_t1 94 rfl rfl) (aw_t1 33 rfl rfl) (aw_t1 34 rfl rfl) (by decide) (by decide) ?_
  refine aw_aload_n rfl rfl ?_
  refine aw_bipush (v := 48) rfl (by decide) ?_
  refine aw_newi (N := 48) rfl (aw_t1 56 rfl rfl) rfl (by decide) (by decide) (by decide) (fun q0 => ?_)
  refine aw_eqs (ws' := pre ++ [(a, .inr (9, [.null, .null, .int 0])), (q0, .inl (g_ca g 0, 48, .inl (fun _ => 0)))]) ?_ rfl rfl (List.append_assoc _ _ _)
  refine aw_putF (q0 := pre.length + 0) (ci := 9) 1 kY9 (ws2 := pre ++ [(a, .inr (9, [.null, .ref q0, .int 0])), (q0, .inl (g_ca g 0, 48, .inl (fun _ => 0)))]) rfl (apx_g 0 rfl) rfl kI9 kO9 kN9 (by decide) rfl rfl kl_X9_11 rfl rfl rfl rfl (Nat.le_of_ble_eq_true rfl) (apx_u 0 rfl) ?_
  refine aw_aload_n rfl rfl ?_
  refine aw_aload_n rfl rfl ?_
  refine aw_putF (q0 := pre.length + 0) (ci := 9) 0 kY9 (ws2 := pre ++ [(a, .inr (9, [.ref b0, .ref q0, .int 0])), (q0, .inl (g_ca g 0, 48, .inl (fun _ => 0)))]) rfl (apx_g 0 rfl) rfl kI9 kO9 kN9 (by decide) rfl rfl kl_X9_15 rfl rfl rfl rfl (Nat.le_of_ble_eq_true rfl) (apx_u 0 rfl) ?_
  exact aw_vret rfl rfl ⟨q0, rfl, rfl⟩
set_option maxRecDepth 8000 in
theorem c_X6_init {l : Launch} {g : ag_G} (hz : aw_hz g) {pre : va_W} {a  : Nat} : aw_M l g mi_X6_init 1 3 250 [.ref a] (pre ++ [(a, .inr (6, [.null, .null, .null, .int 0, .int 0]))]) (fun r w => ∃ q0 q1 q2, r = none ∧ w = pre ++ [(a, .inr (6, [.ref q0, .ref q1, .ref q2, .int 0, .int (-1)])), (q0, .inl (g_ca g 4, 4, .inr (.inr (.inr (.inr (fun _ => none)))))), (q1, .inl (g_ca g 0, 240, .inl (fun _ => 0))), (q2, .inl (g_ca g 0, 6, .inl (fun _ => 0)))]) := by
  refine aw_M_of mo_X6_init (by decide) (Nat.le_of_ble_eq_true rfl) ?_
  refine aw_aload_n rfl rfl ?_
  refine aw_objI rfl (aw_t1 110 rfl rfl) (aw_t1 33 rfl rfl) (aw_t1 34 rfl rfl) (by decide) (by decide) ?_
  refine aw_aload_n rfl rfl ?_
  refine aw_iconst (v := 4) rfl (by decide) ?_
  refine aw_newq (N := 4) rfl (aw_t1 111 rfl rfl) hz.2 rfl (by decide) (by decide) (by decide) (fun q0 => ?_)
  refine aw_eqs (ws' := pre ++ [(a, .inr (6, [.null, .null, .null, .int 0, .int 0])), (q0, .inl (g_ca g 4, 4, .inr (.inr (.inr (.inr (fun _ => none))))))]) ?_ rfl rfl (List.append_assoc _ _ _)
  refine aw_putF (q0 := pre.length + 0) (ci := 6) 0 kY6 (ws2 := pre ++ [(a, .inr (6, [.ref q0, .null, .null, .int 0, .int 0])), (q0, .inl (g_ca g 4, 4, .inr (.inr (.inr (.inr (fun _ => none))))))]) rfl (apx_g 0 rfl) rfl kI6 kO6 kN6 (by decide) rfl rfl kl_X6_13 rfl rfl rfl rfl (Nat.le_of_ble_eq_true rfl) (apx_u 0 rfl) ?_
  refine aw_aload_n rfl rfl ?_
  refine aw_sipush (v := 240) rfl (by decide) ?_
  refine aw_newi (N := 240) rfl (aw_t1 56 rfl rfl) rfl (by decide) (by decide) (by decide) (fun q1 => ?_)
  refine aw_eqs (ws' := pre ++ [(a, .inr (6, [.ref q0, .null, .null, .int 0, .int 0])), (q0, .inl (g_ca g 4, 4, .inr (.inr (.inr (.inr (fun _ => none)))))), (q1, .inl (g_ca g 0, 240, .inl (fun _ => 0)))]) ?_ rfl rfl (List.append_assoc _ _ _)
  refine aw_putF (q0 := pre.length + 0) (ci := 6) 1 kY6 (ws2 := pre ++ [(a, .inr (6, [.ref q0, .ref q1, .null, .int 0, .int 0])), (q0, .inl (g_ca g 4, 4, .inr (.inr (.inr (.inr (fun _ => none)))))), (q1, .inl (g_ca g 0, 240, .inl (fun _ => 0)))]) rfl (apx_g 0 rfl) rfl kI6 kO6 kN6 (by decide) rfl rfl kl_X6_19 rfl rfl rfl rfl (Nat.le_of_ble_eq_true rfl) (apx_u 0 rfl) ?_
  refine aw_aload_n rfl rfl ?_
  refine aw_bipush (v := 6) rfl (by decide) ?_
  refine aw_newi (N := 6) rfl (aw_t1 56 rfl rfl) rfl (by decide) (by decide) (by decide) (fun q2 => ?_)
  refine aw_eqs (ws' := pre ++ [(a, .inr (6, [.ref q0, .ref q1, .null, .int 0, .int 0])), (q0, .inl (g_ca g 4, 4, .inr (.inr (.inr (.inr (fun _ => none)))))), (q1, .inl (g_ca g 0, 240, .inl (fun _ => 0))), (q2, .inl (g_ca g 0, 6, .inl (fun _ => 0)))]) ?_ rfl rfl (List.append_assoc _ _ _)
  refine aw_putF (q0 := pre.length + 0) (ci := 6) 2 kY6 (ws2 := pre ++ [(a, .inr (6, [.ref q0, .ref q1, .ref q2, .int 0, .int 0])), (q0, .inl (g_ca g 4, 4, .inr (.inr (.inr (.inr (fun _ => none)))))), (q1, .inl (g_ca g 0, 240, .inl (fun _ => 0))), (q2, .inl (g_ca g 0, 6, .inl (fun _ => 0)))]) rfl (apx_g 0 rfl) rfl kI6 kO6 kN6 (by decide) rfl rfl kl_X6_22 rfl rfl rfl rfl (Nat.le_of_ble_eq_true rfl) (apx_u 0 rfl) ?_
  refine aw_aload_n rfl rfl ?_
  refine aw_iconst (v := -1) rfl (by decide) ?_
  refine aw_put (q0 := pre.length + 0) (ci := 6) 4 kY6 (ws2 := pre ++ [(a, .inr (6, [.ref q0, .ref q1, .ref q2, .int 0, .int (-1)])), (q0, .inl (g_ca g 4, 4, .inr (.inr (.inr (.inr (fun _ => none)))))), (q1, .inl (g_ca g 0, 240, .inl (fun _ => 0))), (q2, .inl (g_ca g 0, 6, .inl (fun _ => 0)))]) rfl (apx_g 0 rfl) rfl kI6 kO6 kN6 (by decide) kl_X6_25 rfl rfl rfl rfl (Nat.le_of_ble_eq_true rfl) (apx_u 0 rfl) ?_
  exact aw_vret rfl rfl ⟨q0, q1, q2, rfl, rfl⟩
set_option maxRecDepth 8000 in
theorem c_X8_init {l : Launch} {g : ag_G}  {pre : va_W} {a b0 : Nat} : aw_M l g mi_X8_init 1 5 93 [.ref a, .ref b0] (pre ++ [(a, .inr (8, [.null, .null, .null, .null, .null, .null, .int 0, .int 0, .int 0]))]) (fun r w => ∃ q0 q1 q2 q3 q4, r = none ∧ w = pre ++ [(a, .inr (8, [.ref b0, .ref q0, .ref q1, .ref q2, .ref q3, .ref q4, .int 0, .int 0, .int 0])), (q0, .inl (g_ca g 0, 36, .inl (fun _ => 0))), (q1, .inl (g_ca g 0, 36, .inl (fun _ => 0))), (q2, .inl (g_ca g 0, 7, .inl (fun _ => 0))), (q3, .inl (g_ca g 0, 7, .inl (fun _ => 0))), (q4, .inl (g_ca g 0, 7, .inl (fun _ => 0)))]) := by
  refine aw_M_of mo_X8_init (by decide) (Nat.le_of_ble_eq_true rfl) ?_
  refine aw_aload_n rfl rfl ?_
  refine aw_objI rfl (aw_t1 138 rfl rfl) (aw_t1 33 rfl rfl) (aw_t1 34 rfl rfl) (by decide) (by decide) ?_
  refine aw_aload_n rfl rfl ?_
  refine aw_bipush (v := 36) rfl (by decide) ?_
  refine aw_newi (N := 36) rfl (aw_t1 56 rfl rfl) rfl (by decide) (by decide) (by decide) (fun q0 => ?_)
  refine aw_eqs (ws' := pre ++ [(a, .inr (8, [.null, .null, .null, .null, .null, .null, .int 0, .int 0, .int 0])), (q0, .inl (g_ca g 0, 36, .inl (fun _ => 0)))]) ?_ rfl rfl (List.append_assoc _ _ _)
  refine aw_putF (q0 := pre.length + 0) (ci := 8) 1 kY8 (ws2 := pre ++ [(a, .inr (8, [.null, .ref q0, .null, .null, .null, .null, .int 0, .int 0, .int 0])), (q0, .inl (g_ca g 0, 36, .inl (fun _ => 0)))]) rfl (apx_g 0 rfl) rfl kI8 kO8 kN8 (by decide) rfl rfl kl_X8_11 rfl rfl rfl rfl (Nat.le_of_ble_eq_true rfl) (apx_u 0 rfl) ?_
  refine aw_aload_n rfl rfl ?_
  refine aw_bipush (v := 36) rfl (by decide) ?_
  refine aw_newi (N := 36) rfl (aw_t1 56 rfl rfl) rfl (by decide) (by decide) (by decide) (fun q1 => ?_)
  refine aw_eqs (ws' := pre ++ [(a, .inr (8, [.null, .ref q0, .null, .null, .null, .null, .int 0, .int 0, .int 0])), (q0, .inl (g_ca g 0, 36, .inl (fun _ => 0))), (q1, .inl (g_ca g 0, 36, .inl (fun _ => 0)))]) ?_ rfl rfl (List.append_assoc _ _ _)
  refine aw_putF (q0 := pre.length + 0) (ci := 8) 2 kY8 (ws2 := pre ++ [(a, .inr (8, [.null, .ref q0, .ref q1, .null, .null, .null, .int 0, .int 0, .int 0])), (q0, .inl (g_ca g 0, 36, .inl (fun _ => 0))), (q1, .inl (g_ca g 0, 36, .inl (fun _ => 0)))]) rfl (apx_g 0 rfl) rfl kI8 kO8 kN8 (by decide) rfl rfl kl_X8_15 rfl rfl rfl rfl (Nat.le_of_ble_eq_true rfl) (apx_u 0 rfl) ?_
  refine aw_aload_n rfl rfl ?_
  refine aw_bipush (v := 7) rfl (by decide) ?_
  refine aw_newi (N := 7) rfl (aw_t1 56 rfl rfl) rfl (by decide) (by decide) (by decide) (fun q2 => ?_)
  refine aw_eqs (ws' := pre ++ [(a, .inr (8, [.null, .ref q0, .ref q1, .null, .null, .null, .int 0, .int 0, .int 0])), (q0, .inl (g_ca g 0, 36, .inl (fun _ => 0))), (q1, .inl (g_ca g 0, 36, .inl (fun _ => 0))), (q2, .inl (g_ca g 0, 7, .inl (fun _ => 0)))]) ?_ rfl rfl (List.append_assoc _ _ _)
  refine aw_putF (q0 := pre.length + 0) (ci := 8) 3 kY8 (ws2 := pre ++ [(a, .inr (8, [.null, .ref q0, .ref q1, .ref q2, .null, .null, .int 0, .int 0, .int 0])), (q0, .inl (g_ca g 0, 36, .inl (fun _ => 0))), (q1, .inl (g_ca g 0, 36, .inl (fun _ => 0))), (q2, .inl (g_ca g 0, 7, .inl (fun _ => 0)))]) rfl (apx_g 0 rfl) rfl kI8 kO8 kN8 (by decide) rfl rfl kl_X8_18 rfl rfl rfl rfl (Nat.le_of_ble_eq_true rfl) (apx_u 0 rfl) ?_
  refine aw_aload_n rfl rfl ?_
  refine aw_bipush (v := 7) rfl (by decide) ?_
  refine aw_newi (N := 7) rfl (aw_t1 56 rfl rfl) rfl (by decide) (by decide) (by decide) (fun q3 => ?_)
  refine aw_eqs (ws' := pre ++ [(a, .inr (8, [.null, .ref q0, .ref q1, .ref q2, .null, .null, .int 0, .int 0, .int 0])), (q0, .inl (g_ca g 0, 36, .inl (fun _ => 0))), (q1, .inl (g_ca g 0, 36, .inl (fun _ => 0))), (q2, .inl (g_ca g 0, 7, .inl (fun _ => 0))), (q3, .inl (g_ca g 0, 7, .inl (fun _ => 0)))]) ?_ rfl rfl (List.append_assoc _ _ _)
  refine aw_putF (q0 := pre.length + 0) (ci := 8) 4 kY8 (ws2 := pre ++ [(a, .inr (8, [.null, .ref q0, .ref q1, .ref q2, .ref q3, .null, .int 0, .int 0, .int 0])), (q0, .inl (g_ca g 0, 36, .inl (fun _ => 0))), (q1, .inl (g_ca g 0, 36, .inl (fun _ => 0))), (q2, .inl (g_ca g 0, 7, .inl (fun _ => 0))), (q3, .inl (g_ca g 0, 7, .inl (fun _ => 0)))]) rfl (apx_g 0 rfl) rfl kI8 kO8 kN8 (by decide) rfl rfl kl_X8_21 rfl rfl rfl rfl (Nat.le_of_ble_eq_true rfl) (apx_u 0 rfl) ?_
  refine aw_aload_n rfl rfl ?_
  refine aw_bipush (v := 7) rfl (by decide) ?_
  refine aw_newi (N := 7) rfl (aw_t1 56 rfl rfl) rfl (by decide) (by decide) (by decide) (fun q4 => ?_)
  refine aw_eqs (ws' := pre ++ [(a, .inr (8, [.null, .ref q0, .ref q1, .ref q2, .ref q3, .null, .int 0, .int 0, .int 0])), (q0, .inl (g_ca g 0, 36, .inl (fun _ => 0))), (q1, .inl (g_ca g 0, 36, .inl (fun _ => 0))), (q2, .inl (g_ca g 0, 7, .inl (fun _ => 0))), (q3, .inl (g_ca g 0, 7, .inl (fun _ => 0))), (q4, .inl (g_ca g 0, 7, .inl (fun _ => 0)))]) ?_ rfl rfl (List.append_assoc _ _ _)
  refine aw_putF (q0 := pre.length + 0) (ci := 8) 5 kY8 (ws2 := pre ++ [(a, .inr (8, [.null, .ref q0, .ref q1, .ref q2, .ref q3, .ref q4, .int 0, .int 0, .int 0])), (q0, .inl (g_ca g 0, 36, .inl (fun _ => 0))), (q1, .inl (g_ca g 0, 36, .inl (fun _ => 0))), (q2, .inl (g_ca g 0, 7, .inl (fun _ => 0))), (q3, .inl (g_ca g 0, 7, .inl (fun _ => 0))), (q4, .inl (g_ca g 0, 7, .inl (fun _ => 0)))]) rfl (apx_g 0 rfl) rfl kI8 kO8 kN8 (by decide) rfl rfl kl_X8_24 rfl rfl rfl rfl (Nat.le_of_ble_eq_true rfl) (apx_u 0 rfl) ?_
  refine aw_aload_n rfl rfl ?_
  refine aw_aload_n rfl rfl ?_
  refine aw_putF (q0 := pre.length + 0) (ci := 8) 0 kY8 (ws2 := pre ++ [(a, .inr (8, [.ref b0, .ref q0, .ref q1, .ref q2, .ref q3, .ref q4, .int 0, .int 0, .int 0])), (q0, .inl (g_ca g 0, 36, .inl (fun _ => 0))), (q1, .inl (g_ca g 0, 36, .inl (fun _ => 0))), (q2, .inl (g_ca g 0, 7, .inl (fun _ => 0))), (q3, .inl (g_ca g 0, 7, .inl (fun _ => 0))), (q4, .inl (g_ca g 0, 7, .inl (fun _ => 0)))]) rfl (apx_g 0 rfl) rfl kI8 kO8 kN8 (by decide) rfl rfl kl_X8_27 rfl rfl rfl rfl (Nat.le_of_ble_eq_true rfl) (apx_u 0 rfl) ?_
  exact aw_vret rfl rfl ⟨q0, q1, q2, q3, q4, rfl, rfl⟩
set_option maxRecDepth 8000 in
theorem c_X0_init {l : Launch} {g : ag_G}  {pre : va_W} {a  : Nat} : aw_M l g mi_X0_init 1 5 2280 [.ref a] (pre ++ [(a, .inr (0, [.null, .null, .null, .int 0, .int 0, .null, .null, .int 0]))]) (fun r w => ∃ q0 q1 q2 q3 q4, r = none ∧ w = pre ++ [(a, .inr (0, [.ref q0, .ref q1, .ref q2, .int 0, .int 0, .ref q3, .ref q4, .int 0])), (q0, .inl (g_ca g 0, 384, .inl (fun _ => 0))), (q1, .inl (g_ca g 0, 36, .inl (fun _ => 0))), (q2, .inl (g_ca g 0, 1440, .inl (fun _ => 0))), (q3, .inl (g_ca g 0, 36, .inl (fun _ => 0))), (q4, .inl (g_ca g 0, 384, .inl (fun _ => 0)))]) := by
  refine aw_M_of mo_X0_init (by decide) (Nat.le_of_ble_eq_true rfl) ?_
  refine aw_aload_n rfl rfl ?_
  refine aw_objI rfl (aw_t1 188 rfl rfl) (aw_t1 33 rfl rfl) (aw_t1 34 rfl rfl) (by decide) (by decide) ?_
  refine aw_aload_n rfl rfl ?_
  refine aw_sipush (v := 384) rfl (by decide) ?_
  refine aw_newi (N := 384) rfl (aw_t1 56 rfl rfl) rfl (by decide) (by decide) (by decide) (fun q0 => ?_)
  refine aw_eqs (ws' := pre ++ [(a, .inr (0, [.null, .null, .null, .int 0, .int 0, .null, .null, .int 0])), (q0, .inl (g_ca g 0, 384, .inl (fun _ => 0)))]) ?_ rfl rfl (List.append_assoc _ _ _)
  refine aw_putF (q0 := pre.length + 0) (ci := 0) 0 kY0 (ws2 := pre ++ [(a, .inr (0, [.ref q0, .null, .null, .int 0, .int 0, .null, .null, .int 0])), (q0, .inl (g_ca g 0, 384, .inl (fun _ => 0)))]) rfl (apx_g 0 rfl) rfl kI0 kO0 kN0 (by decide) rfl rfl kl_X0_11 rfl rfl rfl rfl (Nat.le_of_ble_eq_true rfl) (apx_u 0 rfl) ?_
  refine aw_aload_n rfl rfl ?_
  refine aw_bipush (v := 36) rfl (by decide) ?_
  refine aw_newi (N := 36) rfl (aw_t1 56 rfl rfl) rfl (by decide) (by decide) (by decide) (fun q1 => ?_)
  refine aw_eqs (ws' := pre ++ [(a, .inr (0, [.ref q0, .null, .null, .int 0, .int 0, .null, .null, .int 0])), (q0, .inl (g_ca g 0, 384, .inl (fun _ => 0))), (q1, .inl (g_ca g 0, 36, .inl (fun _ => 0)))]) ?_ rfl rfl (List.append_assoc _ _ _)
  refine aw_putF (q0 := pre.length + 0) (ci := 0) 1 kY0 (ws2 := pre ++ [(a, .inr (0, [.ref q0, .ref q1, .null, .int 0, .int 0, .null, .null, .int 0])), (q0, .inl (g_ca g 0, 384, .inl (fun _ => 0))), (q1, .inl (g_ca g 0, 36, .inl (fun _ => 0)))]) rfl (apx_g 0 rfl) rfl kI0 kO0 kN0 (by decide) rfl rfl kl_X0_17 rfl rfl rfl rfl (Nat.le_of_ble_eq_true rfl) (apx_u 0 rfl) ?_
  refine aw_aload_n rfl rfl ?_
  refine aw_sipush (v := 1440) rfl (by decide) ?_
  refine aw_newi (N := 1440) rfl (aw_t1 56 rfl rfl) rfl (by decide) (by decide) (by decide) (fun q2 => ?_)
  refine aw_eqs (ws' := pre ++ [(a, .inr (0, [.ref q0, .ref q1, .null, .int 0, .int 0, .null, .null, .int 0])), (q0, .inl (g_ca g 0, 384, .inl (fun _ => 0))), (q1, .inl (g_ca g 0, 36, .inl (fun _ => 0))), (q2, .inl (g_ca g 0, 1440, .inl (fun _ => 0)))]) ?_ rfl rfl (List.append_assoc _ _ _)
  refine aw_putF (q0 := pre.length + 0) (ci := 0) 2 kY0 (ws2 := pre ++ [(a, .inr (0, [.ref q0, .ref q1, .ref q2, .int 0, .int 0, .null, .null, .int 0])), (q0, .inl (g_ca g 0, 384, .inl (fun _ => 0))), (q1, .inl (g_ca g 0, 36, .inl (fun _ => 0))), (q2, .inl (g_ca g 0, 1440, .inl (fun _ => 0)))]) rfl (apx_g 0 rfl) rfl kI0 kO0 kN0 (by decide) rfl rfl kl_X0_20 rfl rfl rfl rfl (Nat.le_of_ble_eq_true rfl) (apx_u 0 rfl) ?_
  refine aw_aload_n rfl rfl ?_
  refine aw_bipush (v := 36) rfl (by decide) ?_
  refine aw_newi (N := 36) rfl (aw_t1 56 rfl rfl) rfl (by decide) (by decide) (by decide) (fun q3 => ?_)
  refine aw_eqs (ws' := pre ++ [(a, .inr (0, [.ref q0, .ref q1, .ref q2, .int 0, .int 0, .null, .null, .int 0])), (q0, .inl (g_ca g 0, 384, .inl (fun _ => 0))), (q1, .inl (g_ca g 0, 36, .inl (fun _ => 0))), (q2, .inl (g_ca g 0, 1440, .inl (fun _ => 0))), (q3, .inl (g_ca g 0, 36, .inl (fun _ => 0)))]) ?_ rfl rfl (List.append_assoc _ _ _)
  refine aw_putF (q0 := pre.length + 0) (ci := 0) 5 kY0 (ws2 := pre ++ [(a, .inr (0, [.ref q0, .ref q1, .ref q2, .int 0, .int 0, .ref q3, .null, .int 0])), (q0, .inl (g_ca g 0, 384, .inl (fun _ => 0))), (q1, .inl (g_ca g 0, 36, .inl (fun _ => 0))), (q2, .inl (g_ca g 0, 1440, .inl (fun _ => 0))), (q3, .inl (g_ca g 0, 36, .inl (fun _ => 0)))]) rfl (apx_g 0 rfl) rfl kI0 kO0 kN0 (by decide) rfl rfl kl_X0_23 rfl rfl rfl rfl (Nat.le_of_ble_eq_true rfl) (apx_u 0 rfl) ?_
  refine aw_aload_n rfl rfl ?_
  refine aw_sipush (v := 384) rfl (by decide) ?_
  refine aw_newi (N := 384) rfl (aw_t1 56 rfl rfl) rfl (by decide) (by decide) (by decide) (fun q4 => ?_)
  refine aw_eqs (ws' := pre ++ [(a, .inr (0, [.ref q0, .ref q1, .ref q2, .int 0, .int 0, .ref q3, .null, .int 0])), (q0, .inl (g_ca g 0, 384, .inl (fun _ => 0))), (q1, .inl (g_ca g 0, 36, .inl (fun _ => 0))), (q2, .inl (g_ca g 0, 1440, .inl (fun _ => 0))), (q3, .inl (g_ca g 0, 36, .inl (fun _ => 0))), (q4, .inl (g_ca g 0, 384, .inl (fun _ => 0)))]) ?_ rfl rfl (List.append_assoc _ _ _)
  refine aw_putF (q0 := pre.length + 0) (ci := 0) 6 kY0 (ws2 := pre ++ [(a, .inr (0, [.ref q0, .ref q1, .ref q2, .int 0, .int 0, .ref q3, .ref q4, .int 0])), (q0, .inl (g_ca g 0, 384, .inl (fun _ => 0))), (q1, .inl (g_ca g 0, 36, .inl (fun _ => 0))), (q2, .inl (g_ca g 0, 1440, .inl (fun _ => 0))), (q3, .inl (g_ca g 0, 36, .inl (fun _ => 0))), (q4, .inl (g_ca g 0, 384, .inl (fun _ => 0)))]) rfl (apx_g 0 rfl) rfl kI0 kO0 kN0 (by decide) rfl rfl kl_X0_26 rfl rfl rfl rfl (Nat.le_of_ble_eq_true rfl) (apx_u 0 rfl) ?_
  exact aw_vret rfl rfl ⟨q0, q1, q2, q3, q4, rfl, rfl⟩
set_option maxRecDepth 8000 in
theorem c_X3_init {l : Launch} {g : ag_G}  {pre : va_W} {a b0 : Nat} : aw_M l g mi_X3_init 1 4 191 [.ref a, .ref b0] (pre ++ [(a, .inr (3, [.null, .null, .null, .null, .null]))]) (fun r w => ∃ q0 q1 q2 q3, r = none ∧ w = pre ++ [(a, .inr (3, [.ref b0, .ref q0, .ref q1, .ref q2, .ref q3])), (q0, .inl (g_ca g 0, 7, .inl (fun _ => 0))), (q1, .inl (g_ca g 0, 7, .inl (fun _ => 0))), (q2, .inl (g_ca g 0, 49, .inl (fun _ => 0))), (q3, .inl (g_ca g 0, 128, .inl (fun _ => 0)))]) := by
  refine aw_M_of mo_X3_init (by decide) (Nat.le_of_ble_eq_true rfl) ?_
  refine aw_aload_n rfl rfl ?_
  refine aw_objI rfl (aw_t1 221 rfl rfl) (aw_t1 33 rfl rfl) (aw_t1 34 rfl rfl) (by decide) (by decide) ?_
  refine aw_aload_n rfl rfl ?_
  refine aw_bipush (v := 7) rfl (by decide) ?_
  refine aw_newi (N := 7) rfl (aw_t1 56 rfl rfl) rfl (by decide) (by decide) (by decide) (fun q0 => ?_)
  refine aw_eqs (ws' := pre ++ [(a, .inr (3, [.null, .null, .null, .null, .null])), (q0, .inl (g_ca g 0, 7, .inl (fun _ => 0)))]) ?_ rfl rfl (List.append_assoc _ _ _)
  refine aw_putF (q0 := pre.length + 0) (ci := 3) 1 kY3 (ws2 := pre ++ [(a, .inr (3, [.null, .ref q0, .null, .null, .null])), (q0, .inl (g_ca g 0, 7, .inl (fun _ => 0)))]) rfl (apx_g 0 rfl) rfl kI3 kO3 kN3 (by decide) rfl rfl kl_X3_13 rfl rfl rfl rfl (Nat.le_of_ble_eq_true rfl) (apx_u 0 rfl) ?_
  refine aw_aload_n rfl rfl ?_
  refine aw_bipush (v := 7) rfl (by decide) ?_
  refine aw_newi (N := 7) rfl (aw_t1 56 rfl rfl) rfl (by decide) (by decide) (by decide) (fun q1 => ?_)
  refine aw_eqs (ws' := pre ++ [(a, .inr (3, [.null, .ref q0, .null, .null, .null])), (q0, .inl (g_ca g 0, 7, .inl (fun _ => 0))), (q1, .inl (g_ca g 0, 7, .inl (fun _ => 0)))]) ?_ rfl rfl (List.append_assoc _ _ _)
  refine aw_putF (q0 := pre.length + 0) (ci := 3) 2 kY3 (ws2 := pre ++ [(a, .inr (3, [.null, .ref q0, .ref q1, .null, .null])), (q0, .inl (g_ca g 0, 7, .inl (fun _ => 0))), (q1, .inl (g_ca g 0, 7, .inl (fun _ => 0)))]) rfl (apx_g 0 rfl) rfl kI3 kO3 kN3 (by decide) rfl rfl kl_X3_17 rfl rfl rfl rfl (Nat.le_of_ble_eq_true rfl) (apx_u 0 rfl) ?_
  refine aw_aload_n rfl rfl ?_
  refine aw_bipush (v := 49) rfl (by decide) ?_
  refine aw_newi (N := 49) rfl (aw_t1 56 rfl rfl) rfl (by decide) (by decide) (by decide) (fun q2 => ?_)
  refine aw_eqs (ws' := pre ++ [(a, .inr (3, [.null, .ref q0, .ref q1, .null, .null])), (q0, .inl (g_ca g 0, 7, .inl (fun _ => 0))), (q1, .inl (g_ca g 0, 7, .inl (fun _ => 0))), (q2, .inl (g_ca g 0, 49, .inl (fun _ => 0)))]) ?_ rfl rfl (List.append_assoc _ _ _)
  refine aw_putF (q0 := pre.length + 0) (ci := 3) 3 kY3 (ws2 := pre ++ [(a, .inr (3, [.null, .ref q0, .ref q1, .ref q2, .null])), (q0, .inl (g_ca g 0, 7, .inl (fun _ => 0))), (q1, .inl (g_ca g 0, 7, .inl (fun _ => 0))), (q2, .inl (g_ca g 0, 49, .inl (fun _ => 0)))]) rfl (apx_g 0 rfl) rfl kI3 kO3 kN3 (by decide) rfl rfl kl_X3_20 rfl rfl rfl rfl (Nat.le_of_ble_eq_true rfl) (apx_u 0 rfl) ?_
  refine aw_aload_n rfl rfl ?_
  refine aw_sipush (v := 128) rfl (by decide) ?_
  refine aw_newi (N := 128) rfl (aw_t1 56 rfl rfl) rfl (by decide) (by decide) (by decide) (fun q3 => ?_)
  refine aw_eqs (ws' := pre ++ [(a, .inr (3, [.null, .ref q0, .ref q1, .ref q2, .null])), (q0, .inl (g_ca g 0, 7, .inl (fun _ => 0))), (q1, .inl (g_ca g 0, 7, .inl (fun _ => 0))), (q2, .inl (g_ca g 0, 49, .inl (fun _ => 0))), (q3, .inl (g_ca g 0, 128, .inl (fun _ => 0)))]) ?_ rfl rfl (List.append_assoc _ _ _)
  refine aw_putF (q0 := pre.length + 0) (ci := 3) 4 kY3 (ws2 := pre ++ [(a, .inr (3, [.null, .ref q0, .ref q1, .ref q2, .ref q3])), (q0, .inl (g_ca g 0, 7, .inl (fun _ => 0))), (q1, .inl (g_ca g 0, 7, .inl (fun _ => 0))), (q2, .inl (g_ca g 0, 49, .inl (fun _ => 0))), (q3, .inl (g_ca g 0, 128, .inl (fun _ => 0)))]) rfl (apx_g 0 rfl) rfl kI3 kO3 kN3 (by decide) rfl rfl kl_X3_23 rfl rfl rfl rfl (Nat.le_of_ble_eq_true rfl) (apx_u 0 rfl) ?_
  refine aw_aload_n rfl rfl ?_
  refine aw_aload_n rfl rfl ?_
  refine aw_putF (q0 := pre.length + 0) (ci := 3) 0 kY3 (ws2 := pre ++ [(a, .inr (3, [.ref b0, .ref q0, .ref q1, .ref q2, .ref q3])), (q0, .inl (g_ca g 0, 7, .inl (fun _ => 0))), (q1, .inl (g_ca g 0, 7, .inl (fun _ => 0))), (q2, .inl (g_ca g 0, 49, .inl (fun _ => 0))), (q3, .inl (g_ca g 0, 128, .inl (fun _ => 0)))]) rfl (apx_g 0 rfl) rfl kI3 kO3 kN3 (by decide) rfl rfl kl_X3_26 rfl rfl rfl rfl (Nat.le_of_ble_eq_true rfl) (apx_u 0 rfl) ?_
  exact aw_vret rfl rfl ⟨q0, q1, q2, q3, rfl, rfl⟩
set_option maxRecDepth 8000 in
theorem c_X7_init {l : Launch} {g : ag_G}  {pre : va_W} {a b0 : Nat} : aw_M l g mi_X7_init 1 4 66 [.ref a, .ref b0] (pre ++ [(a, .inr (7, [.null, .null, .null, .null, .int 0, .null]))]) (fun r w => ∃ q0 q1 q2 q3, r = none ∧ w = pre ++ [(a, .inr (7, [.ref b0, .ref q0, .ref q1, .ref q2, .int 0, .ref q3])), (q0, .inl (g_ca g 0, 10, .inl (fun _ => 0))), (q1, .inl (g_ca g 0, 10, .inl (fun _ => 0))), (q2, .inl (g_ca g 3, 10, .inl (fun _ => 0))), (q3, .inl (g_ca g 0, 36, .inl (fun _ => 0)))]) := by
  refine aw_M_of mo_X7_init (by decide) (Nat.le_of_ble_eq_true rfl) ?_
  refine aw_aload_n rfl rfl ?_
  refine aw_objI rfl (aw_t2 3 rfl rfl) (aw_t1 33 rfl rfl) (aw_t1 34 rfl rfl) (by decide) (by decide) ?_
  refine aw_aload_n rfl rfl ?_
  refine aw_bipush (v := 10) rfl (by decide) ?_
  refine aw_newi (N := 10) rfl (aw_t1 56 rfl rfl) rfl (by decide) (by decide) (by decide) (fun q0 => ?_)
  refine aw_eqs (ws' := pre ++ [(a, .inr (7, [.null, .null, .null, .null, .int 0, .null])), (q0, .inl (g_ca g 0, 10, .inl (fun _ => 0)))]) ?_ rfl rfl (List.append_assoc _ _ _)
  refine aw_putF (q0 := pre.length + 0) (ci := 7) 1 kY7 (ws2 := pre ++ [(a, .inr (7, [.null, .ref q0, .null, .null, .int 0, .null])), (q0, .inl (g_ca g 0, 10, .inl (fun _ => 0)))]) rfl (apx_g 0 rfl) rfl kI7 kO7 kN7 (by decide) rfl rfl kl_X7_13 rfl rfl rfl rfl (Nat.le_of_ble_eq_true rfl) (apx_u 0 rfl) ?_
  refine aw_aload_n rfl rfl ?_
  refine aw_bipush (v := 10) rfl (by decide) ?_
  refine aw_newi (N := 10) rfl (aw_t1 56 rfl rfl) rfl (by decide) (by decide) (by decide) (fun q1 => ?_)
  refine aw_eqs (ws' := pre ++ [(a, .inr (7, [.null, .ref q0, .null, .null, .int 0, .null])), (q0, .inl (g_ca g 0, 10, .inl (fun _ => 0))), (q1, .inl (g_ca g 0, 10, .inl (fun _ => 0)))]) ?_ rfl rfl (List.append_assoc _ _ _)
  refine aw_putF (q0 := pre.length + 0) (ci := 7) 2 kY7 (ws2 := pre ++ [(a, .inr (7, [.null, .ref q0, .ref q1, .null, .int 0, .null])), (q0, .inl (g_ca g 0, 10, .inl (fun _ => 0))), (q1, .inl (g_ca g 0, 10, .inl (fun _ => 0)))]) rfl (apx_g 0 rfl) rfl kI7 kO7 kN7 (by decide) rfl rfl kl_X7_17 rfl rfl rfl rfl (Nat.le_of_ble_eq_true rfl) (apx_u 0 rfl) ?_
  refine aw_aload_n rfl rfl ?_
  refine aw_bipush (v := 10) rfl (by decide) ?_
  refine aw_newz (N := 10) rfl (aw_t2 24 rfl rfl) rfl (by decide) (by decide) (by decide) (fun q2 => ?_)
  refine aw_eqs (ws' := pre ++ [(a, .inr (7, [.null, .ref q0, .ref q1, .null, .int 0, .null])), (q0, .inl (g_ca g 0, 10, .inl (fun _ => 0))), (q1, .inl (g_ca g 0, 10, .inl (fun _ => 0))), (q2, .inl (g_ca g 3, 10, .inl (fun _ => 0)))]) ?_ rfl rfl (List.append_assoc _ _ _)
  refine aw_putF (q0 := pre.length + 0) (ci := 7) 3 kY7 (ws2 := pre ++ [(a, .inr (7, [.null, .ref q0, .ref q1, .ref q2, .int 0, .null])), (q0, .inl (g_ca g 0, 10, .inl (fun _ => 0))), (q1, .inl (g_ca g 0, 10, .inl (fun _ => 0))), (q2, .inl (g_ca g 3, 10, .inl (fun _ => 0)))]) rfl (apx_g 0 rfl) rfl kI7 kO7 kN7 (by decide) rfl rfl kl_X7_20 rfl rfl rfl rfl (Nat.le_of_ble_eq_true rfl) (apx_u 0 rfl) ?_
  refine aw_aload_n rfl rfl ?_
  refine aw_bipush (v := 36) rfl (by decide) ?_
  refine aw_newi (N := 36) rfl (aw_t1 56 rfl rfl) rfl (by decide) (by decide) (by decide) (fun q3 => ?_)
  refine aw_eqs (ws' := pre ++ [(a, .inr (7, [.null, .ref q0, .ref q1, .ref q2, .int 0, .null])), (q0, .inl (g_ca g 0, 10, .inl (fun _ => 0))), (q1, .inl (g_ca g 0, 10, .inl (fun _ => 0))), (q2, .inl (g_ca g 3, 10, .inl (fun _ => 0))), (q3, .inl (g_ca g 0, 36, .inl (fun _ => 0)))]) ?_ rfl rfl (List.append_assoc _ _ _)
  refine aw_putF (q0 := pre.length + 0) (ci := 7) 5 kY7 (ws2 := pre ++ [(a, .inr (7, [.null, .ref q0, .ref q1, .ref q2, .int 0, .ref q3])), (q0, .inl (g_ca g 0, 10, .inl (fun _ => 0))), (q1, .inl (g_ca g 0, 10, .inl (fun _ => 0))), (q2, .inl (g_ca g 3, 10, .inl (fun _ => 0))), (q3, .inl (g_ca g 0, 36, .inl (fun _ => 0)))]) rfl (apx_g 0 rfl) rfl kI7 kO7 kN7 (by decide) rfl rfl kl_X7_24 rfl rfl rfl rfl (Nat.le_of_ble_eq_true rfl) (apx_u 0 rfl) ?_
  refine aw_aload_n rfl rfl ?_
  refine aw_aload_n rfl rfl ?_
  refine aw_putF (q0 := pre.length + 0) (ci := 7) 0 kY7 (ws2 := pre ++ [(a, .inr (7, [.ref b0, .ref q0, .ref q1, .ref q2, .int 0, .ref q3])), (q0, .inl (g_ca g 0, 10, .inl (fun _ => 0))), (q1, .inl (g_ca g 0, 10, .inl (fun _ => 0))), (q2, .inl (g_ca g 3, 10, .inl (fun _ => 0))), (q3, .inl (g_ca g 0, 36, .inl (fun _ => 0)))]) rfl (apx_g 0 rfl) rfl kI7 kO7 kN7 (by decide) rfl rfl kl_X7_27 rfl rfl rfl rfl (Nat.le_of_ble_eq_true rfl) (apx_u 0 rfl) ?_
  exact aw_vret rfl rfl ⟨q0, q1, q2, q3, rfl, rfl⟩
set_option maxRecDepth 8000 in
theorem c_X2_init {l : Launch} {g : ag_G}  {pre : va_W} {a b0 : Nat} : aw_M l g mi_X2_init 1 0 0 [.ref a, .ref b0] (pre ++ [(a, .inr (2, [.null]))]) (fun r w => r = none ∧ w = pre ++ [(a, .inr (2, [.ref b0]))]) := by
  refine aw_M_of mo_X2_init (by decide) (Nat.le_of_ble_eq_true rfl) ?_
  refine aw_aload_n rfl rfl ?_
  refine aw_objI rfl (aw_t2 30 rfl rfl) (aw_t1 33 rfl rfl) (aw_t1 34 rfl rfl) (by decide) (by decide) ?_
  refine aw_aload_n rfl rfl ?_
  refine aw_aload_n rfl rfl ?_
  refine aw_putF (q0 := pre.length + 0) (ci := 2) 0 kY2 (ws2 := pre ++ [(a, .inr (2, [.ref b0]))]) rfl (apx_g 0 rfl) rfl kI2 kO2 kN2 (by decide) rfl rfl kl_X2_9 rfl rfl rfl rfl (Nat.le_of_ble_eq_true rfl) (apx_u 0 rfl) ?_
  exact aw_vret rfl rfl ⟨rfl, rfl⟩
set_option maxRecDepth 8000 in
theorem c_X1_init {l : Launch} {g : ag_G}  {pre : va_W} {a  : Nat} : aw_M l g mi_X1_init 1 0 0 [.ref a] (pre ++ [(a, .inr (1, [.long 0]))]) (fun r w => r = none ∧ w = pre ++ [(a, .inr (1, [.long 0]))]) := by
  refine aw_M_of mo_X1_init (by decide) (Nat.le_of_ble_eq_true rfl) ?_
  refine aw_aload_n rfl rfl ?_
  refine aw_objI rfl (aw_t2 40 rfl rfl) (aw_t1 33 rfl rfl) (aw_t1 34 rfl rfl) (by decide) (by decide) ?_
  exact aw_vret rfl rfl ⟨rfl, rfl⟩
