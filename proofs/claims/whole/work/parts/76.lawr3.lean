/-! the class's code of clauses, and its reading of a whole law -/
def PU (f : Nat → Int32) (K d : Nat) (e : Ex) : Prop := ∀ A st, evC A f d K st = some (e A :: st)
def CD (f : Nat → Int32) (K K' : Nat) (c v : Ex) : Prop := (c = eOne ∧ ∃ d, K' = K + d + 1 ∧ PU f K d v ∧ f (K + d) = 20059) ∨ ∃ d1 d2, K' = K + d1 + 1 + d2 + 1 ∧ PU f K d1 c ∧ f (K + d1) = 30000 + nI K' ∧ PU f (K + d1 + 1) d2 v ∧ f (K + d1 + 1 + d2) = 20059
def CL (f : Nat → Int32) : Nat → List (Ex × Ex) → Nat → Prop
  | K, [], K' => K' = K
  | K, z :: r, K' => ∃ K1, CD f K K1 z.1 z.2 ∧ CL f K1 r K'
theorem PU_c {f f' : Nat → Int32} {K d : Nat} {e : Ex} (h : PU f K d e) (hf : ∀ j, j < K + d → f' j = f j) : PU f' K d e := fun A st => by
  rw [evC_c d K st (fun j _ h2 => hf j h2)]; exact h A st
theorem CD_lt {f : Nat → Int32} {K K' : Nat} {c v : Ex} (h : CD f K K' c v) : K < K' := by
  rcases h with ⟨-, d, h, -⟩ | ⟨d1, d2, h, -⟩ <;> omega
theorem CD_c {f f' : Nat → Int32} {K K' : Nat} {c v : Ex} (h : CD f K K' c v) (hf : ∀ j, j < K' → f' j = f j) : CD f' K K' c v := by
  rcases h with ⟨h0, d, h1, h2, h3⟩ | ⟨d1, d2, h1, h2, h3, h4, h5⟩
  · exact Or.inl ⟨h0, d, h1, PU_c h2 (fun j hj => hf j (by omega)), (hf _ (by omega)).trans h3⟩
  · exact Or.inr ⟨d1, d2, h1, PU_c h2 (fun j hj => hf j (by omega)), (hf _ (by omega)).trans h3, PU_c h4 (fun j hj => hf j (by omega)), (hf _ (by omega)).trans h5⟩
theorem CL_le {f : Nat → Int32} : ∀ (L : List (Ex × Ex)) (K K' : Nat), CL f K L K' → K ≤ K'
  | [], _, _, h => by rw [show _ = _ from h]; exact Nat.le_refl _
  | _ :: r, K, K', ⟨K1, h1, h2⟩ => by have := CL_le r K1 K' h2; have := CD_lt h1; omega
theorem CL_c {f f' : Nat → Int32} : ∀ (L : List (Ex × Ex)) (K K' : Nat), CL f K L K' → (∀ j, j < K' → f' j = f j) → CL f' K L K'
  | [], _, _, h, _ => h
  | _ :: r, K, K', ⟨K1, h1, h2⟩, hf => ⟨K1, CD_c h1 (fun j hj => hf j (by have := CL_le r K1 K' h2; omega)), CL_c r K1 K' h2 hf⟩
theorem CL_a {f : Nat → Int32} {c v : Ex} : ∀ (L : List (Ex × Ex)) (K K1 K' : Nat), CL f K L K1 → CD f K1 K' c v → CL f K (L ++ [(c, v)]) K'
  | [], K, K1, K', h, h2 => by rw [show K1 = K from h] at h2; exact ⟨K', h2, rfl⟩
  | _ :: r, K, K1, K', ⟨K2, h1, h3⟩, h2 => ⟨K2, h1, CL_a r K2 K1 K' h3 h2⟩
theorem CD_1 {F F1 : Nat → Int32} {K d q p1 : Nat} {v : Ex} (h : SG none F F1 K d q p1 v) : CD (upd F1 (K + d) 20059) K (K + d + 1) eOne v :=
  Or.inl ⟨rfl, d, rfl, PU_c (f := F1) h.2.2 (fun j hj => upd_n (by omega)), upd_s⟩
theorem CD_2 {F F1 F2 : Nat → Int32} {K d1 d2 q p1 p2 p3 : Nat} {x : Int32} {c v : Ex} (h : SG none F F1 K d1 q p1 c) (h2 : SG none (upd F1 (K + d1) x) F2 (K + d1 + 1) d2 p2 p3 v) : CD (upd (upd F2 (K + d1 + 1 + d2) 20059) (K + d1) (30000 + nI (K + d1 + 1 + d2 + 1))) K (K + d1 + 1 + d2 + 1) c v := by
  refine Or.inr ⟨d1, d2, rfl, PU_c (f := F1) h.2.2 (fun j hj => ?_), upd_s, ?_, ?_⟩
  · rw [upd_n (by omega), upd_n (by omega), h2.2.1 j (by omega), upd_n (by omega)]
  · intro A st
    rw [evC_c (f := F2) d2 _ st (fun j h3 h4 => by rw [upd_n (by omega), upd_n (by omega)])]
    exact h2.2.2 A st
  · rw [upd_n (by omega), upd_s]
def KO (g : ag_G) (s : am_S) (n : am_N) (F : Nat → Int32) (K : Nat) : Rc → Option Value → va_W → Prop
  | .ok z => fun o y => o = some (.int 1) ∧ ∃ F' K', y = hp g (lm s z.1 F' K') n ∧ K' ≤ z.1 ∧ (∀ j, j < K → F' j = F j) ∧ CD F' K K' z.2.1 z.2.2
  | .error q => fun o y => o = some (.int 0) ∧ ∃ F' K', y = hp g (lm s q F' K') n
set_option maxRecDepth 4000 in
theorem c_clauseL {l : Launch} {g : ag_G} {s : am_S} {n : am_N} {E : Nat} {tx : Nat → Nat} (hx : aw_hx g) (hT : CT s E tx) {p : Nat} {r : Rc} (h : CZ tx E p r) (hpE : p ≤ E) (F : Nat → Int32) (K : Nat) (hK : K ≤ p) : aw_M l g mi_X5_readsClause 27 0 0 [.ref (g_ad g 6)] (hp g (lm s p F K) n) (KO g s n F K r) := by
  have hE := hT.2.1
  have hk := skw_b (tx := tx) hpE
  rcases h with ⟨h1, rfl⟩ | ⟨h1, h2, rfl⟩ | ⟨hY, hQ, f, z1, rfl⟩ | ⟨hY, hQ, p3, c, z1, h3, rfl⟩ | ⟨hY, hQ, p3, c, f, z1, h3, z2, rfl⟩ | ⟨hY, hQ, p3, c, p4, v, z1, h3, z2, rfl⟩ | ⟨hY, hQ, f, z1, rfl⟩ | ⟨hY, hQ, p3, v, z1, h3, rfl⟩ | ⟨hY, hQ, p3, u, f, z1, h3, z2, rfl⟩ | ⟨hY, hQ, p3, u, p4, c, z1, h3, z2, h4, rfl⟩ | ⟨hY, hQ, p3, u, p4, c, f, z1, h3, z2, h4, z3, rfl⟩ | ⟨hY, hQ, p3, u, p4, c, p5, v, z1, h3, z2, h4, z3, rfl⟩
  · refine aw_M_of mo_X5_readsClause (by decide) (Nat.le_of_ble_eq_true rfl) ?_
    refine aw_aload_n rfl rfl ?_
    refine pg_6_0 rfl kl_X5_17 ?_
    refine aw_bipush (v := 121) rfl (by decide) ?_
    refine aw_iV (q0 := 1) (ci := 10) rfl cw_X5_42 rfl rfl rfl (c_passX hT hpE h1) rfl rfl (Nat.le_of_ble_eq_true rfl) (rmF (by omega)) (rmL (by decide) (by omega)) (Nat.zero_le _) (Nat.zero_le _) ?_
    refine aw_if_eq (tgt := 24) rfl (by decide) (fun h9 => ?_) (fun h9 => absurd (rfl) h9)
    refine aw_iconst (v := 0) rfl (by decide) ?_
    exact aw_z0 rfl rfl ⟨rfl, _, _, rfl⟩
  · have hnx : skw tx E p + 1 ≤ E := by (have := cst_lt (tx := tx) (E := E) (p := p) (by rw [h1]; decide); omega)
    refine aw_M_of mo_X5_readsClause (by decide) (Nat.le_of_ble_eq_true rfl) ?_
    refine aw_aload_n rfl rfl ?_
    refine pg_6_0 rfl kl_X5_17 ?_
    refine aw_bipush (v := 121) rfl (by decide) ?_
    refine aw_iV (q0 := 1) (ci := 10) rfl cw_X5_42 rfl rfl rfl (c_passY hT hpE h1) rfl rfl (Nat.le_of_ble_eq_true rfl) (rmF (by omega)) (rmL (by decide) (by omega)) (Nat.zero_le _) (Nat.zero_le _) ?_
    refine aw_if_eq (tgt := 24) rfl (by decide) (fun h9 => absurd h9 (by decide)) (fun h9 => ?_)
    refine aw_aload_n rfl rfl ?_
    refine pg_6_0 rfl kl_X5_17 ?_
    refine aw_bipush (v := 58) rfl (by decide) ?_
    refine aw_iV (q0 := 1) (ci := 10) rfl cw_X5_42 rfl rfl rfl (c_passX hT hnx h2) rfl rfl (Nat.le_of_ble_eq_true rfl) (rmF (by omega)) (rmL (by decide) (by omega)) (Nat.zero_le _) (Nat.zero_le _) ?_
    refine aw_if_ne (tgt := 26) rfl (by decide) (fun h21 => absurd (rfl) h21) (fun h21 => ?_)
    refine aw_iconst (v := 0) rfl (by decide) ?_
    exact aw_z0 rfl rfl ⟨rfl, _, _, rfl⟩
  · have hnx : skw tx E p + 1 ≤ E := by (have := cst_lt (tx := tx) (E := E) (p := p) (by rw [hY.1]; decide); omega)
    have hks := ks_b hY hpE
    have hkk := skw_b (tx := tx) hks.2
    have d1 : ∀ F K, K ≤ (skw tx E (ks tx E p)) → aw_M l g mi_X5_readsCondition (8 + 3 * (6 - 0)) 0 0 [.ref (g_ad g 6), .int 0, .int 0] (hp g (lm s (skw tx E (ks tx E p)) F K) n) (LO g s n none F K (skw tx E (ks tx E p)) (rNo f)) := lm_all hx hT z1 hkk.2.1 (by decide)
    refine aw_M_of mo_X5_readsClause (by decide) (Nat.le_of_ble_eq_true rfl) ?_
    refine aw_aload_n rfl rfl ?_
    refine pg_6_0 rfl kl_X5_17 ?_
    refine aw_bipush (v := 121) rfl (by decide) ?_
    refine aw_iV (q0 := 1) (ci := 10) rfl cw_X5_42 rfl rfl rfl (c_passY hT hpE hY.1) rfl rfl (Nat.le_of_ble_eq_true rfl) (rmF (by omega)) (rmL (by decide) (by omega)) (Nat.zero_le _) (Nat.zero_le _) ?_
    refine aw_if_eq (tgt := 24) rfl (by decide) (fun h9 => absurd h9 (by decide)) (fun h9 => ?_)
    refine aw_aload_n rfl rfl ?_
    refine pg_6_0 rfl kl_X5_17 ?_
    refine aw_bipush (v := 58) rfl (by decide) ?_
    refine aw_iV (q0 := 1) (ci := 10) rfl cw_X5_42 rfl rfl rfl (c_passY hT hnx hY.2) rfl rfl (Nat.le_of_ble_eq_true rfl) (rmF (by omega)) (rmL (by decide) (by omega)) (Nat.zero_le _) (Nat.zero_le _) ?_
    refine aw_if_ne (tgt := 26) rfl (by decide) (fun h21 => ?_) (fun h21 => absurd h21 (by decide))
    refine aw_eqs (ws' := hp g (lm s (ks tx E p) F K) n) ?_ rfl rfl rfl
    refine aw_aload_n rfl rfl ?_
    refine pg_6_0 rfl kl_X5_17 ?_
    refine aw_iV (q0 := 1) (ci := 10) rfl cw_X5_38 rfl rfl rfl (c_signL hT (p := ks tx E p) hks.2) rfl rfl (Nat.le_of_ble_eq_true rfl) (rmF (by omega)) (rmL (by decide) (by omega)) (Nat.zero_le _) (Nat.zero_le _) ?_
    refine aw_istore_n rfl (by decide) ?_
    refine aw_iload_n rfl rfl ?_
    refine aw_bipush (v := 33) rfl (by decide) ?_
    refine aw_icmp_eq (tgt := 46) rfl (by decide) (fun h37 => ?_) (fun h37 => ?_)
    · refine aw_iconst (v := 1) rfl (by decide) ?_
      refine aw_goto (tgt := 51) rfl (by decide) ?_
      refine aw_istore_n rfl (by decide) ?_
      refine aw_iload_n rfl rfl ?_
      refine aw_if_ne (tgt := 88) rfl (by decide) (fun h53 => ?_) (fun h53 => absurd h53 (by decide))
      refine aw_aload_n rfl rfl ?_
      refine aw_iconst (v := 0) rfl (by decide) ?_
      refine aw_iload_n rfl rfl ?_
      refine aw_if_ne (tgt := 98) rfl (by decide) (fun h91 => ?_) (fun h91 => absurd h91 (by decide))
      refine aw_iconst (v := 0) rfl (by decide) ?_
      refine aw_lN (q0 := 6) (ci := 5) rfl cw_X5_56 rfl rfl rfl (d1 F K (by omega)) rfl rfl (Nat.le_of_ble_eq_true rfl) (rmF (by omega)) (rmL (by decide) (by omega)) (Nat.zero_le _) (Nat.zero_le _) (fun F9 K9 => ?_)
      refine aw_if_eq (tgt := 117) rfl (by decide) (fun h102 => ?_) (fun h102 => absurd (rfl) h102)
      refine aw_iconst (v := 0) rfl (by decide) ?_
      exact aw_z0 rfl rfl ⟨rfl, _, _, rfl⟩
    · refine aw_iload_n rfl rfl ?_
      refine aw_bipush (v := 40) rfl (by decide) ?_
      refine aw_icmp_ne (tgt := 50) rfl (by decide) (fun h43 => absurd (hQ.resolve_left h37) h43) (fun h43 => ?_)
      refine aw_iconst (v := 1) rfl (by decide) ?_
      refine aw_goto (tgt := 51) rfl (by decide) ?_
      refine aw_istore_n rfl (by decide) ?_
      refine aw_iload_n rfl rfl ?_
      refine aw_if_ne (tgt := 88) rfl (by decide) (fun h53 => ?_) (fun h53 => absurd h53 (by decide))
      refine aw_aload_n rfl rfl ?_
      refine aw_iconst (v := 0) rfl (by decide) ?_
      refine aw_iload_n rfl rfl ?_
      refine aw_if_ne (tgt := 98) rfl (by decide) (fun h91 => ?_) (fun h91 => absurd h91 (by decide))
      refine aw_iconst (v := 0) rfl (by decide) ?_
      refine aw_lN (q0 := 6) (ci := 5) rfl cw_X5_56 rfl rfl rfl (d1 F K (by omega)) rfl rfl (Nat.le_of_ble_eq_true rfl) (rmF (by omega)) (rmL (by decide) (by omega)) (Nat.zero_le _) (Nat.zero_le _) (fun F9 K9 => ?_)
      refine aw_if_eq (tgt := 117) rfl (by decide) (fun h102 => ?_) (fun h102 => absurd (rfl) h102)
      refine aw_iconst (v := 0) rfl (by decide) ?_
      exact aw_z0 rfl rfl ⟨rfl, _, _, rfl⟩
  · have hnx : skw tx E p + 1 ≤ E := by (have := cst_lt (tx := tx) (E := E) (p := p) (by rw [hY.1]; decide); omega)
    have hks := ks_b hY hpE
    have hkk := skw_b (tx := tx) hks.2
    have hp3 := PZ_pr z1 hkk.2.1
    have hp3E : p3 ≤ E := hp3.2.1
    have hk3 := skw_b (tx := tx) hp3E
    have d1 : ∀ F K, K ≤ (skw tx E (ks tx E p)) → aw_M l g mi_X5_readsCondition (8 + 3 * (6 - 0)) 0 0 [.ref (g_ad g 6), .int 0, .int 0] (hp g (lm s (skw tx E (ks tx E p)) F K) n) (LO g s n none F K (skw tx E (ks tx E p)) (rOk p3 c)) := lm_all hx hT z1 hkk.2.1 (by decide)
    refine aw_M_of mo_X5_readsClause (by decide) (Nat.le_of_ble_eq_true rfl) ?_
    refine aw_aload_n rfl rfl ?_
    refine pg_6_0 rfl kl_X5_17 ?_
    refine aw_bipush (v := 121) rfl (by decide) ?_
    refine aw_iV (q0 := 1) (ci := 10) rfl cw_X5_42 rfl rfl rfl (c_passY hT hpE hY.1) rfl rfl (Nat.le_of_ble_eq_true rfl) (rmF (by omega)) (rmL (by decide) (by omega)) (Nat.zero_le _) (Nat.zero_le _) ?_
    refine aw_if_eq (tgt := 24) rfl (by decide) (fun h9 => absurd h9 (by decide)) (fun h9 => ?_)
    refine aw_aload_n rfl rfl ?_
    refine pg_6_0 rfl kl_X5_17 ?_
    refine aw_bipush (v := 58) rfl (by decide) ?_
    refine aw_iV (q0 := 1) (ci := 10) rfl cw_X5_42 rfl rfl rfl (c_passY hT hnx hY.2) rfl rfl (Nat.le_of_ble_eq_true rfl) (rmF (by omega)) (rmL (by decide) (by omega)) (Nat.zero_le _) (Nat.zero_le _) ?_
    refine aw_if_ne (tgt := 26) rfl (by decide) (fun h21 => ?_) (fun h21 => absurd h21 (by decide))
    refine aw_eqs (ws' := hp g (lm s (ks tx E p) F K) n) ?_ rfl rfl rfl
    refine aw_aload_n rfl rfl ?_
    refine pg_6_0 rfl kl_X5_17 ?_
    refine aw_iV (q0 := 1) (ci := 10) rfl cw_X5_38 rfl rfl rfl (c_signL hT (p := ks tx E p) hks.2) rfl rfl (Nat.le_of_ble_eq_true rfl) (rmF (by omega)) (rmL (by decide) (by omega)) (Nat.zero_le _) (Nat.zero_le _) ?_
    refine aw_istore_n rfl (by decide) ?_
    refine aw_iload_n rfl rfl ?_
    refine aw_bipush (v := 33) rfl (by decide) ?_
    refine aw_icmp_eq (tgt := 46) rfl (by decide) (fun h37 => ?_) (fun h37 => ?_)
    · refine aw_iconst (v := 1) rfl (by decide) ?_
      refine aw_goto (tgt := 51) rfl (by decide) ?_
      refine aw_istore_n rfl (by decide) ?_
      refine aw_iload_n rfl rfl ?_
      refine aw_if_ne (tgt := 88) rfl (by decide) (fun h53 => ?_) (fun h53 => absurd h53 (by decide))
      refine aw_aload_n rfl rfl ?_
      refine aw_iconst (v := 0) rfl (by decide) ?_
      refine aw_iload_n rfl rfl ?_
      refine aw_if_ne (tgt := 98) rfl (by decide) (fun h91 => ?_) (fun h91 => absurd h91 (by decide))
      refine aw_iconst (v := 0) rfl (by decide) ?_
      refine aw_lK (q0 := 6) (ci := 5) rfl cw_X5_56 rfl rfl rfl (d1 F K (by omega)) rfl rfl (Nat.le_of_ble_eq_true rfl) (rmF (by omega)) (rmL (by decide) (by omega)) (Nat.zero_le _) (Nat.zero_le _) (fun F1 dd hS => ?_)
      refine aw_if_eq (tgt := 117) rfl (by decide) (fun h102 => absurd h102 (by decide)) (fun h102 => ?_)
      refine aw_aload_n rfl rfl ?_
      refine pg_6_0 rfl kl_X5_17 ?_
      refine aw_bipush (v := 63) rfl (by decide) ?_
      refine aw_iV (q0 := 1) (ci := 10) rfl cw_X5_42 rfl rfl rfl (c_passX hT hp3E h3) rfl rfl (Nat.le_of_ble_eq_true rfl) (rmF (by omega)) (rmL (by decide) (by omega)) (Nat.zero_le _) (Nat.zero_le _) ?_
      refine aw_if_ne (tgt := 119) rfl (by decide) (fun h114 => absurd (rfl) h114) (fun h114 => ?_)
      refine aw_iconst (v := 0) rfl (by decide) ?_
      exact aw_z0 rfl rfl ⟨rfl, _, _, rfl⟩
    · refine aw_iload_n rfl rfl ?_
      refine aw_bipush (v := 40) rfl (by decide) ?_
      refine aw_icmp_ne (tgt := 50) rfl (by decide) (fun h43 => absurd (hQ.resolve_left h37) h43) (fun h43 => ?_)
      refine aw_iconst (v := 1) rfl (by decide) ?_
      refine aw_goto (tgt := 51) rfl (by decide) ?_
      refine aw_istore_n rfl (by decide) ?_
      refine aw_iload_n rfl rfl ?_
      refine aw_if_ne (tgt := 88) rfl (by decide) (fun h53 => ?_) (fun h53 => absurd h53 (by decide))
      refine aw_aload_n rfl rfl ?_
      refine aw_iconst (v := 0) rfl (by decide) ?_
      refine aw_iload_n rfl rfl ?_
      refine aw_if_ne (tgt := 98) rfl (by decide) (fun h91 => ?_) (fun h91 => absurd h91 (by decide))
      refine aw_iconst (v := 0) rfl (by decide) ?_
      refine aw_lK (q0 := 6) (ci := 5) rfl cw_X5_56 rfl rfl rfl (d1 F K (by omega)) rfl rfl (Nat.le_of_ble_eq_true rfl) (rmF (by omega)) (rmL (by decide) (by omega)) (Nat.zero_le _) (Nat.zero_le _) (fun F1 dd hS => ?_)
      refine aw_if_eq (tgt := 117) rfl (by decide) (fun h102 => absurd h102 (by decide)) (fun h102 => ?_)
      refine aw_aload_n rfl rfl ?_
      refine pg_6_0 rfl kl_X5_17 ?_
      refine aw_bipush (v := 63) rfl (by decide) ?_
      refine aw_iV (q0 := 1) (ci := 10) rfl cw_X5_42 rfl rfl rfl (c_passX hT hp3E h3) rfl rfl (Nat.le_of_ble_eq_true rfl) (rmF (by omega)) (rmL (by decide) (by omega)) (Nat.zero_le _) (Nat.zero_le _) ?_
      refine aw_if_ne (tgt := 119) rfl (by decide) (fun h114 => absurd (rfl) h114) (fun h114 => ?_)
      refine aw_iconst (v := 0) rfl (by decide) ?_
      exact aw_z0 rfl rfl ⟨rfl, _, _, rfl⟩
  · have hnx : skw tx E p + 1 ≤ E := by (have := cst_lt (tx := tx) (E := E) (p := p) (by rw [hY.1]; decide); omega)
    have hks := ks_b hY hpE
    have hkk := skw_b (tx := tx) hks.2
    have hp3 := PZ_pr z1 hkk.2.1
    have hp3E : p3 ≤ E := hp3.2.1
    have hk3 := skw_b (tx := tx) hp3E
    have hnx3 : skw tx E p3 + 1 ≤ E := by (have := cst_lt (tx := tx) (E := E) (p := p3) (by rw [h3]; decide); omega)
    have d1 : ∀ F K, K ≤ (skw tx E (ks tx E p)) → aw_M l g mi_X5_readsCondition (8 + 3 * (6 - 0)) 0 0 [.ref (g_ad g 6), .int 0, .int 0] (hp g (lm s (skw tx E (ks tx E p)) F K) n) (LO g s n none F K (skw tx E (ks tx E p)) (rOk p3 c)) := lm_all hx hT z1 hkk.2.1 (by decide)
    have d2 : ∀ F K, K ≤ (skw tx E p3 + 1) → aw_M l g mi_X5_readsSum (6 + 3 * (6 - 0)) 0 0 [.ref (g_ad g 6), .int 0] (hp g (lm s (skw tx E p3 + 1) F K) n) (LO g s n none F K (skw tx E p3 + 1) (rNo f)) := lm_all hx hT z2 hnx3 (by decide)
    refine aw_M_of mo_X5_readsClause (by decide) (Nat.le_of_ble_eq_true rfl) ?_
    refine aw_aload_n rfl rfl ?_
    refine pg_6_0 rfl kl_X5_17 ?_
    refine aw_bipush (v := 121) rfl (by decide) ?_
    refine aw_iV (q0 := 1) (ci := 10) rfl cw_X5_42 rfl rfl rfl (c_passY hT hpE hY.1) rfl rfl (Nat.le_of_ble_eq_true rfl) (rmF (by omega)) (rmL (by decide) (by omega)) (Nat.zero_le _) (Nat.zero_le _) ?_
    refine aw_if_eq (tgt := 24) rfl (by decide) (fun h9 => absurd h9 (by decide)) (fun h9 => ?_)
    refine aw_aload_n rfl rfl ?_
    refine pg_6_0 rfl kl_X5_17 ?_
    refine aw_bipush (v := 58) rfl (by decide) ?_
    refine aw_iV (q0 := 1) (ci := 10) rfl cw_X5_42 rfl rfl rfl (c_passY hT hnx hY.2) rfl rfl (Nat.le_of_ble_eq_true rfl) (rmF (by omega)) (rmL (by decide) (by omega)) (Nat.zero_le _) (Nat.zero_le _) ?_
    refine aw_if_ne (tgt := 26) rfl (by decide) (fun h21 => ?_) (fun h21 => absurd h21 (by decide))
    refine aw_eqs (ws' := hp g (lm s (ks tx E p) F K) n) ?_ rfl rfl rfl
    refine aw_aload_n rfl rfl ?_
    refine pg_6_0 rfl kl_X5_17 ?_
    refine aw_iV (q0 := 1) (ci := 10) rfl cw_X5_38 rfl rfl rfl (c_signL hT (p := ks tx E p) hks.2) rfl rfl (Nat.le_of_ble_eq_true rfl) (rmF (by omega)) (rmL (by decide) (by omega)) (Nat.zero_le _) (Nat.zero_le _) ?_
    refine aw_istore_n rfl (by decide) ?_
    refine aw_iload_n rfl rfl ?_
    refine aw_bipush (v := 33) rfl (by decide) ?_
    refine aw_icmp_eq (tgt := 46) rfl (by decide) (fun h37 => ?_) (fun h37 => ?_)
    · refine aw_iconst (v := 1) rfl (by decide) ?_
      refine aw_goto (tgt := 51) rfl (by decide) ?_
      refine aw_istore_n rfl (by decide) ?_
      refine aw_iload_n rfl rfl ?_
      refine aw_if_ne (tgt := 88) rfl (by decide) (fun h53 => ?_) (fun h53 => absurd h53 (by decide))
      refine aw_aload_n rfl rfl ?_
      refine aw_iconst (v := 0) rfl (by decide) ?_
      refine aw_iload_n rfl rfl ?_
      refine aw_if_ne (tgt := 98) rfl (by decide) (fun h91 => ?_) (fun h91 => absurd h91 (by decide))
      refine aw_iconst (v := 0) rfl (by decide) ?_
      refine aw_lK (q0 := 6) (ci := 5) rfl cw_X5_56 rfl rfl rfl (d1 F K (by omega)) rfl rfl (Nat.le_of_ble_eq_true rfl) (rmF (by omega)) (rmL (by decide) (by omega)) (Nat.zero_le _) (Nat.zero_le _) (fun F1 dd hS => ?_)
      refine aw_if_eq (tgt := 117) rfl (by decide) (fun h102 => absurd h102 (by decide)) (fun h102 => ?_)
      have hg := hS.1
      refine aw_aload_n rfl rfl ?_
      refine pg_6_0 rfl kl_X5_17 ?_
      refine aw_bipush (v := 63) rfl (by decide) ?_
      refine aw_iV (q0 := 1) (ci := 10) rfl cw_X5_42 rfl rfl rfl (c_passY hT hp3E h3) rfl rfl (Nat.le_of_ble_eq_true rfl) (rmF (by omega)) (rmL (by decide) (by omega)) (Nat.zero_le _) (Nat.zero_le _) ?_
      refine aw_if_ne (tgt := 119) rfl (by decide) (fun h114 => ?_) (fun h114 => absurd h114 (by decide))
      refine aw_aload_n rfl rfl ?_
      refine pg_6_2 rfl kl_X5_21 ?_
      refine aw_istore_n rfl (by decide) ?_
      refine aw_aload_n rfl rfl ?_
      refine aw_sipush (v := 30000) rfl (by decide) ?_
      refine aw_vV (q0 := 6) (ci := 5) rfl cw_X5_52 rfl rfl rfl (c_emitL (by omega)) rfl rfl (Nat.le_of_ble_eq_true rfl) (rmF (by omega)) (rmL (by decide) (by omega)) (Nat.zero_le _) (Nat.zero_le _) ?_
      refine aw_aload_n rfl rfl ?_
      refine aw_iconst (v := 0) rfl (by decide) ?_
      refine aw_lN (q0 := 6) (ci := 5) rfl cw_X5_46 rfl rfl rfl (d2 _ (K + dd + 1) (by omega)) rfl rfl (Nat.le_of_ble_eq_true rfl) (rmF (by omega)) (rmL (by decide) (by omega)) (Nat.zero_le _) (Nat.zero_le _) (fun F9 K9 => ?_)
      refine aw_if_ne (tgt := 141) rfl (by decide) (fun h136 => absurd (rfl) h136) (fun h136 => ?_)
      refine aw_iconst (v := 0) rfl (by decide) ?_
      exact aw_z0 rfl rfl ⟨rfl, _, _, rfl⟩
    · refine aw_iload_n rfl rfl ?_
      refine aw_bipush (v := 40) rfl (by decide) ?_
      refine aw_icmp_ne (tgt := 50) rfl (by decide) (fun h43 => absurd (hQ.resolve_left h37) h43) (fun h43 => ?_)
      refine aw_iconst (v := 1) rfl (by decide) ?_
      refine aw_goto (tgt := 51) rfl (by decide) ?_
      refine aw_istore_n rfl (by decide) ?_
      refine aw_iload_n rfl rfl ?_
      refine aw_if_ne (tgt := 88) rfl (by decide) (fun h53 => ?_) (fun h53 => absurd h53 (by decide))
      refine aw_aload_n rfl rfl ?_
      refine aw_iconst (v := 0) rfl (by decide) ?_
      refine aw_iload_n rfl rfl ?_
      refine aw_if_ne (tgt := 98) rfl (by decide) (fun h91 => ?_) (fun h91 => absurd h91 (by decide))
      refine aw_iconst (v := 0) rfl (by decide) ?_
      refine aw_lK (q0 := 6) (ci := 5) rfl cw_X5_56 rfl rfl rfl (d1 F K (by omega)) rfl rfl (Nat.le_of_ble_eq_true rfl) (rmF (by omega)) (rmL (by decide) (by omega)) (Nat.zero_le _) (Nat.zero_le _) (fun F1 dd hS => ?_)
      refine aw_if_eq (tgt := 117) rfl (by decide) (fun h102 => absurd h102 (by decide)) (fun h102 => ?_)
      have hg := hS.1
      refine aw_aload_n rfl rfl ?_
      refine pg_6_0 rfl kl_X5_17 ?_
      refine aw_bipush (v := 63) rfl (by decide) ?_
      refine aw_iV (q0 := 1) (ci := 10) rfl cw_X5_42 rfl rfl rfl (c_passY hT hp3E h3) rfl rfl (Nat.le_of_ble_eq_true rfl) (rmF (by omega)) (rmL (by decide) (by omega)) (Nat.zero_le _) (Nat.zero_le _) ?_
      refine aw_if_ne (tgt := 119) rfl (by decide) (fun h114 => ?_) (fun h114 => absurd h114 (by decide))
      refine aw_aload_n rfl rfl ?_
      refine pg_6_2 rfl kl_X5_21 ?_
      refine aw_istore_n rfl (by decide) ?_
      refine aw_aload_n rfl rfl ?_
      refine aw_sipush (v := 30000) rfl (by decide) ?_
      refine aw_vV (q0 := 6) (ci := 5) rfl cw_X5_52 rfl rfl rfl (c_emitL (by omega)) rfl rfl (Nat.le_of_ble_eq_true rfl) (rmF (by omega)) (rmL (by decide) (by omega)) (Nat.zero_le _) (Nat.zero_le _) ?_
      refine aw_aload_n rfl rfl ?_
      refine aw_iconst (v := 0) rfl (by decide) ?_
      refine aw_lN (q0 := 6) (ci := 5) rfl cw_X5_46 rfl rfl rfl (d2 _ (K + dd + 1) (by omega)) rfl rfl (Nat.le_of_ble_eq_true rfl) (rmF (by omega)) (rmL (by decide) (by omega)) (Nat.zero_le _) (Nat.zero_le _) (fun F9 K9 => ?_)
      refine aw_if_ne (tgt := 141) rfl (by decide) (fun h136 => absurd (rfl) h136) (fun h136 => ?_)
      refine aw_iconst (v := 0) rfl (by decide) ?_
      exact aw_z0 rfl rfl ⟨rfl, _, _, rfl⟩
  · have hnx : skw tx E p + 1 ≤ E := by (have := cst_lt (tx := tx) (E := E) (p := p) (by rw [hY.1]; decide); omega)
    have hks := ks_b hY hpE
    have hkk := skw_b (tx := tx) hks.2
    have hp3 := PZ_pr z1 hkk.2.1
    have hp3E : p3 ≤ E := hp3.2.1
    have hk3 := skw_b (tx := tx) hp3E
    have hnx3 : skw tx E p3 + 1 ≤ E := by (have := cst_lt (tx := tx) (E := E) (p := p3) (by rw [h3]; decide); omega)
    have hp4 := PZ_pr z2 hnx3
    have hp4E : p4 ≤ E := hp4.2.1
    have d1 : ∀ F K, K ≤ (skw tx E (ks tx E p)) → aw_M l g mi_X5_readsCondition (8 + 3 * (6 - 0)) 0 0 [.ref (g_ad g 6), .int 0, .int 0] (hp g (lm s (skw tx E (ks tx E p)) F K) n) (LO g s n none F K (skw tx E (ks tx E p)) (rOk p3 c)) := lm_all hx hT z1 hkk.2.1 (by decide)
    have d2 : ∀ F K, K ≤ (skw tx E p3 + 1) → aw_M l g mi_X5_readsSum (6 + 3 * (6 - 0)) 0 0 [.ref (g_ad g 6), .int 0] (hp g (lm s (skw tx E p3 + 1) F K) n) (LO g s n none F K (skw tx E p3 + 1) (rOk p4 v)) := lm_all hx hT z2 hnx3 (by decide)
    refine aw_M_of mo_X5_readsClause (by decide) (Nat.le_of_ble_eq_true rfl) ?_
    refine aw_aload_n rfl rfl ?_
    refine pg_6_0 rfl kl_X5_17 ?_
    refine aw_bipush (v := 121) rfl (by decide) ?_
    refine aw_iV (q0 := 1) (ci := 10) rfl cw_X5_42 rfl rfl rfl (c_passY hT hpE hY.1) rfl rfl (Nat.le_of_ble_eq_true rfl) (rmF (by omega)) (rmL (by decide) (by omega)) (Nat.zero_le _) (Nat.zero_le _) ?_
    refine aw_if_eq (tgt := 24) rfl (by decide) (fun h9 => absurd h9 (by decide)) (fun h9 => ?_)
    refine aw_aload_n rfl rfl ?_
    refine pg_6_0 rfl kl_X5_17 ?_
    refine aw_bipush (v := 58) rfl (by decide) ?_
    refine aw_iV (q0 := 1) (ci := 10) rfl cw_X5_42 rfl rfl rfl (c_passY hT hnx hY.2) rfl rfl (Nat.le_of_ble_eq_true rfl) (rmF (by omega)) (rmL (by decide) (by omega)) (Nat.zero_le _) (Nat.zero_le _) ?_
    refine aw_if_ne (tgt := 26) rfl (by decide) (fun h21 => ?_) (fun h21 => absurd h21 (by decide))
    refine aw_eqs (ws' := hp g (lm s (ks tx E p) F K) n) ?_ rfl rfl rfl
    refine aw_aload_n rfl rfl ?_
    refine pg_6_0 rfl kl_X5_17 ?_
    refine aw_iV (q0 := 1) (ci := 10) rfl cw_X5_38 rfl rfl rfl (c_signL hT (p := ks tx E p) hks.2) rfl rfl (Nat.le_of_ble_eq_true rfl) (rmF (by omega)) (rmL (by decide) (by omega)) (Nat.zero_le _) (Nat.zero_le _) ?_
    refine aw_istore_n rfl (by decide) ?_
    refine aw_iload_n rfl rfl ?_
    refine aw_bipush (v := 33) rfl (by decide) ?_
    refine aw_icmp_eq (tgt := 46) rfl (by decide) (fun h37 => ?_) (fun h37 => ?_)
    · refine aw_iconst (v := 1) rfl (by decide) ?_
      refine aw_goto (tgt := 51) rfl (by decide) ?_
      refine aw_istore_n rfl (by decide) ?_
      refine aw_iload_n rfl rfl ?_
      refine aw_if_ne (tgt := 88) rfl (by decide) (fun h53 => ?_) (fun h53 => absurd h53 (by decide))
      refine aw_aload_n rfl rfl ?_
      refine aw_iconst (v := 0) rfl (by decide) ?_
      refine aw_iload_n rfl rfl ?_
      refine aw_if_ne (tgt := 98) rfl (by decide) (fun h91 => ?_) (fun h91 => absurd h91 (by decide))
      refine aw_iconst (v := 0) rfl (by decide) ?_
      refine aw_lK (q0 := 6) (ci := 5) rfl cw_X5_56 rfl rfl rfl (d1 F K (by omega)) rfl rfl (Nat.le_of_ble_eq_true rfl) (rmF (by omega)) (rmL (by decide) (by omega)) (Nat.zero_le _) (Nat.zero_le _) (fun F1 dd hS => ?_)
      refine aw_if_eq (tgt := 117) rfl (by decide) (fun h102 => absurd h102 (by decide)) (fun h102 => ?_)
      have hg := hS.1
      refine aw_aload_n rfl rfl ?_
      refine pg_6_0 rfl kl_X5_17 ?_
      refine aw_bipush (v := 63) rfl (by decide) ?_
      refine aw_iV (q0 := 1) (ci := 10) rfl cw_X5_42 rfl rfl rfl (c_passY hT hp3E h3) rfl rfl (Nat.le_of_ble_eq_true rfl) (rmF (by omega)) (rmL (by decide) (by omega)) (Nat.zero_le _) (Nat.zero_le _) ?_
      refine aw_if_ne (tgt := 119) rfl (by decide) (fun h114 => ?_) (fun h114 => absurd h114 (by decide))
      refine aw_aload_n rfl rfl ?_
      refine pg_6_2 rfl kl_X5_21 ?_
      refine aw_istore_n rfl (by decide) ?_
      refine aw_aload_n rfl rfl ?_
      refine aw_sipush (v := 30000) rfl (by decide) ?_
      refine aw_vV (q0 := 6) (ci := 5) rfl cw_X5_52 rfl rfl rfl (c_emitL (by omega)) rfl rfl (Nat.le_of_ble_eq_true rfl) (rmF (by omega)) (rmL (by decide) (by omega)) (Nat.zero_le _) (Nat.zero_le _) ?_
      refine aw_aload_n rfl rfl ?_
      refine aw_iconst (v := 0) rfl (by decide) ?_
      refine aw_lK (q0 := 6) (ci := 5) rfl cw_X5_46 rfl rfl rfl (d2 _ (K + dd + 1) (by omega)) rfl rfl (Nat.le_of_ble_eq_true rfl) (rmF (by omega)) (rmL (by decide) (by omega)) (Nat.zero_le _) (Nat.zero_le _) (fun F2 d2' hS2 => ?_)
      refine aw_if_ne (tgt := 141) rfl (by decide) (fun h136 => ?_) (fun h136 => absurd h136 (by decide))
      have hg2 := hS2.1
      refine aw_aload_n rfl rfl ?_
      refine aw_sipush (v := 20059) rfl (by decide) ?_
      refine aw_vV (q0 := 6) (ci := 5) rfl cw_X5_52 rfl rfl rfl (c_emitL (by omega)) rfl rfl (Nat.le_of_ble_eq_true rfl) (rmF (by omega)) (rmL (by decide) (by omega)) (Nat.zero_le _) (Nat.zero_le _) ?_
      refine aw_iload_n rfl rfl ?_
      refine aw_aload_n rfl rfl ?_
      refine pg_6_1 rfl kl_X5_11 ?_
      refine pn_7 (v := 240) rfl (by decide) ?_
      refine aw_icmp_ge (tgt := 171) rfl (by decide) (fun h154 => absurd h154 (nI_ge (b := 240) (by omega) (by decide))) (fun h154 => ?_)
      refine aw_aload_n rfl rfl ?_
      refine pg_6_1 rfl kl_X5_11 ?_
      refine aw_iload_n rfl rfl ?_
      refine aw_sipush (v := 30000) rfl (by decide) ?_
      refine aw_aload_n rfl rfl ?_
      refine pg_6_2 rfl kl_X5_21 ?_
      refine aw_iadd rfl ?_
      refine ps_7 (j := K + dd) rfl rfl (by omega) ?_
      refine aw_iconst (v := 1) rfl (by decide) ?_
      exact aw_z1 rfl rfl ⟨rfl, _, K + dd + 1 + d2' + 1, congrArg (fun z => hp g z n) lm_7, by omega, fun j hj => by rw [upd_n (by omega), upd_n (by omega), hS2.2.1 j (by omega), upd_n (by omega)]; exact hS.2.1 j hj, CD_2 hS hS2⟩
    · refine aw_iload_n rfl rfl ?_
      refine aw_bipush (v := 40) rfl (by decide) ?_
      refine aw_icmp_ne (tgt := 50) rfl (by decide) (fun h43 => absurd (hQ.resolve_left h37) h43) (fun h43 => ?_)
      refine aw_iconst (v := 1) rfl (by decide) ?_
      refine aw_goto (tgt := 51) rfl (by decide) ?_
      refine aw_istore_n rfl (by decide) ?_
      refine aw_iload_n rfl rfl ?_
      refine aw_if_ne (tgt := 88) rfl (by decide) (fun h53 => ?_) (fun h53 => absurd h53 (by decide))
      refine aw_aload_n rfl rfl ?_
      refine aw_iconst (v := 0) rfl (by decide) ?_
      refine aw_iload_n rfl rfl ?_
      refine aw_if_ne (tgt := 98) rfl (by decide) (fun h91 => ?_) (fun h91 => absurd h91 (by decide))
      refine aw_iconst (v := 0) rfl (by decide) ?_
      refine aw_lK (q0 := 6) (ci := 5) rfl cw_X5_56 rfl rfl rfl (d1 F K (by omega)) rfl rfl (Nat.le_of_ble_eq_true rfl) (rmF (by omega)) (rmL (by decide) (by omega)) (Nat.zero_le _) (Nat.zero_le _) (fun F1 dd hS => ?_)
      refine aw_if_eq (tgt := 117) rfl (by decide) (fun h102 => absurd h102 (by decide)) (fun h102 => ?_)
      have hg := hS.1
      refine aw_aload_n rfl rfl ?_
      refine pg_6_0 rfl kl_X5_17 ?_
      refine aw_bipush (v := 63) rfl (by decide) ?_
      refine aw_iV (q0 := 1) (ci := 10) rfl cw_X5_42 rfl rfl rfl (c_passY hT hp3E h3) rfl rfl (Nat.le_of_ble_eq_true rfl) (rmF (by omega)) (rmL (by decide) (by omega)) (Nat.zero_le _) (Nat.zero_le _) ?_
      refine aw_if_ne (tgt := 119) rfl (by decide) (fun h114 => ?_) (fun h114 => absurd h114 (by decide))
      refine aw_aload_n rfl rfl ?_
      refine pg_6_2 rfl kl_X5_21 ?_
      refine aw_istore_n rfl (by decide) ?_
      refine aw_aload_n rfl rfl ?_
      refine aw_sipush (v := 30000) rfl (by decide) ?_
      refine aw_vV (q0 := 6) (ci := 5) rfl cw_X5_52 rfl rfl rfl (c_emitL (by omega)) rfl rfl (Nat.le_of_ble_eq_true rfl) (rmF (by omega)) (rmL (by decide) (by omega)) (Nat.zero_le _) (Nat.zero_le _) ?_
      refine aw_aload_n rfl rfl ?_
      refine aw_iconst (v := 0) rfl (by decide) ?_
      refine aw_lK (q0 := 6) (ci := 5) rfl cw_X5_46 rfl rfl rfl (d2 _ (K + dd + 1) (by omega)) rfl rfl (Nat.le_of_ble_eq_true rfl) (rmF (by omega)) (rmL (by decide) (by omega)) (Nat.zero_le _) (Nat.zero_le _) (fun F2 d2' hS2 => ?_)
      refine aw_if_ne (tgt := 141) rfl (by decide) (fun h136 => ?_) (fun h136 => absurd h136 (by decide))
      have hg2 := hS2.1
      refine aw_aload_n rfl rfl ?_
      refine aw_sipush (v := 20059) rfl (by decide) ?_
      refine aw_vV (q0 := 6) (ci := 5) rfl cw_X5_52 rfl rfl rfl (c_emitL (by omega)) rfl rfl (Nat.le_of_ble_eq_true rfl) (rmF (by omega)) (rmL (by decide) (by omega)) (Nat.zero_le _) (Nat.zero_le _) ?_
      refine aw_iload_n rfl rfl ?_
      refine aw_aload_n rfl rfl ?_
      refine pg_6_1 rfl kl_X5_11 ?_
      refine pn_7 (v := 240) rfl (by decide) ?_
      refine aw_icmp_ge (tgt := 171) rfl (by decide) (fun h154 => absurd h154 (nI_ge (b := 240) (by omega) (by decide))) (fun h154 => ?_)
      refine aw_aload_n rfl rfl ?_
      refine pg_6_1 rfl kl_X5_11 ?_
      refine aw_iload_n rfl rfl ?_
      refine aw_sipush (v := 30000) rfl (by decide) ?_
      refine aw_aload_n rfl rfl ?_
      refine pg_6_2 rfl kl_X5_21 ?_
      refine aw_iadd rfl ?_
      refine ps_7 (j := K + dd) rfl rfl (by omega) ?_
      refine aw_iconst (v := 1) rfl (by decide) ?_
      exact aw_z1 rfl rfl ⟨rfl, _, K + dd + 1 + d2' + 1, congrArg (fun z => hp g z n) lm_7, by omega, fun j hj => by rw [upd_n (by omega), upd_n (by omega), hS2.2.1 j (by omega), upd_n (by omega)]; exact hS.2.1 j hj, CD_2 hS hS2⟩
  · have hnx : skw tx E p + 1 ≤ E := by (have := cst_lt (tx := tx) (E := E) (p := p) (by rw [hY.1]; decide); omega)
    have hks := ks_b hY hpE
    have hkk := skw_b (tx := tx) hks.2
    have d1 : ∀ F K, K ≤ (skw tx E (ks tx E p)) → aw_M l g mi_X5_readsSum (6 + 3 * (6 - 0)) 0 0 [.ref (g_ad g 6), .int 0] (hp g (lm s (skw tx E (ks tx E p)) F K) n) (LO g s n none F K (skw tx E (ks tx E p)) (rNo f)) := lm_all hx hT z1 hkk.2.1 (by decide)
    refine aw_M_of mo_X5_readsClause (by decide) (Nat.le_of_ble_eq_true rfl) ?_
    refine aw_aload_n rfl rfl ?_
    refine pg_6_0 rfl kl_X5_17 ?_
    refine aw_bipush (v := 121) rfl (by decide) ?_
    refine aw_iV (q0 := 1) (ci := 10) rfl cw_X5_42 rfl rfl rfl (c_passY hT hpE hY.1) rfl rfl (Nat.le_of_ble_eq_true rfl) (rmF (by omega)) (rmL (by decide) (by omega)) (Nat.zero_le _) (Nat.zero_le _) ?_
    refine aw_if_eq (tgt := 24) rfl (by decide) (fun h9 => absurd h9 (by decide)) (fun h9 => ?_)
    refine aw_aload_n rfl rfl ?_
    refine pg_6_0 rfl kl_X5_17 ?_
    refine aw_bipush (v := 58) rfl (by decide) ?_
    refine aw_iV (q0 := 1) (ci := 10) rfl cw_X5_42 rfl rfl rfl (c_passY hT hnx hY.2) rfl rfl (Nat.le_of_ble_eq_true rfl) (rmF (by omega)) (rmL (by decide) (by omega)) (Nat.zero_le _) (Nat.zero_le _) ?_
    refine aw_if_ne (tgt := 26) rfl (by decide) (fun h21 => ?_) (fun h21 => absurd h21 (by decide))
    refine aw_eqs (ws' := hp g (lm s (ks tx E p) F K) n) ?_ rfl rfl rfl
    refine aw_aload_n rfl rfl ?_
    refine pg_6_0 rfl kl_X5_17 ?_
    refine aw_iV (q0 := 1) (ci := 10) rfl cw_X5_38 rfl rfl rfl (c_signL hT (p := ks tx E p) hks.2) rfl rfl (Nat.le_of_ble_eq_true rfl) (rmF (by omega)) (rmL (by decide) (by omega)) (Nat.zero_le _) (Nat.zero_le _) ?_
    refine aw_istore_n rfl (by decide) ?_
    refine aw_iload_n rfl rfl ?_
    refine aw_bipush (v := 33) rfl (by decide) ?_
    refine aw_icmp_eq (tgt := 46) rfl (by decide) (fun h37 => absurd h37 (fun e => hQ (Or.inl e))) (fun h37 => ?_)
    refine aw_iload_n rfl rfl ?_
    refine aw_bipush (v := 40) rfl (by decide) ?_
    refine aw_icmp_ne (tgt := 50) rfl (by decide) (fun h43 => ?_) (fun h43 => absurd h43 (fun e => hQ (Or.inr e)))
    refine aw_iconst (v := 0) rfl (by decide) ?_
    refine aw_istore_n rfl (by decide) ?_
    refine aw_iload_n rfl rfl ?_
    refine aw_if_ne (tgt := 88) rfl (by decide) (fun h53 => absurd (rfl) h53) (fun h53 => ?_)
    refine aw_aload_n rfl rfl ?_
    refine aw_iconst (v := 0) rfl (by decide) ?_
    refine aw_lN (q0 := 6) (ci := 5) rfl cw_X5_46 rfl rfl rfl (d1 F K (by omega)) rfl rfl (Nat.le_of_ble_eq_true rfl) (rmF (by omega)) (rmL (by decide) (by omega)) (Nat.zero_le _) (Nat.zero_le _) (fun F9 K9 => ?_)
    refine aw_if_ne (tgt := 66) rfl (by decide) (fun h61 => absurd (rfl) h61) (fun h61 => ?_)
    refine aw_iconst (v := 0) rfl (by decide) ?_
    exact aw_z0 rfl rfl ⟨rfl, _, _, rfl⟩
  · have hnx : skw tx E p + 1 ≤ E := by (have := cst_lt (tx := tx) (E := E) (p := p) (by rw [hY.1]; decide); omega)
    have hks := ks_b hY hpE
    have hkk := skw_b (tx := tx) hks.2
    have hp3 := PZ_pr z1 hkk.2.1
    have hp3E : p3 ≤ E := hp3.2.1
    have hk3 := skw_b (tx := tx) hp3E
    have d1 : ∀ F K, K ≤ (skw tx E (ks tx E p)) → aw_M l g mi_X5_readsSum (6 + 3 * (6 - 0)) 0 0 [.ref (g_ad g 6), .int 0] (hp g (lm s (skw tx E (ks tx E p)) F K) n) (LO g s n none F K (skw tx E (ks tx E p)) (rOk p3 v)) := lm_all hx hT z1 hkk.2.1 (by decide)
    refine aw_M_of mo_X5_readsClause (by decide) (Nat.le_of_ble_eq_true rfl) ?_
    refine aw_aload_n rfl rfl ?_
    refine pg_6_0 rfl kl_X5_17 ?_
    refine aw_bipush (v := 121) rfl (by decide) ?_
    refine aw_iV (q0 := 1) (ci := 10) rfl cw_X5_42 rfl rfl rfl (c_passY hT hpE hY.1) rfl rfl (Nat.le_of_ble_eq_true rfl) (rmF (by omega)) (rmL (by decide) (by omega)) (Nat.zero_le _) (Nat.zero_le _) ?_
    refine aw_if_eq (tgt := 24) rfl (by decide) (fun h9 => absurd h9 (by decide)) (fun h9 => ?_)
    refine aw_aload_n rfl rfl ?_
    refine pg_6_0 rfl kl_X5_17 ?_
    refine aw_bipush (v := 58) rfl (by decide) ?_
    refine aw_iV (q0 := 1) (ci := 10) rfl cw_X5_42 rfl rfl rfl (c_passY hT hnx hY.2) rfl rfl (Nat.le_of_ble_eq_true rfl) (rmF (by omega)) (rmL (by decide) (by omega)) (Nat.zero_le _) (Nat.zero_le _) ?_
    refine aw_if_ne (tgt := 26) rfl (by decide) (fun h21 => ?_) (fun h21 => absurd h21 (by decide))
    refine aw_eqs (ws' := hp g (lm s (ks tx E p) F K) n) ?_ rfl rfl rfl
    refine aw_aload_n rfl rfl ?_
    refine pg_6_0 rfl kl_X5_17 ?_
    refine aw_iV (q0 := 1) (ci := 10) rfl cw_X5_38 rfl rfl rfl (c_signL hT (p := ks tx E p) hks.2) rfl rfl (Nat.le_of_ble_eq_true rfl) (rmF (by omega)) (rmL (by decide) (by omega)) (Nat.zero_le _) (Nat.zero_le _) ?_
    refine aw_istore_n rfl (by decide) ?_
    refine aw_iload_n rfl rfl ?_
    refine aw_bipush (v := 33) rfl (by decide) ?_
    refine aw_icmp_eq (tgt := 46) rfl (by decide) (fun h37 => absurd h37 (fun e => hQ (Or.inl e))) (fun h37 => ?_)
    refine aw_iload_n rfl rfl ?_
    refine aw_bipush (v := 40) rfl (by decide) ?_
    refine aw_icmp_ne (tgt := 50) rfl (by decide) (fun h43 => ?_) (fun h43 => absurd h43 (fun e => hQ (Or.inr e)))
    refine aw_iconst (v := 0) rfl (by decide) ?_
    refine aw_istore_n rfl (by decide) ?_
    refine aw_iload_n rfl rfl ?_
    refine aw_if_ne (tgt := 88) rfl (by decide) (fun h53 => absurd (rfl) h53) (fun h53 => ?_)
    refine aw_aload_n rfl rfl ?_
    refine aw_iconst (v := 0) rfl (by decide) ?_
    refine aw_lK (q0 := 6) (ci := 5) rfl cw_X5_46 rfl rfl rfl (d1 F K (by omega)) rfl rfl (Nat.le_of_ble_eq_true rfl) (rmF (by omega)) (rmL (by decide) (by omega)) (Nat.zero_le _) (Nat.zero_le _) (fun F1 dd hS => ?_)
    refine aw_if_ne (tgt := 66) rfl (by decide) (fun h61 => ?_) (fun h61 => absurd h61 (by decide))
    have hg := hS.1
    refine aw_aload_n rfl rfl ?_
    refine pg_6_0 rfl kl_X5_17 ?_
    refine aw_iV (q0 := 1) (ci := 10) rfl cw_X5_38 rfl rfl rfl (c_signL hT hp3E) rfl rfl (Nat.le_of_ble_eq_true rfl) (rmF (by omega)) (rmL (by decide) (by omega)) (Nat.zero_le _) (Nat.zero_le _) ?_
    refine aw_iS rfl cw_X5_49 (c_isCmp) rfl rfl (Nat.le_of_ble_eq_true rfl) (rmF (by omega)) (rmL (by decide) (by omega)) (Nat.zero_le _) (Nat.zero_le _) ?_
    refine aw_if_ne (tgt := 88) rfl (by decide) (fun h76 => absurd (by rw [h3]; rfl) h76) (fun h76 => ?_)
    refine aw_aload_n rfl rfl ?_
    refine aw_sipush (v := 20059) rfl (by decide) ?_
    refine aw_vV (q0 := 6) (ci := 5) rfl cw_X5_52 rfl rfl rfl (c_emitL (by omega)) rfl rfl (Nat.le_of_ble_eq_true rfl) (rmF (by omega)) (rmL (by decide) (by omega)) (Nat.zero_le _) (Nat.zero_le _) ?_
    refine aw_iconst (v := 1) rfl (by decide) ?_
    exact aw_z1 rfl rfl ⟨rfl, _, K + dd + 1, rfl, by have := hk3.1; show _ ≤ skw tx E p3; omega, fun j hj => (upd_n (by omega)).trans (hS.2.1 j hj), CD_1 hS⟩
  · have hnx : skw tx E p + 1 ≤ E := by (have := cst_lt (tx := tx) (E := E) (p := p) (by rw [hY.1]; decide); omega)
    have hks := ks_b hY hpE
    have hkk := skw_b (tx := tx) hks.2
    have hp3 := PZ_pr z1 hkk.2.1
    have hp3E : p3 ≤ E := hp3.2.1
    have hk3 := skw_b (tx := tx) hp3E
    have d1 : ∀ F K, K ≤ (skw tx E (ks tx E p)) → aw_M l g mi_X5_readsSum (6 + 3 * (6 - 0)) 0 0 [.ref (g_ad g 6), .int 0] (hp g (lm s (skw tx E (ks tx E p)) F K) n) (LO g s n none F K (skw tx E (ks tx E p)) (rOk p3 u)) := lm_all hx hT z1 hkk.2.1 (by decide)
    have d2 : ∀ F K, K ≤ (skw tx E p3) → aw_M l g mi_X5_readsCondition (8 + 3 * (6 - 0)) 0 0 [.ref (g_ad g 6), .int 0, .int 1] (hp g (lm s (skw tx E p3) F K) n) (LO g s n (some u) F K (skw tx E p3) (rNo f)) := lm_all hx hT z2 hk3.2.1 (by decide)
    refine aw_M_of mo_X5_readsClause (by decide) (Nat.le_of_ble_eq_true rfl) ?_
    refine aw_aload_n rfl rfl ?_
    refine pg_6_0 rfl kl_X5_17 ?_
    refine aw_bipush (v := 121) rfl (by decide) ?_
    refine aw_iV (q0 := 1) (ci := 10) rfl cw_X5_42 rfl rfl rfl (c_passY hT hpE hY.1) rfl rfl (Nat.le_of_ble_eq_true rfl) (rmF (by omega)) (rmL (by decide) (by omega)) (Nat.zero_le _) (Nat.zero_le _) ?_
    refine aw_if_eq (tgt := 24) rfl (by decide) (fun h9 => absurd h9 (by decide)) (fun h9 => ?_)
    refine aw_aload_n rfl rfl ?_
    refine pg_6_0 rfl kl_X5_17 ?_
    refine aw_bipush (v := 58) rfl (by decide) ?_
    refine aw_iV (q0 := 1) (ci := 10) rfl cw_X5_42 rfl rfl rfl (c_passY hT hnx hY.2) rfl rfl (Nat.le_of_ble_eq_true rfl) (rmF (by omega)) (rmL (by decide) (by omega)) (Nat.zero_le _) (Nat.zero_le _) ?_
    refine aw_if_ne (tgt := 26) rfl (by decide) (fun h21 => ?_) (fun h21 => absurd h21 (by decide))
    refine aw_eqs (ws' := hp g (lm s (ks tx E p) F K) n) ?_ rfl rfl rfl
    refine aw_aload_n rfl rfl ?_
    refine pg_6_0 rfl kl_X5_17 ?_
    refine aw_iV (q0 := 1) (ci := 10) rfl cw_X5_38 rfl rfl rfl (c_signL hT (p := ks tx E p) hks.2) rfl rfl (Nat.le_of_ble_eq_true rfl) (rmF (by omega)) (rmL (by decide) (by omega)) (Nat.zero_le _) (Nat.zero_le _) ?_
    refine aw_istore_n rfl (by decide) ?_
    refine aw_iload_n rfl rfl ?_
    refine aw_bipush (v := 33) rfl (by decide) ?_
    refine aw_icmp_eq (tgt := 46) rfl (by decide) (fun h37 => absurd h37 (fun e => hQ (Or.inl e))) (fun h37 => ?_)
    refine aw_iload_n rfl rfl ?_
    refine aw_bipush (v := 40) rfl (by decide) ?_
    refine aw_icmp_ne (tgt := 50) rfl (by decide) (fun h43 => ?_) (fun h43 => absurd h43 (fun e => hQ (Or.inr e)))
    refine aw_iconst (v := 0) rfl (by decide) ?_
    refine aw_istore_n rfl (by decide) ?_
    refine aw_iload_n rfl rfl ?_
    refine aw_if_ne (tgt := 88) rfl (by decide) (fun h53 => absurd (rfl) h53) (fun h53 => ?_)
    refine aw_aload_n rfl rfl ?_
    refine aw_iconst (v := 0) rfl (by decide) ?_
    refine aw_lK (q0 := 6) (ci := 5) rfl cw_X5_46 rfl rfl rfl (d1 F K (by omega)) rfl rfl (Nat.le_of_ble_eq_true rfl) (rmF (by omega)) (rmL (by decide) (by omega)) (Nat.zero_le _) (Nat.zero_le _) (fun F1 dd hS => ?_)
    refine aw_if_ne (tgt := 66) rfl (by decide) (fun h61 => ?_) (fun h61 => absurd h61 (by decide))
    have hg := hS.1
    refine aw_aload_n rfl rfl ?_
    refine pg_6_0 rfl kl_X5_17 ?_
    refine aw_iV (q0 := 1) (ci := 10) rfl cw_X5_38 rfl rfl rfl (c_signL hT hp3E) rfl rfl (Nat.le_of_ble_eq_true rfl) (rmF (by omega)) (rmL (by decide) (by omega)) (Nat.zero_le _) (Nat.zero_le _) ?_
    refine aw_iS rfl cw_X5_49 (c_isCmp) rfl rfl (Nat.le_of_ble_eq_true rfl) (rmF (by omega)) (rmL (by decide) (by omega)) (Nat.zero_le _) (Nat.zero_le _) ?_
    refine aw_if_ne (tgt := 88) rfl (by decide) (fun h76 => ?_) (fun h76 => absurd h76 (by rw [h3]; decide))
    refine aw_aload_n rfl rfl ?_
    refine aw_iconst (v := 0) rfl (by decide) ?_
    refine aw_iload_n rfl rfl ?_
    refine aw_if_ne (tgt := 98) rfl (by decide) (fun h91 => absurd (rfl) h91) (fun h91 => ?_)
    refine aw_iconst (v := 1) rfl (by decide) ?_
    refine aw_goto (tgt := 99) rfl (by decide) ?_
    refine aw_lN (q0 := 6) (ci := 5) rfl cw_X5_56 rfl rfl rfl (d2 F1 (K + dd) (by omega)) rfl rfl (Nat.le_of_ble_eq_true rfl) (rmF (by omega)) (rmL (by decide) (by omega)) (Nat.zero_le _) (Nat.zero_le _) (fun F9 K9 => ?_)
    refine aw_if_eq (tgt := 117) rfl (by decide) (fun h102 => ?_) (fun h102 => absurd (rfl) h102)
    refine aw_iconst (v := 0) rfl (by decide) ?_
    exact aw_z0 rfl rfl ⟨rfl, _, _, rfl⟩
  · have hnx : skw tx E p + 1 ≤ E := by (have := cst_lt (tx := tx) (E := E) (p := p) (by rw [hY.1]; decide); omega)
    have hks := ks_b hY hpE
    have hkk := skw_b (tx := tx) hks.2
    have hp3 := PZ_pr z1 hkk.2.1
    have hp3E : p3 ≤ E := hp3.2.1
    have hk3 := skw_b (tx := tx) hp3E
    have hp4 := PZ_pr z2 hk3.2.1
    have hp4E : p4 ≤ E := hp4.2.1
    have hk4 := skw_b (tx := tx) hp4E
    have d1 : ∀ F K, K ≤ (skw tx E (ks tx E p)) → aw_M l g mi_X5_readsSum (6 + 3 * (6 - 0)) 0 0 [.ref (g_ad g 6), .int 0] (hp g (lm s (skw tx E (ks tx E p)) F K) n) (LO g s n none F K (skw tx E (ks tx E p)) (rOk p3 u)) := lm_all hx hT z1 hkk.2.1 (by decide)
    have d2 : ∀ F K, K ≤ (skw tx E p3) → aw_M l g mi_X5_readsCondition (8 + 3 * (6 - 0)) 0 0 [.ref (g_ad g 6), .int 0, .int 1] (hp g (lm s (skw tx E p3) F K) n) (LO g s n (some u) F K (skw tx E p3) (rOk p4 c)) := lm_all hx hT z2 hk3.2.1 (by decide)
    refine aw_M_of mo_X5_readsClause (by decide) (Nat.le_of_ble_eq_true rfl) ?_
    refine aw_aload_n rfl rfl ?_
    refine pg_6_0 rfl kl_X5_17 ?_
    refine aw_bipush (v := 121) rfl (by decide) ?_
    refine aw_iV (q0 := 1) (ci := 10) rfl cw_X5_42 rfl rfl rfl (c_passY hT hpE hY.1) rfl rfl (Nat.le_of_ble_eq_true rfl) (rmF (by omega)) (rmL (by decide) (by omega)) (Nat.zero_le _) (Nat.zero_le _) ?_
    refine aw_if_eq (tgt := 24) rfl (by decide) (fun h9 => absurd h9 (by decide)) (fun h9 => ?_)
    refine aw_aload_n rfl rfl ?_
    refine pg_6_0 rfl kl_X5_17 ?_
    refine aw_bipush (v := 58) rfl (by decide) ?_
    refine aw_iV (q0 := 1) (ci := 10) rfl cw_X5_42 rfl rfl rfl (c_passY hT hnx hY.2) rfl rfl (Nat.le_of_ble_eq_true rfl) (rmF (by omega)) (rmL (by decide) (by omega)) (Nat.zero_le _) (Nat.zero_le _) ?_
    refine aw_if_ne (tgt := 26) rfl (by decide) (fun h21 => ?_) (fun h21 => absurd h21 (by decide))
    refine aw_eqs (ws' := hp g (lm s (ks tx E p) F K) n) ?_ rfl rfl rfl
    refine aw_aload_n rfl rfl ?_
    refine pg_6_0 rfl kl_X5_17 ?_
    refine aw_iV (q0 := 1) (ci := 10) rfl cw_X5_38 rfl rfl rfl (c_signL hT (p := ks tx E p) hks.2) rfl rfl (Nat.le_of_ble_eq_true rfl) (rmF (by omega)) (rmL (by decide) (by omega)) (Nat.zero_le _) (Nat.zero_le _) ?_
    refine aw_istore_n rfl (by decide) ?_
    refine aw_iload_n rfl rfl ?_
    refine aw_bipush (v := 33) rfl (by decide) ?_
    refine aw_icmp_eq (tgt := 46) rfl (by decide) (fun h37 => absurd h37 (fun e => hQ (Or.inl e))) (fun h37 => ?_)
    refine aw_iload_n rfl rfl ?_
    refine aw_bipush (v := 40) rfl (by decide) ?_
    refine aw_icmp_ne (tgt := 50) rfl (by decide) (fun h43 => ?_) (fun h43 => absurd h43 (fun e => hQ (Or.inr e)))
    refine aw_iconst (v := 0) rfl (by decide) ?_
    refine aw_istore_n rfl (by decide) ?_
    refine aw_iload_n rfl rfl ?_
    refine aw_if_ne (tgt := 88) rfl (by decide) (fun h53 => absurd (rfl) h53) (fun h53 => ?_)
    refine aw_aload_n rfl rfl ?_
    refine aw_iconst (v := 0) rfl (by decide) ?_
    refine aw_lK (q0 := 6) (ci := 5) rfl cw_X5_46 rfl rfl rfl (d1 F K (by omega)) rfl rfl (Nat.le_of_ble_eq_true rfl) (rmF (by omega)) (rmL (by decide) (by omega)) (Nat.zero_le _) (Nat.zero_le _) (fun F1 dd hS => ?_)
    refine aw_if_ne (tgt := 66) rfl (by decide) (fun h61 => ?_) (fun h61 => absurd h61 (by decide))
    have hg := hS.1
    refine aw_aload_n rfl rfl ?_
    refine pg_6_0 rfl kl_X5_17 ?_
    refine aw_iV (q0 := 1) (ci := 10) rfl cw_X5_38 rfl rfl rfl (c_signL hT hp3E) rfl rfl (Nat.le_of_ble_eq_true rfl) (rmF (by omega)) (rmL (by decide) (by omega)) (Nat.zero_le _) (Nat.zero_le _) ?_
    refine aw_iS rfl cw_X5_49 (c_isCmp) rfl rfl (Nat.le_of_ble_eq_true rfl) (rmF (by omega)) (rmL (by decide) (by omega)) (Nat.zero_le _) (Nat.zero_le _) ?_
    refine aw_if_ne (tgt := 88) rfl (by decide) (fun h76 => ?_) (fun h76 => absurd h76 (by rw [h3]; decide))
    refine aw_aload_n rfl rfl ?_
    refine aw_iconst (v := 0) rfl (by decide) ?_
    refine aw_iload_n rfl rfl ?_
    refine aw_if_ne (tgt := 98) rfl (by decide) (fun h91 => absurd (rfl) h91) (fun h91 => ?_)
    refine aw_iconst (v := 1) rfl (by decide) ?_
    refine aw_goto (tgt := 99) rfl (by decide) ?_
    refine aw_lK (q0 := 6) (ci := 5) rfl cw_X5_56 rfl rfl rfl (d2 F1 (K + dd) (by omega)) rfl rfl (Nat.le_of_ble_eq_true rfl) (rmF (by omega)) (rmL (by decide) (by omega)) (Nat.zero_le _) (Nat.zero_le _) (fun F2 e2 hS2 => ?_)
    refine aw_if_eq (tgt := 117) rfl (by decide) (fun h102 => absurd h102 (by decide)) (fun h102 => ?_)
    refine aw_aload_n rfl rfl ?_
    refine pg_6_0 rfl kl_X5_17 ?_
    refine aw_bipush (v := 63) rfl (by decide) ?_
    refine aw_iV (q0 := 1) (ci := 10) rfl cw_X5_42 rfl rfl rfl (c_passX hT hp4E h4) rfl rfl (Nat.le_of_ble_eq_true rfl) (rmF (by omega)) (rmL (by decide) (by omega)) (Nat.zero_le _) (Nat.zero_le _) ?_
    refine aw_if_ne (tgt := 119) rfl (by decide) (fun h114 => absurd (rfl) h114) (fun h114 => ?_)
    refine aw_iconst (v := 0) rfl (by decide) ?_
    exact aw_z0 rfl rfl ⟨rfl, _, _, rfl⟩
  · have hnx : skw tx E p + 1 ≤ E := by (have := cst_lt (tx := tx) (E := E) (p := p) (by rw [hY.1]; decide); omega)
    have hks := ks_b hY hpE
    have hkk := skw_b (tx := tx) hks.2
    have hp3 := PZ_pr z1 hkk.2.1
    have hp3E : p3 ≤ E := hp3.2.1
    have hk3 := skw_b (tx := tx) hp3E
    have hp4 := PZ_pr z2 hk3.2.1
    have hp4E : p4 ≤ E := hp4.2.1
    have hk4 := skw_b (tx := tx) hp4E
    have hnx4 : skw tx E p4 + 1 ≤ E := by (have := cst_lt (tx := tx) (E := E) (p := p4) (by rw [h4]; decide); omega)
    have d1 : ∀ F K, K ≤ (skw tx E (ks tx E p)) → aw_M l g mi_X5_readsSum (6 + 3 * (6 - 0)) 0 0 [.ref (g_ad g 6), .int 0] (hp g (lm s (skw tx E (ks tx E p)) F K) n) (LO g s n none F K (skw tx E (ks tx E p)) (rOk p3 u)) := lm_all hx hT z1 hkk.2.1 (by decide)
    have d2 : ∀ F K, K ≤ (skw tx E p3) → aw_M l g mi_X5_readsCondition (8 + 3 * (6 - 0)) 0 0 [.ref (g_ad g 6), .int 0, .int 1] (hp g (lm s (skw tx E p3) F K) n) (LO g s n (some u) F K (skw tx E p3) (rOk p4 c)) := lm_all hx hT z2 hk3.2.1 (by decide)
    have d3 : ∀ F K, K ≤ (skw tx E p4 + 1) → aw_M l g mi_X5_readsSum (6 + 3 * (6 - 0)) 0 0 [.ref (g_ad g 6), .int 0] (hp g (lm s (skw tx E p4 + 1) F K) n) (LO g s n none F K (skw tx E p4 + 1) (rNo f)) := lm_all hx hT z3 hnx4 (by decide)
    refine aw_M_of mo_X5_readsClause (by decide) (Nat.le_of_ble_eq_true rfl) ?_
    refine aw_aload_n rfl rfl ?_
    refine pg_6_0 rfl kl_X5_17 ?_
    refine aw_bipush (v := 121) rfl (by decide) ?_
    refine aw_iV (q0 := 1) (ci := 10) rfl cw_X5_42 rfl rfl rfl (c_passY hT hpE hY.1) rfl rfl (Nat.le_of_ble_eq_true rfl) (rmF (by omega)) (rmL (by decide) (by omega)) (Nat.zero_le _) (Nat.zero_le _) ?_
    refine aw_if_eq (tgt := 24) rfl (by decide) (fun h9 => absurd h9 (by decide)) (fun h9 => ?_)
    refine aw_aload_n rfl rfl ?_
    refine pg_6_0 rfl kl_X5_17 ?_
    refine aw_bipush (v := 58) rfl (by decide) ?_
    refine aw_iV (q0 := 1) (ci := 10) rfl cw_X5_42 rfl rfl rfl (c_passY hT hnx hY.2) rfl rfl (Nat.le_of_ble_eq_true rfl) (rmF (by omega)) (rmL (by decide) (by omega)) (Nat.zero_le _) (Nat.zero_le _) ?_
    refine aw_if_ne (tgt := 26) rfl (by decide) (fun h21 => ?_) (fun h21 => absurd h21 (by decide))
    refine aw_eqs (ws' := hp g (lm s (ks tx E p) F K) n) ?_ rfl rfl rfl
    refine aw_aload_n rfl rfl ?_
    refine pg_6_0 rfl kl_X5_17 ?_
    refine aw_iV (q0 := 1) (ci := 10) rfl cw_X5_38 rfl rfl rfl (c_signL hT (p := ks tx E p) hks.2) rfl rfl (Nat.le_of_ble_eq_true rfl) (rmF (by omega)) (rmL (by decide) (by omega)) (Nat.zero_le _) (Nat.zero_le _) ?_
    refine aw_istore_n rfl (by decide) ?_
    refine aw_iload_n rfl rfl ?_
    refine aw_bipush (v := 33) rfl (by decide) ?_
    refine aw_icmp_eq (tgt := 46) rfl (by decide) (fun h37 => absurd h37 (fun e => hQ (Or.inl e))) (fun h37 => ?_)
    refine aw_iload_n rfl rfl ?_
    refine aw_bipush (v := 40) rfl (by decide) ?_
    refine aw_icmp_ne (tgt := 50) rfl (by decide) (fun h43 => ?_) (fun h43 => absurd h43 (fun e => hQ (Or.inr e)))
    refine aw_iconst (v := 0) rfl (by decide) ?_
    refine aw_istore_n rfl (by decide) ?_
    refine aw_iload_n rfl rfl ?_
    refine aw_if_ne (tgt := 88) rfl (by decide) (fun h53 => absurd (rfl) h53) (fun h53 => ?_)
    refine aw_aload_n rfl rfl ?_
    refine aw_iconst (v := 0) rfl (by decide) ?_
    refine aw_lK (q0 := 6) (ci := 5) rfl cw_X5_46 rfl rfl rfl (d1 F K (by omega)) rfl rfl (Nat.le_of_ble_eq_true rfl) (rmF (by omega)) (rmL (by decide) (by omega)) (Nat.zero_le _) (Nat.zero_le _) (fun F1 dd hS => ?_)
    refine aw_if_ne (tgt := 66) rfl (by decide) (fun h61 => ?_) (fun h61 => absurd h61 (by decide))
    have hg := hS.1
    refine aw_aload_n rfl rfl ?_
    refine pg_6_0 rfl kl_X5_17 ?_
    refine aw_iV (q0 := 1) (ci := 10) rfl cw_X5_38 rfl rfl rfl (c_signL hT hp3E) rfl rfl (Nat.le_of_ble_eq_true rfl) (rmF (by omega)) (rmL (by decide) (by omega)) (Nat.zero_le _) (Nat.zero_le _) ?_
    refine aw_iS rfl cw_X5_49 (c_isCmp) rfl rfl (Nat.le_of_ble_eq_true rfl) (rmF (by omega)) (rmL (by decide) (by omega)) (Nat.zero_le _) (Nat.zero_le _) ?_
    refine aw_if_ne (tgt := 88) rfl (by decide) (fun h76 => ?_) (fun h76 => absurd h76 (by rw [h3]; decide))
    refine aw_aload_n rfl rfl ?_
    refine aw_iconst (v := 0) rfl (by decide) ?_
    refine aw_iload_n rfl rfl ?_
    refine aw_if_ne (tgt := 98) rfl (by decide) (fun h91 => absurd (rfl) h91) (fun h91 => ?_)
    refine aw_iconst (v := 1) rfl (by decide) ?_
    refine aw_goto (tgt := 99) rfl (by decide) ?_
    refine aw_lK (q0 := 6) (ci := 5) rfl cw_X5_56 rfl rfl rfl (d2 F1 (K + dd) (by omega)) rfl rfl (Nat.le_of_ble_eq_true rfl) (rmF (by omega)) (rmL (by decide) (by omega)) (Nat.zero_le _) (Nat.zero_le _) (fun F2 e2 hS2 => ?_)
    refine aw_if_eq (tgt := 117) rfl (by decide) (fun h102 => absurd h102 (by decide)) (fun h102 => ?_)
    have hS3 : SG none F F2 K (dd + e2) (skw tx E (ks tx E p)) p4 c := SG_tr (SG_wk hS (Nat.le_refl _) hk3.1) hS2
    have hg3 := hS3.1
    rw [show K + dd + e2 = K + (dd + e2) from Nat.add_assoc _ _ _]
    refine aw_aload_n rfl rfl ?_
    refine pg_6_0 rfl kl_X5_17 ?_
    refine aw_bipush (v := 63) rfl (by decide) ?_
    refine aw_iV (q0 := 1) (ci := 10) rfl cw_X5_42 rfl rfl rfl (c_passY hT hp4E h4) rfl rfl (Nat.le_of_ble_eq_true rfl) (rmF (by omega)) (rmL (by decide) (by omega)) (Nat.zero_le _) (Nat.zero_le _) ?_
    refine aw_if_ne (tgt := 119) rfl (by decide) (fun h114 => ?_) (fun h114 => absurd h114 (by decide))
    refine aw_aload_n rfl rfl ?_
    refine pg_6_2 rfl kl_X5_21 ?_
    refine aw_istore_n rfl (by decide) ?_
    refine aw_aload_n rfl rfl ?_
    refine aw_sipush (v := 30000) rfl (by decide) ?_
    refine aw_vV (q0 := 6) (ci := 5) rfl cw_X5_52 rfl rfl rfl (c_emitL (by omega)) rfl rfl (Nat.le_of_ble_eq_true rfl) (rmF (by omega)) (rmL (by decide) (by omega)) (Nat.zero_le _) (Nat.zero_le _) ?_
    refine aw_aload_n rfl rfl ?_
    refine aw_iconst (v := 0) rfl (by decide) ?_
    refine aw_lN (q0 := 6) (ci := 5) rfl cw_X5_46 rfl rfl rfl (d3 _ (K + (dd + e2) + 1) (by omega)) rfl rfl (Nat.le_of_ble_eq_true rfl) (rmF (by omega)) (rmL (by decide) (by omega)) (Nat.zero_le _) (Nat.zero_le _) (fun F9 K9 => ?_)
    refine aw_if_ne (tgt := 141) rfl (by decide) (fun h136 => absurd (rfl) h136) (fun h136 => ?_)
    refine aw_iconst (v := 0) rfl (by decide) ?_
    exact aw_z0 rfl rfl ⟨rfl, _, _, rfl⟩
  · have hnx : skw tx E p + 1 ≤ E := by (have := cst_lt (tx := tx) (E := E) (p := p) (by rw [hY.1]; decide); omega)
    have hks := ks_b hY hpE
    have hkk := skw_b (tx := tx) hks.2
    have hp3 := PZ_pr z1 hkk.2.1
    have hp3E : p3 ≤ E := hp3.2.1
    have hk3 := skw_b (tx := tx) hp3E
    have hp4 := PZ_pr z2 hk3.2.1
    have hp4E : p4 ≤ E := hp4.2.1
    have hk4 := skw_b (tx := tx) hp4E
    have hnx4 : skw tx E p4 + 1 ≤ E := by (have := cst_lt (tx := tx) (E := E) (p := p4) (by rw [h4]; decide); omega)
    have hp5 := PZ_pr z3 hnx4
    have hp5E : p5 ≤ E := hp5.2.1
    have d1 : ∀ F K, K ≤ (skw tx E (ks tx E p)) → aw_M l g mi_X5_readsSum (6 + 3 * (6 - 0)) 0 0 [.ref (g_ad g 6), .int 0] (hp g (lm s (skw tx E (ks tx E p)) F K) n) (LO g s n none F K (skw tx E (ks tx E p)) (rOk p3 u)) := lm_all hx hT z1 hkk.2.1 (by decide)
    have d2 : ∀ F K, K ≤ (skw tx E p3) → aw_M l g mi_X5_readsCondition (8 + 3 * (6 - 0)) 0 0 [.ref (g_ad g 6), .int 0, .int 1] (hp g (lm s (skw tx E p3) F K) n) (LO g s n (some u) F K (skw tx E p3) (rOk p4 c)) := lm_all hx hT z2 hk3.2.1 (by decide)
    have d3 : ∀ F K, K ≤ (skw tx E p4 + 1) → aw_M l g mi_X5_readsSum (6 + 3 * (6 - 0)) 0 0 [.ref (g_ad g 6), .int 0] (hp g (lm s (skw tx E p4 + 1) F K) n) (LO g s n none F K (skw tx E p4 + 1) (rOk p5 v)) := lm_all hx hT z3 hnx4 (by decide)
    refine aw_M_of mo_X5_readsClause (by decide) (Nat.le_of_ble_eq_true rfl) ?_
    refine aw_aload_n rfl rfl ?_
    refine pg_6_0 rfl kl_X5_17 ?_
    refine aw_bipush (v := 121) rfl (by decide) ?_
    refine aw_iV (q0 := 1) (ci := 10) rfl cw_X5_42 rfl rfl rfl (c_passY hT hpE hY.1) rfl rfl (Nat.le_of_ble_eq_true rfl) (rmF (by omega)) (rmL (by decide) (by omega)) (Nat.zero_le _) (Nat.zero_le _) ?_
    refine aw_if_eq (tgt := 24) rfl (by decide) (fun h9 => absurd h9 (by decide)) (fun h9 => ?_)
    refine aw_aload_n rfl rfl ?_
    refine pg_6_0 rfl kl_X5_17 ?_
    refine aw_bipush (v := 58) rfl (by decide) ?_
    refine aw_iV (q0 := 1) (ci := 10) rfl cw_X5_42 rfl rfl rfl (c_passY hT hnx hY.2) rfl rfl (Nat.le_of_ble_eq_true rfl) (rmF (by omega)) (rmL (by decide) (by omega)) (Nat.zero_le _) (Nat.zero_le _) ?_
    refine aw_if_ne (tgt := 26) rfl (by decide) (fun h21 => ?_) (fun h21 => absurd h21 (by decide))
    refine aw_eqs (ws' := hp g (lm s (ks tx E p) F K) n) ?_ rfl rfl rfl
    refine aw_aload_n rfl rfl ?_
    refine pg_6_0 rfl kl_X5_17 ?_
    refine aw_iV (q0 := 1) (ci := 10) rfl cw_X5_38 rfl rfl rfl (c_signL hT (p := ks tx E p) hks.2) rfl rfl (Nat.le_of_ble_eq_true rfl) (rmF (by omega)) (rmL (by decide) (by omega)) (Nat.zero_le _) (Nat.zero_le _) ?_
    refine aw_istore_n rfl (by decide) ?_
    refine aw_iload_n rfl rfl ?_
    refine aw_bipush (v := 33) rfl (by decide) ?_
    refine aw_icmp_eq (tgt := 46) rfl (by decide) (fun h37 => absurd h37 (fun e => hQ (Or.inl e))) (fun h37 => ?_)
    refine aw_iload_n rfl rfl ?_
    refine aw_bipush (v := 40) rfl (by decide) ?_
    refine aw_icmp_ne (tgt := 50) rfl (by decide) (fun h43 => ?_) (fun h43 => absurd h43 (fun e => hQ (Or.inr e)))
    refine aw_iconst (v := 0) rfl (by decide) ?_
    refine aw_istore_n rfl (by decide) ?_
    refine aw_iload_n rfl rfl ?_
    refine aw_if_ne (tgt := 88) rfl (by decide) (fun h53 => absurd (rfl) h53) (fun h53 => ?_)
    refine aw_aload_n rfl rfl ?_
    refine aw_iconst (v := 0) rfl (by decide) ?_
    refine aw_lK (q0 := 6) (ci := 5) rfl cw_X5_46 rfl rfl rfl (d1 F K (by omega)) rfl rfl (Nat.le_of_ble_eq_true rfl) (rmF (by omega)) (rmL (by decide) (by omega)) (Nat.zero_le _) (Nat.zero_le _) (fun F1 dd hS => ?_)
    refine aw_if_ne (tgt := 66) rfl (by decide) (fun h61 => ?_) (fun h61 => absurd h61 (by decide))
    have hg := hS.1
    refine aw_aload_n rfl rfl ?_
    refine pg_6_0 rfl kl_X5_17 ?_
    refine aw_iV (q0 := 1) (ci := 10) rfl cw_X5_38 rfl rfl rfl (c_signL hT hp3E) rfl rfl (Nat.le_of_ble_eq_true rfl) (rmF (by omega)) (rmL (by decide) (by omega)) (Nat.zero_le _) (Nat.zero_le _) ?_
    refine aw_iS rfl cw_X5_49 (c_isCmp) rfl rfl (Nat.le_of_ble_eq_true rfl) (rmF (by omega)) (rmL (by decide) (by omega)) (Nat.zero_le _) (Nat.zero_le _) ?_
    refine aw_if_ne (tgt := 88) rfl (by decide) (fun h76 => ?_) (fun h76 => absurd h76 (by rw [h3]; decide))
    refine aw_aload_n rfl rfl ?_
    refine aw_iconst (v := 0) rfl (by decide) ?_
    refine aw_iload_n rfl rfl ?_
    refine aw_if_ne (tgt := 98) rfl (by decide) (fun h91 => absurd (rfl) h91) (fun h91 => ?_)
    refine aw_iconst (v := 1) rfl (by decide) ?_
    refine aw_goto (tgt := 99) rfl (by decide) ?_
    refine aw_lK (q0 := 6) (ci := 5) rfl cw_X5_56 rfl rfl rfl (d2 F1 (K + dd) (by omega)) rfl rfl (Nat.le_of_ble_eq_true rfl) (rmF (by omega)) (rmL (by decide) (by omega)) (Nat.zero_le _) (Nat.zero_le _) (fun F2 e2 hS2 => ?_)
    refine aw_if_eq (tgt := 117) rfl (by decide) (fun h102 => absurd h102 (by decide)) (fun h102 => ?_)
    have hS3 : SG none F F2 K (dd + e2) (skw tx E (ks tx E p)) p4 c := SG_tr (SG_wk hS (Nat.le_refl _) hk3.1) hS2
    have hg3 := hS3.1
    rw [show K + dd + e2 = K + (dd + e2) from Nat.add_assoc _ _ _]
    refine aw_aload_n rfl rfl ?_
    refine pg_6_0 rfl kl_X5_17 ?_
    refine aw_bipush (v := 63) rfl (by decide) ?_
    refine aw_iV (q0 := 1) (ci := 10) rfl cw_X5_42 rfl rfl rfl (c_passY hT hp4E h4) rfl rfl (Nat.le_of_ble_eq_true rfl) (rmF (by omega)) (rmL (by decide) (by omega)) (Nat.zero_le _) (Nat.zero_le _) ?_
    refine aw_if_ne (tgt := 119) rfl (by decide) (fun h114 => ?_) (fun h114 => absurd h114 (by decide))
    refine aw_aload_n rfl rfl ?_
    refine pg_6_2 rfl kl_X5_21 ?_
    refine aw_istore_n rfl (by decide) ?_
    refine aw_aload_n rfl rfl ?_
    refine aw_sipush (v := 30000) rfl (by decide) ?_
    refine aw_vV (q0 := 6) (ci := 5) rfl cw_X5_52 rfl rfl rfl (c_emitL (by omega)) rfl rfl (Nat.le_of_ble_eq_true rfl) (rmF (by omega)) (rmL (by decide) (by omega)) (Nat.zero_le _) (Nat.zero_le _) ?_
    refine aw_aload_n rfl rfl ?_
    refine aw_iconst (v := 0) rfl (by decide) ?_
    refine aw_lK (q0 := 6) (ci := 5) rfl cw_X5_46 rfl rfl rfl (d3 _ (K + (dd + e2) + 1) (by omega)) rfl rfl (Nat.le_of_ble_eq_true rfl) (rmF (by omega)) (rmL (by decide) (by omega)) (Nat.zero_le _) (Nat.zero_le _) (fun F4 d3 hS4 => ?_)
    refine aw_if_ne (tgt := 141) rfl (by decide) (fun h136 => ?_) (fun h136 => absurd h136 (by decide))
    have hg4 := hS4.1
    refine aw_aload_n rfl rfl ?_
    refine aw_sipush (v := 20059) rfl (by decide) ?_
    refine aw_vV (q0 := 6) (ci := 5) rfl cw_X5_52 rfl rfl rfl (c_emitL (by omega)) rfl rfl (Nat.le_of_ble_eq_true rfl) (rmF (by omega)) (rmL (by decide) (by omega)) (Nat.zero_le _) (Nat.zero_le _) ?_
    refine aw_iload_n rfl rfl ?_
    refine aw_aload_n rfl rfl ?_
    refine pg_6_1 rfl kl_X5_11 ?_
    refine pn_7 (v := 240) rfl (by decide) ?_
    refine aw_icmp_ge (tgt := 171) rfl (by decide) (fun h154 => absurd h154 (nI_ge (b := 240) (by omega) (by decide))) (fun h154 => ?_)
    refine aw_aload_n rfl rfl ?_
    refine pg_6_1 rfl kl_X5_11 ?_
    refine aw_iload_n rfl rfl ?_
    refine aw_sipush (v := 30000) rfl (by decide) ?_
    refine aw_aload_n rfl rfl ?_
    refine pg_6_2 rfl kl_X5_21 ?_
    refine aw_iadd rfl ?_
    refine ps_7 (j := K + (dd + e2)) rfl rfl (by omega) ?_
    refine aw_iconst (v := 1) rfl (by decide) ?_
    exact aw_z1 rfl rfl ⟨rfl, _, K + (dd + e2) + 1 + d3 + 1, congrArg (fun z => hp g z n) lm_7, by omega, fun j hj => by rw [upd_n (by omega), upd_n (by omega), hS4.2.1 j (by omega), upd_n (by omega)]; exact hS3.2.1 j hj, CD_2 hS3 hS4⟩
/-- what reading a law gives -/
def PLw (g : ag_G) (s : am_S) (n : am_N) : Rl → Option Value → va_W → Prop
  | .ok L => fun o y => o = some (.int 1) ∧ ∃ F a K, y = hp g (lm s a F K) n ∧ K ≤ 240 ∧ CL F 0 L K
  | .error q => fun o y => o = some (.int 0) ∧ ∃ F K, y = hp g (lm s q F K) n
def QLw (g : ag_G) (s : am_S) (n : am_N) (Q : Option Value → va_W → Prop) (L0 : List (Ex × Ex)) : Rl → Prop
  | .ok L => ∀ F a K, K ≤ 240 → CL F 0 (L0 ++ L) K → Q (some (.int 1)) (hp g (lm s a F K) n)
  | .error q => ∀ F K, Q (some (.int 0)) (hp g (lm s q F K) n)
theorem QLw_m {g : ag_G} {s : am_S} {n : am_N} {Q : Option Value → va_W → Prop} {L0 : List (Ex × Ex)} {c v : Ex} : ∀ r1 : Rl, QLw g s n Q L0 (r1.map (fun L => (c, v) :: L)) → QLw g s n Q (L0 ++ [(c, v)]) r1
  | .ok L, h => fun F a K hK hC => h F a K hK (by rw [List.append_assoc] at hC; exact hC)
  | .error _, h => h
theorem aw_kCl {l : Launch} {g : ag_G} {M : ag_M} {R : Room} {Z : ag_Z} {pc : Nat} {L : List (Option Value)} {s : am_S} {n : am_N} {ws : va_W} {N : ag_M} {index d k q0 ci b p' k0 : Nat} {c v : Ex} {f : Nat → Int32} {C : vw_C} {fs As rest st0 : List Value}
    (hd : m_at M pc = some (.invokevirtual index, 3)) (hw : aw_cV (m_y M).cls index N k) (hc : aw_cl[ci]? = some C) (hcn : C.1 = (m_y N).cls) (he : ws[q0]? = some (b, .inr (ci, fs)))
    (hM : aw_M l g N d 0 0 (.ref b :: As) ws (KO g s n f k0 (kOk p' c v))) (hk : As.length = k) (hst : st0 = As.reverse ++ .ref b :: rest) (hrest : (rest.map fun v => v.category).sum ≤ 8) (hf : d + 1 ≤ R.frames) (hlo : 8 + (m_n N + 11) + 100 * d ≤ R.locals) (h1 : 0 ≤ R.cells) (h2 : 0 ≤ R.slots)
    (kk : ∀ F' K', K' ≤ p' → (∀ j, j < k0 → F' j = f j) → CD F' k0 K' c v → aw_W l g M R Z 0 0 (hp g (lm s p' F' K') n) (pc + 3) L (.int 1 :: rest)) : aw_W l g M R Z 0 0 ws pc L st0 :=
  aw_callV hd hw hc hcn he hM hk hst hrest hf hlo h1 h2 (by rintro r z ⟨rfl, F', K', rfl, h3, h4, h5⟩; exact kk F' K' h3 h4 h5)
theorem aw_nCl {l : Launch} {g : ag_G} {M : ag_M} {R : Room} {Z : ag_Z} {pc : Nat} {L : List (Option Value)} {s : am_S} {n : am_N} {ws : va_W} {N : ag_M} {index d k q0 ci b q k0 : Nat} {f : Nat → Int32} {C : vw_C} {fs As rest st0 : List Value}
    (hd : m_at M pc = some (.invokevirtual index, 3)) (hw : aw_cV (m_y M).cls index N k) (hc : aw_cl[ci]? = some C) (hcn : C.1 = (m_y N).cls) (he : ws[q0]? = some (b, .inr (ci, fs)))
    (hM : aw_M l g N d 0 0 (.ref b :: As) ws (KO g s n f k0 (kNo q))) (hk : As.length = k) (hst : st0 = As.reverse ++ .ref b :: rest) (hrest : (rest.map fun v => v.category).sum ≤ 8) (hf : d + 1 ≤ R.frames) (hlo : 8 + (m_n N + 11) + 100 * d ≤ R.locals) (h1 : 0 ≤ R.cells) (h2 : 0 ≤ R.slots)
    (kk : ∀ F' K', aw_W l g M R Z 0 0 (hp g (lm s q F' K') n) (pc + 3) L (.int 0 :: rest)) : aw_W l g M R Z 0 0 ws pc L st0 :=
  aw_callV hd hw hc hcn he hM hk hst hrest hf hlo h1 h2 (by rintro r z ⟨rfl, F', K', rfl⟩; exact kk F' K')
set_option maxRecDepth 4000 in
theorem lm_loop {l : Launch} {g : ag_G} {s : am_S} {n : am_N} {E : Nat} {tx : Nat → Nat} (hx : aw_hx g) (hT : CT s E tx) {Q : Option Value → va_W → Prop} : ∀ (m p t : Nat) (r : Rl) (F : Nat → Int32) (K : Nat) (L0 : List (Ex × Ex)), LZ tx E m p r → p ≤ E → K ≤ p → t < p → CL F 0 L0 K → QLw g s n Q L0 r → aw_W l g mi_X5_reads (aw_rm 28 0 0) (aw_Z g Q 0 0) 0 0 (hp g (lm s p F K) n) 31 [some (.ref (g_ad g 6)), some (.int (nI t))] [] := by
  have hE := hT.2.1
  intro m
  induction m with
  | zero =>
    intro p t r F K L0 h hpE hK ht hC hQ
    have hk := skw_b (tx := tx) hpE
    rcases h with ⟨h1, rfl⟩ | ⟨h1, h2, rfl⟩
    · skip
      refine aw_aload_n rfl rfl ?_
      refine pg_6_0 rfl kl_X5_17 ?_
      refine aw_iV (q0 := 1) (ci := 10) rfl cw_X5_38 rfl rfl rfl (c_signL hT hpE) rfl rfl (Nat.le_of_ble_eq_true rfl) (rmF (by omega)) (rmL (by decide) (by omega)) (Nat.zero_le _) (Nat.zero_le _) ?_
      refine aw_iconst (v := -1) rfl (by decide) ?_
      refine aw_icmp_ne (tgt := 44) rfl (by decide) (fun h39 => absurd (h1) h39) (fun h39 => ?_)
      refine aw_iconst (v := 1) rfl (by decide) ?_
      exact aw_z1 rfl rfl (hQ F _ K (by omega) (by rw [List.append_nil]; exact hC))
    · skip
      refine aw_aload_n rfl rfl ?_
      refine pg_6_0 rfl kl_X5_17 ?_
      refine aw_iV (q0 := 1) (ci := 10) rfl cw_X5_38 rfl rfl rfl (c_signL hT hpE) rfl rfl (Nat.le_of_ble_eq_true rfl) (rmF (by omega)) (rmL (by decide) (by omega)) (Nat.zero_le _) (Nat.zero_le _) ?_
      refine aw_iconst (v := -1) rfl (by decide) ?_
      refine aw_icmp_ne (tgt := 44) rfl (by decide) (fun h39 => ?_) (fun h39 => absurd h39 (h2))
      refine aw_aload_n rfl rfl ?_
      refine pg_6_0 rfl kl_X5_17 ?_
      refine aw_bipush (v := 59) rfl (by decide) ?_
      refine aw_iV (q0 := 1) (ci := 10) rfl cw_X5_42 rfl rfl rfl (c_passX hT hk.2.1 (show cst tx E (skw tx E p) ≠ 59 from by (unfold cst; rw [skw_sk hpE]; exact h1))) rfl rfl (Nat.le_of_ble_eq_true rfl) (rmF (by omega)) (rmL (by decide) (by omega)) (Nat.zero_le _) (Nat.zero_le _) ?_
      rw [skw_sk hpE]
      refine aw_if_ne (tgt := 58) rfl (by decide) (fun h53 => absurd (rfl) h53) (fun h53 => ?_)
      refine aw_iconst (v := 0) rfl (by decide) ?_
      exact aw_z0 rfl rfl (hQ _ _)
  | succ m ih =>
    intro p t r F K L0 h hpE hK ht hC hQ
    have hk := skw_b (tx := tx) hpE
    obtain ⟨h1, h2⟩ := h
    have hnx : skw tx E p + 1 ≤ E := by (have := cst_lt (tx := tx) (E := E) (p := p) (by rw [h1]; decide); omega)
    rcases h2 with ⟨f, hz, rfl⟩ | ⟨p1, c, v, r1, hz, hr, rfl⟩
    · skip
      refine aw_aload_n rfl rfl ?_
      refine pg_6_0 rfl kl_X5_17 ?_
      refine aw_iV (q0 := 1) (ci := 10) rfl cw_X5_38 rfl rfl rfl (c_signL hT hpE) rfl rfl (Nat.le_of_ble_eq_true rfl) (rmF (by omega)) (rmL (by decide) (by omega)) (Nat.zero_le _) (Nat.zero_le _) ?_
      refine aw_iconst (v := -1) rfl (by decide) ?_
      refine aw_icmp_ne (tgt := 44) rfl (by decide) (fun h39 => ?_) (fun h39 => absurd h39 (by rw [h1]; decide))
      refine aw_aload_n rfl rfl ?_
      refine pg_6_0 rfl kl_X5_17 ?_
      refine aw_bipush (v := 59) rfl (by decide) ?_
      refine aw_iV (q0 := 1) (ci := 10) rfl cw_X5_42 rfl rfl rfl (c_passY hT hk.2.1 (show cst tx E (skw tx E p) = 59 from by (unfold cst; rw [skw_sk hpE]; exact h1))) rfl rfl (Nat.le_of_ble_eq_true rfl) (rmF (by omega)) (rmL (by decide) (by omega)) (Nat.zero_le _) (Nat.zero_le _) ?_
      rw [skw_sk hpE]
      refine aw_if_ne (tgt := 58) rfl (by decide) (fun h53 => ?_) (fun h53 => absurd h53 (by decide))
      refine aw_inc1 rfl rfl (by decide) ?_
      refine aw_goto (tgt := 15) rfl (by decide) ?_
      refine aw_iload_n rfl rfl ?_
      refine aw_sipush (v := 240) rfl (by decide) ?_
      refine aw_icmp_ge (tgt := 64) rfl (by decide) (fun h19 => absurd h19 (by rw [nI_1]; exact nI_ge (a := t + 1) (b := 240) (by omega) (by decide))) (fun h19 => ?_)
      refine aw_aload_n rfl rfl ?_
      refine aw_nCl (q0 := 6) (ci := 5) rfl cw_X5_34 rfl rfl rfl (c_clauseL hx hT hz hnx F K (by omega)) rfl rfl (Nat.le_of_ble_eq_true rfl) (rmF (by omega)) (rmL (by decide) (by omega)) (Nat.zero_le _) (Nat.zero_le _) (fun F1 K1 => ?_)
      refine aw_if_ne (tgt := 31) rfl (by decide) (fun h26 => absurd (rfl) h26) (fun h26 => ?_)
      refine aw_iconst (v := 0) rfl (by decide) ?_
      exact aw_z0 rfl rfl (hQ _ _)
    · have hp1 := CZ_pr hz hnx
      have hp2 : skw tx E p + 1 + 3 ≤ p1 ∧ p1 ≤ E := hp1
      refine aw_aload_n rfl rfl ?_
      refine pg_6_0 rfl kl_X5_17 ?_
      refine aw_iV (q0 := 1) (ci := 10) rfl cw_X5_38 rfl rfl rfl (c_signL hT hpE) rfl rfl (Nat.le_of_ble_eq_true rfl) (rmF (by omega)) (rmL (by decide) (by omega)) (Nat.zero_le _) (Nat.zero_le _) ?_
      refine aw_iconst (v := -1) rfl (by decide) ?_
      refine aw_icmp_ne (tgt := 44) rfl (by decide) (fun h39 => ?_) (fun h39 => absurd h39 (by rw [h1]; decide))
      refine aw_aload_n rfl rfl ?_
      refine pg_6_0 rfl kl_X5_17 ?_
      refine aw_bipush (v := 59) rfl (by decide) ?_
      refine aw_iV (q0 := 1) (ci := 10) rfl cw_X5_42 rfl rfl rfl (c_passY hT hk.2.1 (show cst tx E (skw tx E p) = 59 from by (unfold cst; rw [skw_sk hpE]; exact h1))) rfl rfl (Nat.le_of_ble_eq_true rfl) (rmF (by omega)) (rmL (by decide) (by omega)) (Nat.zero_le _) (Nat.zero_le _) ?_
      rw [skw_sk hpE]
      refine aw_if_ne (tgt := 58) rfl (by decide) (fun h53 => ?_) (fun h53 => absurd h53 (by decide))
      refine aw_inc1 rfl rfl (by decide) ?_
      refine aw_goto (tgt := 15) rfl (by decide) ?_
      refine aw_iload_n rfl rfl ?_
      refine aw_sipush (v := 240) rfl (by decide) ?_
      refine aw_icmp_ge (tgt := 64) rfl (by decide) (fun h19 => absurd h19 (by rw [nI_1]; exact nI_ge (a := t + 1) (b := 240) (by omega) (by decide))) (fun h19 => ?_)
      refine aw_aload_n rfl rfl ?_
      refine aw_kCl (q0 := 6) (ci := 5) rfl cw_X5_34 rfl rfl rfl (c_clauseL hx hT hz hnx F K (by omega)) rfl rfl (Nat.le_of_ble_eq_true rfl) (rmF (by omega)) (rmL (by decide) (by omega)) (Nat.zero_le _) (Nat.zero_le _) (fun F1 K1 hK1 hF1 hC1 => ?_)
      refine aw_if_ne (tgt := 31) rfl (by decide) (fun h26 => ?_) (fun h26 => absurd h26 (by decide))
      exact aw_wk (ih p1 (t + 1) r1 F1 K1 _ hr hp2.2 hK1 (by omega) (CL_a L0 0 K K1 (CL_c L0 0 K hC hF1) hC1) (QLw_m r1 hQ)) (And.intro rfl (And.intro (congrArg (fun x => some (Value.int x)) (nI_1 t)) True.intro))
set_option maxRecDepth 4000 in
theorem c_X5_reads {l : Launch} {g : ag_G} {s : am_S} {n : am_N} {E : Nat} {tx : Nat → Nat} (hx : aw_hx g) (hT : CT s E tx) {r : Rl} (h : LW tx E r) : aw_M l g mi_X5_reads 28 0 0 [.ref (g_ad g 6)] (hp g s n) (PLw g s n r) := by
  have hE := hT.2.1
  have h0 : up (up s 1 2 0) 6 2 0 = lm s 0 (s 7) 0 := by
    unfold lm
    rw [upR_rf, up_comm (k := 1) (k' := 6) rfl rfl]; rfl
  have hr0 : ∀ r : Rl, QLw g s n (PLw g s n r) [] r := fun r => by
    cases r with
    | ok L => exact fun F a K hK hC => ⟨rfl, F, a, K, rfl, hK, hC⟩
    | error q => exact fun F K => ⟨rfl, F, K, rfl⟩
  rcases h with ⟨f, hz, rfl⟩ | ⟨p1, c, v, m, r1, hz, hr, rfl⟩
  · refine aw_M_of mo_X5_reads (by decide) (Nat.le_of_ble_eq_true rfl) ?_
    refine aw_aload_n rfl rfl ?_
    refine pg_6_0 rfl kl_X5_17 ?_
    refine aw_iconst (v := 0) rfl (by decide) ?_
    refine pp_1_2 rfl kl_X5_31 ?_
    refine aw_aload_n rfl rfl ?_
    refine aw_iconst (v := 0) rfl (by decide) ?_
    refine pp_6_2 rfl kl_X5_21 ?_
    refine aw_eqs (ws' := hp g (lm s 0 (s 7) 0) n) ?_ rfl rfl (congrArg (fun z => hp g z n) h0)
    refine aw_iconst (v := 0) rfl (by decide) ?_
    refine aw_istore_n rfl (by decide) ?_
    refine aw_iload_n rfl rfl ?_
    refine aw_sipush (v := 240) rfl (by decide) ?_
    refine aw_icmp_ge (tgt := 64) rfl (by decide) (fun h19 => absurd h19 (by decide)) (fun h19 => ?_)
    refine aw_aload_n rfl rfl ?_
    refine aw_nCl (q0 := 6) (ci := 5) rfl cw_X5_34 rfl rfl rfl (c_clauseL hx hT hz (Nat.zero_le _) (s 7) 0 (Nat.zero_le _)) rfl rfl (Nat.le_of_ble_eq_true rfl) (rmF (by omega)) (rmL (by decide) (by omega)) (Nat.zero_le _) (Nat.zero_le _) (fun F1 K1 => ?_)
    refine aw_if_ne (tgt := 31) rfl (by decide) (fun h26 => absurd (rfl) h26) (fun h26 => ?_)
    refine aw_iconst (v := 0) rfl (by decide) ?_
    exact aw_z0 rfl rfl (hr0 (.error f) _ _)
  · have hp1 := CZ_pr hz (Nat.zero_le _)
    have hp2 : 0 + 3 ≤ p1 ∧ p1 ≤ E := hp1
    refine aw_M_of mo_X5_reads (by decide) (Nat.le_of_ble_eq_true rfl) ?_
    refine aw_aload_n rfl rfl ?_
    refine pg_6_0 rfl kl_X5_17 ?_
    refine aw_iconst (v := 0) rfl (by decide) ?_
    refine pp_1_2 rfl kl_X5_31 ?_
    refine aw_aload_n rfl rfl ?_
    refine aw_iconst (v := 0) rfl (by decide) ?_
    refine pp_6_2 rfl kl_X5_21 ?_
    refine aw_eqs (ws' := hp g (lm s 0 (s 7) 0) n) ?_ rfl rfl (congrArg (fun z => hp g z n) h0)
    refine aw_iconst (v := 0) rfl (by decide) ?_
    refine aw_istore_n rfl (by decide) ?_
    refine aw_iload_n rfl rfl ?_
    refine aw_sipush (v := 240) rfl (by decide) ?_
    refine aw_icmp_ge (tgt := 64) rfl (by decide) (fun h19 => absurd h19 (by decide)) (fun h19 => ?_)
    refine aw_aload_n rfl rfl ?_
    refine aw_kCl (q0 := 6) (ci := 5) rfl cw_X5_34 rfl rfl rfl (c_clauseL hx hT hz (Nat.zero_le _) (s 7) 0 (Nat.zero_le _)) rfl rfl (Nat.le_of_ble_eq_true rfl) (rmF (by omega)) (rmL (by decide) (by omega)) (Nat.zero_le _) (Nat.zero_le _) (fun F1 K1 hK1 hF1 hC1 => ?_)
    refine aw_if_ne (tgt := 31) rfl (by decide) (fun h26 => ?_) (fun h26 => absurd h26 (by decide))
    exact aw_wk (lm_loop hx hT m p1 0 r1 F1 K1 [(c, v)] hr hp2.2 hK1 (by omega) ⟨K1, hC1, rfl⟩ (QLw_m (L0 := []) r1 (hr0 _))) (And.intro rfl (And.intro rfl True.intro))
