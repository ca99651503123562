/-! the class reads a law by the grammar -/
def TS (l : Launch) (g : ag_G) (s : am_S) (n : am_N) (w : Nat) (v : Option Ex) (F : Nat → Int32) (K p : Nat) (pl : Int32) (Q : Option Value → va_W → Prop) : Rs → Prop
  | .ok z => ∀ F' d t', SG v F F' K d p z.1 z.2 → 2 * t' + 1 ≤ z.1 → aw_W l g mi_X5_readsSum (aw_rm (6 + 3 * (6 - w)) 0 0) (aw_Z g Q 0 0) 0 0 (hp g (lm s z.1 F' (K + d)) n) 54 [some (.ref (g_ad g 6)), some (.int (nI w)), some (.int (-1)), some (.int pl), some (.int (nI t'))] []
  | .error q => ∀ F' K', Q (some (.int 0)) (hp g (lm s q F' K') n)
def TC (l : Launch) (g : ag_G) (s : am_S) (n : am_N) (w : Nat) (v : Option Ex) (F : Nat → Int32) (K p : Nat) (bg orr : Int32) (Q : Option Value → va_W → Prop) : Rs → Prop
  | .ok z => ∀ F' d t', SG v F F' K d p z.1 z.2 → 2 * t' + 1 ≤ z.1 → aw_W l g mi_X5_readsCondition (aw_rm (8 + 3 * (6 - w)) 0 0) (aw_Z g Q 0 0) 0 0 (hp g (lm s z.1 F' (K + d)) n) 65 [some (.ref (g_ad g 6)), some (.int (nI w)), some (.int bg), some (.int 0), some (.int orr), some (.int (nI t'))] []
  | .error q => ∀ F' K', Q (some (.int 0)) (hp g (lm s q F' K') n)
def LM2 (l : Launch) (g : ag_G) (s : am_S) (n : am_N) (tx : Nat → Nat) (E : Nat) (nt : Nt) (w p : Nat) (r : Rs) : Prop := match nt.1 with
  | 0 => ∀ F K, K ≤ p → aw_M l g mi_X5_readsAtom (5 + 3 * (6 - w)) 0 0 [.ref (g_ad g 6), .int (nI w)] (hp g (lm s p F K) n) (LO g s n none F K p r)
  | 1 => ∀ F K t (pl : Int32) Q, K ≤ p → 2 * t ≤ p → TS l g s n w none F K p pl Q r → aw_W l g mi_X5_readsSum (aw_rm (6 + 3 * (6 - w)) 0 0) (aw_Z g Q 0 0) 0 0 (hp g (lm s p F K) n) 7 [some (.ref (g_ad g 6)), some (.int (nI w)), some (.int (-1)), some (.int pl), some (.int (nI t))] []
  | 2 => ∀ F K t (pl : Int32) Q, K ≤ p → 2 * t + 1 ≤ p → TS l g s n w (some nt.2) F K p pl Q r → aw_W l g mi_X5_readsSum (aw_rm (6 + 3 * (6 - w)) 0 0) (aw_Z g Q 0 0) 0 0 (hp g (lm s p F K) n) 39 [some (.ref (g_ad g 6)), some (.int (nI w)), none, some (.int pl), some (.int (nI t))] []
  | 3 => ∀ F K, K ≤ p → aw_M l g mi_X5_readsSum (6 + 3 * (6 - w)) 0 0 [.ref (g_ad g 6), .int (nI w)] (hp g (lm s p F K) n) (LO g s n none F K p r)
  | 4 => ∀ F K t Q, K ≤ p → 2 * t + 1 ≤ p → QO g s n (some nt.2) F K p Q r → aw_W l g mi_X5_readsSum (aw_rm (6 + 3 * (6 - w)) 0 0) (aw_Z g Q 0 0) 0 0 (hp g (lm s p F K) n) 68 [some (.ref (g_ad g 6)), some (.int (nI w)), some (.int (-1)), none, some (.int (nI t))] []
  | 5 => ∀ F K p' Q, K ≤ p → p ≤ p' → p' ≤ E → skw tx E p' = skw tx E p → QO g s n (some nt.2) F K p Q r → aw_W l g mi_X5_readsUnit (aw_rm (7 + 3 * (6 - w)) 0 0) (aw_Z g Q 0 0) 0 0 (hp g (lm s p' F K) n) 116 [some (.ref (g_ad g 6)), some (.int (nI w)), none, none, none] []
  | 6 => ∀ F K, K ≤ p → aw_M l g mi_X5_readsUnit (7 + 3 * (6 - w)) 0 0 [.ref (g_ad g 6), .int (nI w), .int 0] (hp g (lm s p F K) n) (LO g s n none F K p r)
  | 7 => ∀ F K t (bg orr : Int32) Q, K ≤ p → 2 * t ≤ p → (bg = 0 ∨ 0 < t) → TC l g s n w none F K p bg orr Q r → aw_W l g mi_X5_readsCondition (aw_rm (8 + 3 * (6 - w)) 0 0) (aw_Z g Q 0 0) 0 0 (hp g (lm s p F K) n) 8 [some (.ref (g_ad g 6)), some (.int (nI w)), some (.int bg), some (.int 0), some (.int orr), some (.int (nI t))] []
  | 8 => ∀ F K Q, K ≤ p → TC l g s n w (some nt.2) F K p 1 0 Q r → aw_W l g mi_X5_readsCondition (aw_rm (8 + 3 * (6 - w)) 0 0) (aw_Z g Q 0 0) 0 0 (hp g (lm s p F K) n) 8 [some (.ref (g_ad g 6)), some (.int (nI w)), some (.int 1), some (.int 0), some (.int 0), some (.int (nI 0))] []
  | 9 => ∀ F K t (bg orr : Int32) Q, K ≤ p → 2 * t + 1 ≤ p → TC l g s n w (some nt.2) F K p bg orr Q r → aw_W l g mi_X5_readsCondition (aw_rm (8 + 3 * (6 - w)) 0 0) (aw_Z g Q 0 0) 0 0 (hp g (lm s p F K) n) 51 [some (.ref (g_ad g 6)), some (.int (nI w)), some (.int bg), none, some (.int orr), some (.int (nI t))] []
  | 10 => ∀ F K, K ≤ p → aw_M l g mi_X5_readsCondition (8 + 3 * (6 - w)) 0 0 [.ref (g_ad g 6), .int (nI w), .int 0] (hp g (lm s p F K) n) (LO g s n none F K p r)
  | 11 => ∀ F K, K ≤ p → aw_M l g mi_X5_readsCondition (8 + 3 * (6 - w)) 0 0 [.ref (g_ad g 6), .int (nI w), .int 1] (hp g (lm s p F K) n) (LO g s n (some nt.2) F K p r)
  | _ => ∀ F K t (bg : Int32) Q, K ≤ p → 2 * t + 1 ≤ p → QO g s n (some nt.2) F K p Q r → aw_W l g mi_X5_readsCondition (aw_rm (8 + 3 * (6 - w)) 0 0) (aw_Z g Q 0 0) 0 0 (hp g (lm s p F K) n) 77 [some (.ref (g_ad g 6)), some (.int (nI w)), some (.int bg), some (.int 0), none, some (.int (nI t))] []
theorem LO_QO {g : ag_G} {s : am_S} {n : am_N} {v : Option Ex} {F : Nat → Int32} {K p : Nat} : ∀ r : Rs, QO g s n v F K p (LO g s n v F K p r) r
  | .ok _ => fun f' d h => ⟨rfl, f', d, rfl, h⟩
  | .error _ => fun f' k' => ⟨rfl, f', k', rfl⟩
theorem QO_tr {g : ag_G} {s : am_S} {n : am_N} {v : Option Ex} {F F1 : Nat → Int32} {K d p p1 : Nat} {a : Ex} {Q : Option Value → va_W → Prop} (hS : SG v F F1 K d p p1 a) : ∀ r : Rs, QO g s n v F K p Q r → QO g s n (some a) F1 (K + d) p1 Q r
  | .ok _, h => fun f' d' h' => by rw [Nat.add_assoc]; exact h f' (d + d') (SG_tr hS h')
  | .error _, h => h
theorem TS_tr {l : Launch} {g : ag_G} {s : am_S} {n : am_N} {v : Option Ex} {F F1 : Nat → Int32} {w K d p p1 : Nat} {a : Ex} {pl : Int32} {Q : Option Value → va_W → Prop} (hS : SG v F F1 K d p p1 a) : ∀ r : Rs, TS l g s n w v F K p pl Q r → TS l g s n w (some a) F1 (K + d) p1 pl Q r
  | .ok _, h => fun f' d' t' h' ht => by rw [Nat.add_assoc]; exact h f' (d + d') t' (SG_tr hS h') ht
  | .error _, h => h
theorem TC_tr {l : Launch} {g : ag_G} {s : am_S} {n : am_N} {v : Option Ex} {F F1 : Nat → Int32} {w K d p p1 : Nat} {a : Ex} {bg orr : Int32} {Q : Option Value → va_W → Prop} (hS : SG v F F1 K d p p1 a) : ∀ r : Rs, TC l g s n w v F K p bg orr Q r → TC l g s n w (some a) F1 (K + d) p1 bg orr Q r
  | .ok _, h => fun f' d' t' h' ht => by rw [Nat.add_assoc]; exact h f' (d + d') t' (SG_tr hS h') ht
  | .error _, h => h
theorem as_ne : ∀ i, i < 6 → ¬ nI (asN i) = 91 ∧ ¬ nI (asN i) = -1 := by decide +kernel
theorem nI_m1n {m : Nat} (h : m < 10000) : ¬ nI m = (-1 : Int32) := by
  intro e
  have := congrArg Int32.toInt e
  rw [nI_toInt (by omega)] at this
  have h1 : (-1 : Int32).toInt = -1 := by decide
  omega
theorem dg_cst {tx : Nat → Nat} {E p : Nat} (h : dg tx E (skw tx E p) = true) : ∃ q, q < 256 ∧ cst tx E p = nI q := by
  have hc := dg_c h
  refine ⟨tx (skw tx E p), by omega, ?_⟩
  unfold cst cv
  rw [if_pos hc.1]
set_option maxRecDepth 4000 in
theorem lm_atL {l : Launch} {g : ag_G} {s : am_S} {n : am_N} {E : Nat} {tx : Nat → Nat} (hx : aw_hx g) (hT : CT s E tx) {w : Nat} {p : Nat} {i : Nat} (c1 : xsp 4 (cst tx E p) = some i) (hpE : p ≤ E) (hw : w ≤ 6) : ∀ F K, K ≤ p → aw_M l g mi_X5_readsAtom (5 + 3 * (6 - w)) 0 0 [.ref (g_ad g 6), .int (nI w)] (hp g (lm s p F K) n) (LO g s n none F K p (rOk (skw tx E p + 1) (fun A => A i))) := by
  have hE := hT.2.1
  have hk := skw_b (tx := tx) hpE
  have h4 := xsp4 c1
  have hq : asN i < 256 := by (have := h4.2.2; omega)
  have hcq := h4.2.1
  have hxi : xix 4 (nI (asN i)) = nI i := by (rw [x4_on _ hq, ← hcq, c1]; rfl)
  have hne := as_ne i h4.1
  have hnx : skw tx E p < E := cst_lt (tx := tx) (E := E) (p := p) (by rw [hcq]; exact hne.2)
  intro F K hK
  refine aw_M_of mo_X5_readsAtom (by decide) (Nat.le_of_ble_eq_true rfl) ?_
  refine aw_aload_n rfl rfl ?_
  refine pg_6_0 rfl kl_X5_17 ?_
  refine aw_iV (q0 := 1) (ci := 10) rfl cw_X5_38 rfl rfl rfl (c_signL hT hpE) rfl rfl (Nat.le_of_ble_eq_true rfl) (rmF (by omega)) (rmL (by decide) (by omega)) (Nat.zero_le _) (Nat.zero_le _) ?_
  refine aw_istore_n rfl (by decide) ?_
  refine aw_iload_n rfl rfl ?_
  refine aw_iconst (v := -1) rfl (by decide) ?_
  refine aw_icmp_ne (tgt := 15) rfl (by decide) (fun h10 => ?_) (fun h10 => absurd h10 (by rw [hcq]; exact hne.2))
  refine aw_iload_n rfl rfl ?_
  refine aw_bipush (v := 91) rfl (by decide) ?_
  refine aw_icmp_ne (tgt := 81) rfl (by decide) (fun h18 => ?_) (fun h18 => absurd h18 (by rw [hcq]; exact hne.1))
  refine aw_ldcS rfl (xr_X5_74 hx) ?_
  refine aw_iload_n rfl rfl ?_
  refine aw_i2c rfl ?_
  rw [show ((cst tx E p).toUInt32 % 65536).toInt32 = nI (asN i) from by (rw [hcq]; exact i2c_nI hq)]
  refine aw_iX rfl cw_X5_76 (xs_recv hx (i := 4) (by decide)) (c_indexOf hx (i := 4) (by decide) hq) rfl rfl (Nat.le_of_ble_eq_true rfl) (rmF (by omega)) (rmL (by decide) (by omega)) (Nat.zero_le _) (Nat.zero_le _) ?_
  rw [hxi]
  refine aw_istore_n rfl (by decide) ?_
  refine aw_iload_n rfl rfl ?_
  refine aw_if_lt (tgt := 117) rfl (by decide) (fun h90 => absurd h90 (nI_pos (by omega))) (fun h90 => ?_)
  refine aw_aload_n rfl rfl ?_
  refine pg_6_0 rfl kl_X5_17 ?_
  refine aw_dup rfl rfl ?_
  refine pg_1_2 rfl kl_X5_31 ?_
  refine aw_iconst (v := 1) rfl (by decide) ?_
  refine aw_iadd rfl ?_
  refine pp_1_2 rfl kl_X5_31 ?_
  refine aw_eqs (ws' := hp g (lm s ((skw tx E p) + 1) F K) n) ?_ rfl rfl (congrArg (fun z => hp g z n) lm_in)
  refine aw_aload_n rfl rfl ?_
  refine aw_sipush (v := 10000) rfl (by decide) ?_
  refine aw_iload_n rfl rfl ?_
  refine aw_iadd rfl ?_
  refine aw_vV (q0 := 6) (ci := 5) rfl cw_X5_52 rfl rfl rfl (c_emitL (by omega)) rfl rfl (Nat.le_of_ble_eq_true rfl) (rmF (by omega)) (rmL (by decide) (by omega)) (Nat.zero_le _) (Nat.zero_le _) ?_
  refine aw_iconst (v := 1) rfl (by decide) ?_
  exact aw_z1 rfl rfl ⟨rfl, _, 1, rfl, SG_em (by omega) (stp_let i h4.1)⟩
set_option maxRecDepth 4000 in
theorem lm_atB {l : Launch} {g : ag_G} {s : am_S} {n : am_N} {E : Nat} {tx : Nat → Nat} (hx : aw_hx g) (hT : CT s E tx) {w : Nat} {p : Nat} {p1 : Nat} {e : Ex} (c1 : xsp 4 (cst tx E p) = none) (c2 : (cst tx E p) = 91) (c3 : w < 6) (z1 : PZ tx E nSum (w + 1) (skw tx E p + 1) (rOk p1 e)) (d1 : (skw tx E p + 1) ≤ E → (w + 1) ≤ 6 → ∀ F K, K ≤ (skw tx E p + 1) → aw_M l g mi_X5_readsSum (6 + 3 * (6 - (w + 1))) 0 0 [.ref (g_ad g 6), .int (nI (w + 1))] (hp g (lm s (skw tx E p + 1) F K) n) (LO g s n none F K (skw tx E p + 1) (rOk p1 e))) (c4 : (cst tx E p1) = 93) (hpE : p ≤ E) (hw : w ≤ 6) : ∀ F K, K ≤ p → aw_M l g mi_X5_readsAtom (5 + 3 * (6 - w)) 0 0 [.ref (g_ad g 6), .int (nI w)] (hp g (lm s p F K) n) (LO g s n none F K p (rOk (skw tx E p1 + 1) e)) := by
  have hE := hT.2.1
  have hk := skw_b (tx := tx) hpE
  have hnx : skw tx E p + 1 ≤ E := by (have := cst_lt (tx := tx) (E := E) (p := p) (by rw [c2]; decide); omega)
  have hp1 := PZ_pr z1 (by omega)
  have hp2 : p1 ≤ E := hp1.2.1
  intro F K hK
  refine aw_M_of mo_X5_readsAtom (by decide) (Nat.le_of_ble_eq_true rfl) ?_
  refine aw_aload_n rfl rfl ?_
  refine pg_6_0 rfl kl_X5_17 ?_
  refine aw_iV (q0 := 1) (ci := 10) rfl cw_X5_38 rfl rfl rfl (c_signL hT hpE) rfl rfl (Nat.le_of_ble_eq_true rfl) (rmF (by omega)) (rmL (by decide) (by omega)) (Nat.zero_le _) (Nat.zero_le _) ?_
  refine aw_istore_n rfl (by decide) ?_
  refine aw_iload_n rfl rfl ?_
  refine aw_iconst (v := -1) rfl (by decide) ?_
  refine aw_icmp_ne (tgt := 15) rfl (by decide) (fun h10 => ?_) (fun h10 => absurd h10 (by rw [c2]; decide))
  refine aw_iload_n rfl rfl ?_
  refine aw_bipush (v := 91) rfl (by decide) ?_
  refine aw_icmp_ne (tgt := 81) rfl (by decide) (fun h18 => absurd (c2) h18) (fun h18 => ?_)
  refine aw_iload_n rfl rfl ?_
  refine aw_bipush (v := 6) rfl (by decide) ?_
  refine aw_icmp_lt (tgt := 29) rfl (by decide) (fun h24 => ?_) (fun h24 => absurd (show nI w < 6 from nI_lt (b := 6) c3 (by decide)) h24)
  refine aw_aload_n rfl rfl ?_
  refine pg_6_0 rfl kl_X5_17 ?_
  refine aw_dup rfl rfl ?_
  refine pg_1_2 rfl kl_X5_31 ?_
  refine aw_iconst (v := 1) rfl (by decide) ?_
  refine aw_iadd rfl ?_
  refine pp_1_2 rfl kl_X5_31 ?_
  refine aw_eqs (ws' := hp g (lm s ((skw tx E p) + 1) F K) n) ?_ rfl rfl (congrArg (fun z => hp g z n) lm_in)
  refine aw_aload_n rfl rfl ?_
  refine aw_iload_n rfl rfl ?_
  refine aw_iconst (v := 1) rfl (by decide) ?_
  refine aw_iadd rfl ?_
  rw [nI_1 w]
  refine aw_lK (q0 := 6) (ci := 5) rfl cw_X5_46 rfl rfl rfl (d1 (by omega) (by omega) F K (by omega)) rfl rfl (Nat.le_of_ble_eq_true rfl) (rmF (by omega)) (rmL (by decide) (by omega)) (Nat.zero_le _) (Nat.zero_le _) (fun F1 dd hS => ?_)
  refine aw_if_eq (tgt := 64) rfl (by decide) (fun h49 => absurd h49 (by decide)) (fun h49 => ?_)
  refine aw_aload_n rfl rfl ?_
  refine pg_6_0 rfl kl_X5_17 ?_
  refine aw_iV (q0 := 1) (ci := 10) rfl cw_X5_38 rfl rfl rfl (c_signL hT hp2) rfl rfl (Nat.le_of_ble_eq_true rfl) (rmF (by omega)) (rmL (by decide) (by omega)) (Nat.zero_le _) (Nat.zero_le _) ?_
  refine aw_bipush (v := 93) rfl (by decide) ?_
  refine aw_icmp_eq (tgt := 66) rfl (by decide) (fun h61 => ?_) (fun h61 => absurd (c4) h61)
  refine aw_aload_n rfl rfl ?_
  refine pg_6_0 rfl kl_X5_17 ?_
  refine aw_dup rfl rfl ?_
  refine pg_1_2 rfl kl_X5_31 ?_
  refine aw_iconst (v := 1) rfl (by decide) ?_
  refine aw_iadd rfl ?_
  refine pp_1_2 rfl kl_X5_31 ?_
  refine aw_eqs (ws' := hp g (lm s ((skw tx E p1) + 1) F1 (K + dd)) n) ?_ rfl rfl (congrArg (fun z => hp g z n) lm_in)
  refine aw_iconst (v := 1) rfl (by decide) ?_
  exact aw_z1 rfl rfl ⟨rfl, F1, dd, rfl, SG_wk hS (by omega) (by have := (skw_b (tx := tx) hp2).1; omega)⟩
set_option maxRecDepth 4000 in
theorem lm_atBc {l : Launch} {g : ag_G} {s : am_S} {n : am_N} {E : Nat} {tx : Nat → Nat} (hx : aw_hx g) (hT : CT s E tx) {w : Nat} {p : Nat} {p1 : Nat} {e : Ex} (c1 : xsp 4 (cst tx E p) = none) (c2 : (cst tx E p) = 91) (c3 : w < 6) (z1 : PZ tx E nSum (w + 1) (skw tx E p + 1) (rOk p1 e)) (d1 : (skw tx E p + 1) ≤ E → (w + 1) ≤ 6 → ∀ F K, K ≤ (skw tx E p + 1) → aw_M l g mi_X5_readsSum (6 + 3 * (6 - (w + 1))) 0 0 [.ref (g_ad g 6), .int (nI (w + 1))] (hp g (lm s (skw tx E p + 1) F K) n) (LO g s n none F K (skw tx E p + 1) (rOk p1 e))) (c4 : (cst tx E p1) ≠ 93) (hpE : p ≤ E) (hw : w ≤ 6) : ∀ F K, K ≤ p → aw_M l g mi_X5_readsAtom (5 + 3 * (6 - w)) 0 0 [.ref (g_ad g 6), .int (nI w)] (hp g (lm s p F K) n) (LO g s n none F K p (rNo (skw tx E p1))) := by
  have hE := hT.2.1
  have hk := skw_b (tx := tx) hpE
  have hnx : skw tx E p + 1 ≤ E := by (have := cst_lt (tx := tx) (E := E) (p := p) (by rw [c2]; decide); omega)
  have hp1 := PZ_pr z1 (by omega)
  have hp2 : p1 ≤ E := hp1.2.1
  intro F K hK
  refine aw_M_of mo_X5_readsAtom (by decide) (Nat.le_of_ble_eq_true rfl) ?_
  refine aw_aload_n rfl rfl ?_
  refine pg_6_0 rfl kl_X5_17 ?_
  refine aw_iV (q0 := 1) (ci := 10) rfl cw_X5_38 rfl rfl rfl (c_signL hT hpE) rfl rfl (Nat.le_of_ble_eq_true rfl) (rmF (by omega)) (rmL (by decide) (by omega)) (Nat.zero_le _) (Nat.zero_le _) ?_
  refine aw_istore_n rfl (by decide) ?_
  refine aw_iload_n rfl rfl ?_
  refine aw_iconst (v := -1) rfl (by decide) ?_
  refine aw_icmp_ne (tgt := 15) rfl (by decide) (fun h10 => ?_) (fun h10 => absurd h10 (by rw [c2]; decide))
  refine aw_iload_n rfl rfl ?_
  refine aw_bipush (v := 91) rfl (by decide) ?_
  refine aw_icmp_ne (tgt := 81) rfl (by decide) (fun h18 => absurd (c2) h18) (fun h18 => ?_)
  refine aw_iload_n rfl rfl ?_
  refine aw_bipush (v := 6) rfl (by decide) ?_
  refine aw_icmp_lt (tgt := 29) rfl (by decide) (fun h24 => ?_) (fun h24 => absurd (show nI w < 6 from nI_lt (b := 6) c3 (by decide)) h24)
  refine aw_aload_n rfl rfl ?_
  refine pg_6_0 rfl kl_X5_17 ?_
  refine aw_dup rfl rfl ?_
  refine pg_1_2 rfl kl_X5_31 ?_
  refine aw_iconst (v := 1) rfl (by decide) ?_
  refine aw_iadd rfl ?_
  refine pp_1_2 rfl kl_X5_31 ?_
  refine aw_eqs (ws' := hp g (lm s ((skw tx E p) + 1) F K) n) ?_ rfl rfl (congrArg (fun z => hp g z n) lm_in)
  refine aw_aload_n rfl rfl ?_
  refine aw_iload_n rfl rfl ?_
  refine aw_iconst (v := 1) rfl (by decide) ?_
  refine aw_iadd rfl ?_
  rw [nI_1 w]
  refine aw_lK (q0 := 6) (ci := 5) rfl cw_X5_46 rfl rfl rfl (d1 (by omega) (by omega) F K (by omega)) rfl rfl (Nat.le_of_ble_eq_true rfl) (rmF (by omega)) (rmL (by decide) (by omega)) (Nat.zero_le _) (Nat.zero_le _) (fun F1 dd hS => ?_)
  refine aw_if_eq (tgt := 64) rfl (by decide) (fun h49 => absurd h49 (by decide)) (fun h49 => ?_)
  refine aw_aload_n rfl rfl ?_
  refine pg_6_0 rfl kl_X5_17 ?_
  refine aw_iV (q0 := 1) (ci := 10) rfl cw_X5_38 rfl rfl rfl (c_signL hT hp2) rfl rfl (Nat.le_of_ble_eq_true rfl) (rmF (by omega)) (rmL (by decide) (by omega)) (Nat.zero_le _) (Nat.zero_le _) ?_
  refine aw_bipush (v := 93) rfl (by decide) ?_
  refine aw_icmp_eq (tgt := 66) rfl (by decide) (fun h61 => absurd h61 (c4)) (fun h61 => ?_)
  refine aw_iconst (v := 0) rfl (by decide) ?_
  exact aw_z0 rfl rfl ⟨rfl, _, _, rfl⟩
set_option maxRecDepth 4000 in
theorem lm_atBf {l : Launch} {g : ag_G} {s : am_S} {n : am_N} {E : Nat} {tx : Nat → Nat} (hx : aw_hx g) (hT : CT s E tx) {w : Nat} {p : Nat} {f : Nat} (c1 : xsp 4 (cst tx E p) = none) (c2 : (cst tx E p) = 91) (c3 : w < 6) (z1 : PZ tx E nSum (w + 1) (skw tx E p + 1) (rNo f)) (d1 : (skw tx E p + 1) ≤ E → (w + 1) ≤ 6 → ∀ F K, K ≤ (skw tx E p + 1) → aw_M l g mi_X5_readsSum (6 + 3 * (6 - (w + 1))) 0 0 [.ref (g_ad g 6), .int (nI (w + 1))] (hp g (lm s (skw tx E p + 1) F K) n) (LO g s n none F K (skw tx E p + 1) (rNo f))) (hpE : p ≤ E) (hw : w ≤ 6) : ∀ F K, K ≤ p → aw_M l g mi_X5_readsAtom (5 + 3 * (6 - w)) 0 0 [.ref (g_ad g 6), .int (nI w)] (hp g (lm s p F K) n) (LO g s n none F K p (rNo f)) := by
  have hE := hT.2.1
  have hk := skw_b (tx := tx) hpE
  have hnx : skw tx E p + 1 ≤ E := by (have := cst_lt (tx := tx) (E := E) (p := p) (by rw [c2]; decide); omega)
  intro F K hK
  refine aw_M_of mo_X5_readsAtom (by decide) (Nat.le_of_ble_eq_true rfl) ?_
  refine aw_aload_n rfl rfl ?_
  refine pg_6_0 rfl kl_X5_17 ?_
  refine aw_iV (q0 := 1) (ci := 10) rfl cw_X5_38 rfl rfl rfl (c_signL hT hpE) rfl rfl (Nat.le_of_ble_eq_true rfl) (rmF (by omega)) (rmL (by decide) (by omega)) (Nat.zero_le _) (Nat.zero_le _) ?_
  refine aw_istore_n rfl (by decide) ?_
  refine aw_iload_n rfl rfl ?_
  refine aw_iconst (v := -1) rfl (by decide) ?_
  refine aw_icmp_ne (tgt := 15) rfl (by decide) (fun h10 => ?_) (fun h10 => absurd h10 (by rw [c2]; decide))
  refine aw_iload_n rfl rfl ?_
  refine aw_bipush (v := 91) rfl (by decide) ?_
  refine aw_icmp_ne (tgt := 81) rfl (by decide) (fun h18 => absurd (c2) h18) (fun h18 => ?_)
  refine aw_iload_n rfl rfl ?_
  refine aw_bipush (v := 6) rfl (by decide) ?_
  refine aw_icmp_lt (tgt := 29) rfl (by decide) (fun h24 => ?_) (fun h24 => absurd (show nI w < 6 from nI_lt (b := 6) c3 (by decide)) h24)
  refine aw_aload_n rfl rfl ?_
  refine pg_6_0 rfl kl_X5_17 ?_
  refine aw_dup rfl rfl ?_
  refine pg_1_2 rfl kl_X5_31 ?_
  refine aw_iconst (v := 1) rfl (by decide) ?_
  refine aw_iadd rfl ?_
  refine pp_1_2 rfl kl_X5_31 ?_
  refine aw_eqs (ws' := hp g (lm s ((skw tx E p) + 1) F K) n) ?_ rfl rfl (congrArg (fun z => hp g z n) lm_in)
  refine aw_aload_n rfl rfl ?_
  refine aw_iload_n rfl rfl ?_
  refine aw_iconst (v := 1) rfl (by decide) ?_
  refine aw_iadd rfl ?_
  rw [nI_1 w]
  refine aw_lN (q0 := 6) (ci := 5) rfl cw_X5_46 rfl rfl rfl (d1 (by omega) (by omega) F K (by omega)) rfl rfl (Nat.le_of_ble_eq_true rfl) (rmF (by omega)) (rmL (by decide) (by omega)) (Nat.zero_le _) (Nat.zero_le _) (fun F1 K1 => ?_)
  refine aw_if_eq (tgt := 64) rfl (by decide) (fun h49 => ?_) (fun h49 => absurd (rfl) h49)
  refine aw_iconst (v := 0) rfl (by decide) ?_
  exact aw_z0 rfl rfl ⟨rfl, _, _, rfl⟩
set_option maxRecDepth 4000 in
theorem lm_atB6 {l : Launch} {g : ag_G} {s : am_S} {n : am_N} {E : Nat} {tx : Nat → Nat} (hx : aw_hx g) (hT : CT s E tx) {p : Nat} (c1 : xsp 4 (cst tx E p) = none) (c2 : (cst tx E p) = 91) (hpE : p ≤ E) (hw : 6 ≤ 6) : ∀ F K, K ≤ p → aw_M l g mi_X5_readsAtom (5 + 3 * (6 - 6)) 0 0 [.ref (g_ad g 6), .int (nI 6)] (hp g (lm s p F K) n) (LO g s n none F K p (rNo (skw tx E p))) := by
  have hE := hT.2.1
  have hk := skw_b (tx := tx) hpE
  intro F K hK
  refine aw_M_of mo_X5_readsAtom (by decide) (Nat.le_of_ble_eq_true rfl) ?_
  refine aw_aload_n rfl rfl ?_
  refine pg_6_0 rfl kl_X5_17 ?_
  refine aw_iV (q0 := 1) (ci := 10) rfl cw_X5_38 rfl rfl rfl (c_signL hT hpE) rfl rfl (Nat.le_of_ble_eq_true rfl) (rmF (by omega)) (rmL (by decide) (by omega)) (Nat.zero_le _) (Nat.zero_le _) ?_
  refine aw_istore_n rfl (by decide) ?_
  refine aw_iload_n rfl rfl ?_
  refine aw_iconst (v := -1) rfl (by decide) ?_
  refine aw_icmp_ne (tgt := 15) rfl (by decide) (fun h10 => ?_) (fun h10 => absurd h10 (by rw [c2]; decide))
  refine aw_iload_n rfl rfl ?_
  refine aw_bipush (v := 91) rfl (by decide) ?_
  refine aw_icmp_ne (tgt := 81) rfl (by decide) (fun h18 => absurd (c2) h18) (fun h18 => ?_)
  refine aw_iload_n rfl rfl ?_
  refine aw_bipush (v := 6) rfl (by decide) ?_
  refine aw_icmp_lt (tgt := 29) rfl (by decide) (fun h24 => absurd h24 (by decide)) (fun h24 => ?_)
  refine aw_iconst (v := 0) rfl (by decide) ?_
  exact aw_z0 rfl rfl ⟨rfl, _, _, rfl⟩
set_option maxRecDepth 4000 in
theorem lm_atN {l : Launch} {g : ag_G} {s : am_S} {n : am_N} {E : Nat} {tx : Nat → Nat} (hx : aw_hx g) (hT : CT s E tx) {w : Nat} {p : Nat} {q : Nat} {m0 : Nat} (c1 : xsp 4 (cst tx E p) = none) (c2 : (cst tx E p) ≠ 91) (c3 : dg tx E (skw tx E p) = true) (c4 : nmD tx E 4 (skw tx E p) 0 = (true, q, m0)) (hpE : p ≤ E) (hw : w ≤ 6) : ∀ F K, K ≤ p → aw_M l g mi_X5_readsAtom (5 + 3 * (6 - w)) 0 0 [.ref (g_ad g 6), .int (nI w)] (hp g (lm s p F K) n) (LO g s n none F K p (rOk q (fun _ => nI m0))) := by
  have hE := hT.2.1
  have hk := skw_b (tx := tx) hpE
  obtain ⟨q0, hq, hcq⟩ := dg_cst c3
  have hxi : xix 4 (nI q0) = -1 := by (rw [x4_on _ hq, ← hcq, c1]; rfl)
  have hdc := dg_c c3
  have hv : m0 < 10000 := by (have := nmD_v (tx := tx) (E := E) 4 0 (skw tx E p) 0 (by omega) (by decide); rw [c4] at this; exact this)
  have hR : nmb (s 2) 4 9999 (E - skw tx E p) (skw tx E p) 0 0 = (nI m0, q) := by (rw [nmb_0t hT c3, c4]; rfl)
  have hqb : skw tx E p + 1 ≤ q := by (have := nmD_b (tx := tx) (E := E) 3 (skw tx E p + 1) (10 * 0 + (tx (skw tx E p) - 48)) (by omega); rw [← nmD_st c3, c4] at this; exact this.1)
  intro F K hK
  refine aw_M_of mo_X5_readsAtom (by decide) (Nat.le_of_ble_eq_true rfl) ?_
  refine aw_aload_n rfl rfl ?_
  refine pg_6_0 rfl kl_X5_17 ?_
  refine aw_iV (q0 := 1) (ci := 10) rfl cw_X5_38 rfl rfl rfl (c_signL hT hpE) rfl rfl (Nat.le_of_ble_eq_true rfl) (rmF (by omega)) (rmL (by decide) (by omega)) (Nat.zero_le _) (Nat.zero_le _) ?_
  refine aw_istore_n rfl (by decide) ?_
  refine aw_iload_n rfl rfl ?_
  refine aw_iconst (v := -1) rfl (by decide) ?_
  refine aw_icmp_ne (tgt := 15) rfl (by decide) (fun h10 => ?_) (fun h10 => absurd h10 (by rw [hcq]; exact nI_m1n (by omega)))
  refine aw_iload_n rfl rfl ?_
  refine aw_bipush (v := 91) rfl (by decide) ?_
  refine aw_icmp_ne (tgt := 81) rfl (by decide) (fun h18 => ?_) (fun h18 => absurd h18 (c2))
  refine aw_ldcS rfl (xr_X5_74 hx) ?_
  refine aw_iload_n rfl rfl ?_
  refine aw_i2c rfl ?_
  rw [show ((cst tx E p).toUInt32 % 65536).toInt32 = nI q0 from by (rw [hcq]; exact i2c_nI hq)]
  refine aw_iX rfl cw_X5_76 (xs_recv hx (i := 4) (by decide)) (c_indexOf hx (i := 4) (by decide) hq) rfl rfl (Nat.le_of_ble_eq_true rfl) (rmF (by omega)) (rmL (by decide) (by omega)) (Nat.zero_le _) (Nat.zero_le _) ?_
  rw [hxi]
  refine aw_istore_n rfl (by decide) ?_
  refine aw_iload_n rfl rfl ?_
  refine aw_if_lt (tgt := 117) rfl (by decide) (fun h90 => ?_) (fun h90 => absurd (by decide) h90)
  refine aw_aload_n rfl rfl ?_
  refine pg_6_0 rfl kl_X5_17 ?_
  refine aw_iconst (v := 4) rfl (by decide) ?_
  refine aw_sipush (v := 9999) rfl (by decide) ?_
  refine aw_iV (q0 := 1) (ci := 10) rfl cw_X5_82 rfl rfl rfl (c_numL hT hk.2.1 hR) rfl rfl (Nat.le_of_ble_eq_true rfl) (rmF (by omega)) (rmL (by decide) (by omega)) (Nat.zero_le _) (Nat.zero_le _) ?_
  refine aw_istore rfl (by decide) ?_
  refine aw_iload rfl rfl ?_
  refine aw_iconst (v := -1) rfl (by decide) ?_
  refine aw_icmp_ne (tgt := 138) rfl (by decide) (fun h133 => ?_) (fun h133 => absurd h133 (nI_m1n hv))
  refine aw_aload_n rfl rfl ?_
  refine aw_iload rfl rfl ?_
  refine aw_vV (q0 := 6) (ci := 5) rfl cw_X5_52 rfl rfl rfl (c_emitL (by omega)) rfl rfl (Nat.le_of_ble_eq_true rfl) (rmF (by omega)) (rmL (by decide) (by omega)) (Nat.zero_le _) (Nat.zero_le _) ?_
  refine aw_iconst (v := 1) rfl (by decide) ?_
  exact aw_z1 rfl rfl ⟨rfl, _, 1, rfl, SG_em (by omega) (stp_num hv)⟩
set_option maxRecDepth 4000 in
theorem lm_atN5 {l : Launch} {g : ag_G} {s : am_S} {n : am_N} {E : Nat} {tx : Nat → Nat} (hx : aw_hx g) (hT : CT s E tx) {w : Nat} {p : Nat} {q : Nat} {m0 : Nat} (c1 : xsp 4 (cst tx E p) = none) (c2 : (cst tx E p) ≠ 91) (c3 : dg tx E (skw tx E p) = true) (c4 : nmD tx E 4 (skw tx E p) 0 = (false, q, m0)) (hpE : p ≤ E) (hw : w ≤ 6) : ∀ F K, K ≤ p → aw_M l g mi_X5_readsAtom (5 + 3 * (6 - w)) 0 0 [.ref (g_ad g 6), .int (nI w)] (hp g (lm s p F K) n) (LO g s n none F K p (rNo q)) := by
  have hE := hT.2.1
  have hk := skw_b (tx := tx) hpE
  obtain ⟨q0, hq, hcq⟩ := dg_cst c3
  have hxi : xix 4 (nI q0) = -1 := by (rw [x4_on _ hq, ← hcq, c1]; rfl)
  have hR : nmb (s 2) 4 9999 (E - skw tx E p) (skw tx E p) 0 0 = (-1, q) := by (rw [nmb_0t hT c3, c4]; rfl)
  intro F K hK
  refine aw_M_of mo_X5_readsAtom (by decide) (Nat.le_of_ble_eq_true rfl) ?_
  refine aw_aload_n rfl rfl ?_
  refine pg_6_0 rfl kl_X5_17 ?_
  refine aw_iV (q0 := 1) (ci := 10) rfl cw_X5_38 rfl rfl rfl (c_signL hT hpE) rfl rfl (Nat.le_of_ble_eq_true rfl) (rmF (by omega)) (rmL (by decide) (by omega)) (Nat.zero_le _) (Nat.zero_le _) ?_
  refine aw_istore_n rfl (by decide) ?_
  refine aw_iload_n rfl rfl ?_
  refine aw_iconst (v := -1) rfl (by decide) ?_
  refine aw_icmp_ne (tgt := 15) rfl (by decide) (fun h10 => ?_) (fun h10 => absurd h10 (by rw [hcq]; exact nI_m1n (by omega)))
  refine aw_iload_n rfl rfl ?_
  refine aw_bipush (v := 91) rfl (by decide) ?_
  refine aw_icmp_ne (tgt := 81) rfl (by decide) (fun h18 => ?_) (fun h18 => absurd h18 (c2))
  refine aw_ldcS rfl (xr_X5_74 hx) ?_
  refine aw_iload_n rfl rfl ?_
  refine aw_i2c rfl ?_
  rw [show ((cst tx E p).toUInt32 % 65536).toInt32 = nI q0 from by (rw [hcq]; exact i2c_nI hq)]
  refine aw_iX rfl cw_X5_76 (xs_recv hx (i := 4) (by decide)) (c_indexOf hx (i := 4) (by decide) hq) rfl rfl (Nat.le_of_ble_eq_true rfl) (rmF (by omega)) (rmL (by decide) (by omega)) (Nat.zero_le _) (Nat.zero_le _) ?_
  rw [hxi]
  refine aw_istore_n rfl (by decide) ?_
  refine aw_iload_n rfl rfl ?_
  refine aw_if_lt (tgt := 117) rfl (by decide) (fun h90 => ?_) (fun h90 => absurd (by decide) h90)
  refine aw_aload_n rfl rfl ?_
  refine pg_6_0 rfl kl_X5_17 ?_
  refine aw_iconst (v := 4) rfl (by decide) ?_
  refine aw_sipush (v := 9999) rfl (by decide) ?_
  refine aw_iV (q0 := 1) (ci := 10) rfl cw_X5_82 rfl rfl rfl (c_numL hT hk.2.1 hR) rfl rfl (Nat.le_of_ble_eq_true rfl) (rmF (by omega)) (rmL (by decide) (by omega)) (Nat.zero_le _) (Nat.zero_le _) ?_
  refine aw_istore rfl (by decide) ?_
  refine aw_iload rfl rfl ?_
  refine aw_iconst (v := -1) rfl (by decide) ?_
  refine aw_icmp_ne (tgt := 138) rfl (by decide) (fun h133 => absurd (rfl) h133) (fun h133 => ?_)
  refine aw_iconst (v := 0) rfl (by decide) ?_
  exact aw_z0 rfl rfl ⟨rfl, _, _, rfl⟩
set_option maxRecDepth 4000 in
theorem lm_atN0 {l : Launch} {g : ag_G} {s : am_S} {n : am_N} {E : Nat} {tx : Nat → Nat} (hx : aw_hx g) (hT : CT s E tx) {w : Nat} {p : Nat} (c1 : xsp 4 (cst tx E p) = none) (c2 : (cst tx E p) ≠ 91) (c3 : dg tx E (skw tx E p) = false) (hpE : p ≤ E) (hw : w ≤ 6) : ∀ F K, K ≤ p → aw_M l g mi_X5_readsAtom (5 + 3 * (6 - w)) 0 0 [.ref (g_ad g 6), .int (nI w)] (hp g (lm s p F K) n) (LO g s n none F K p (rNo (skw tx E p))) := by
  have hE := hT.2.1
  have hk := skw_b (tx := tx) hpE
  have hR : nmb (s 2) 4 9999 (E - skw tx E p) (skw tx E p) 0 0 = (-1, skw tx E p) := nmb_0f hT c3
  intro F K hK
  rcases CT_c hT (p := p) with hcq | ⟨q0, -, hq, hcq⟩
  · skip
    refine aw_M_of mo_X5_readsAtom (by decide) (Nat.le_of_ble_eq_true rfl) ?_
    refine aw_aload_n rfl rfl ?_
    refine pg_6_0 rfl kl_X5_17 ?_
    refine aw_iV (q0 := 1) (ci := 10) rfl cw_X5_38 rfl rfl rfl (c_signL hT hpE) rfl rfl (Nat.le_of_ble_eq_true rfl) (rmF (by omega)) (rmL (by decide) (by omega)) (Nat.zero_le _) (Nat.zero_le _) ?_
    refine aw_istore_n rfl (by decide) ?_
    refine aw_iload_n rfl rfl ?_
    refine aw_iconst (v := -1) rfl (by decide) ?_
    refine aw_icmp_ne (tgt := 15) rfl (by decide) (fun h10 => absurd (hcq) h10) (fun h10 => ?_)
    refine aw_iconst (v := 0) rfl (by decide) ?_
    exact aw_z0 rfl rfl ⟨rfl, _, _, rfl⟩
  · skip
    have hxi : xix 4 (nI q0) = -1 := by (rw [x4_on _ hq, ← hcq, c1]; rfl)
    refine aw_M_of mo_X5_readsAtom (by decide) (Nat.le_of_ble_eq_true rfl) ?_
    refine aw_aload_n rfl rfl ?_
    refine pg_6_0 rfl kl_X5_17 ?_
    refine aw_iV (q0 := 1) (ci := 10) rfl cw_X5_38 rfl rfl rfl (c_signL hT hpE) rfl rfl (Nat.le_of_ble_eq_true rfl) (rmF (by omega)) (rmL (by decide) (by omega)) (Nat.zero_le _) (Nat.zero_le _) ?_
    refine aw_istore_n rfl (by decide) ?_
    refine aw_iload_n rfl rfl ?_
    refine aw_iconst (v := -1) rfl (by decide) ?_
    refine aw_icmp_ne (tgt := 15) rfl (by decide) (fun h10 => ?_) (fun h10 => absurd h10 (by rw [hcq]; exact nI_m1n (by omega)))
    refine aw_iload_n rfl rfl ?_
    refine aw_bipush (v := 91) rfl (by decide) ?_
    refine aw_icmp_ne (tgt := 81) rfl (by decide) (fun h18 => ?_) (fun h18 => absurd h18 (c2))
    refine aw_ldcS rfl (xr_X5_74 hx) ?_
    refine aw_iload_n rfl rfl ?_
    refine aw_i2c rfl ?_
    rw [show ((cst tx E p).toUInt32 % 65536).toInt32 = nI q0 from by (rw [hcq]; exact i2c_nI hq)]
    refine aw_iX rfl cw_X5_76 (xs_recv hx (i := 4) (by decide)) (c_indexOf hx (i := 4) (by decide) hq) rfl rfl (Nat.le_of_ble_eq_true rfl) (rmF (by omega)) (rmL (by decide) (by omega)) (Nat.zero_le _) (Nat.zero_le _) ?_
    rw [hxi]
    refine aw_istore_n rfl (by decide) ?_
    refine aw_iload_n rfl rfl ?_
    refine aw_if_lt (tgt := 117) rfl (by decide) (fun h90 => ?_) (fun h90 => absurd (by decide) h90)
    refine aw_aload_n rfl rfl ?_
    refine pg_6_0 rfl kl_X5_17 ?_
    refine aw_iconst (v := 4) rfl (by decide) ?_
    refine aw_sipush (v := 9999) rfl (by decide) ?_
    refine aw_iV (q0 := 1) (ci := 10) rfl cw_X5_82 rfl rfl rfl (c_numL hT hk.2.1 hR) rfl rfl (Nat.le_of_ble_eq_true rfl) (rmF (by omega)) (rmL (by decide) (by omega)) (Nat.zero_le _) (Nat.zero_le _) ?_
    refine aw_istore rfl (by decide) ?_
    refine aw_iload rfl rfl ?_
    refine aw_iconst (v := -1) rfl (by decide) ?_
    refine aw_icmp_ne (tgt := 138) rfl (by decide) (fun h133 => absurd (rfl) h133) (fun h133 => ?_)
    refine aw_iconst (v := 0) rfl (by decide) ?_
    exact aw_z0 rfl rfl ⟨rfl, _, _, rfl⟩
set_option maxRecDepth 4000 in
theorem lm_te {l : Launch} {g : ag_G} {s : am_S} {n : am_N} {E : Nat} {tx : Nat → Nat} (hx : aw_hx g) (hT : CT s E tx) {w : Nat} {p : Nat} {p1 : Nat} {a : Ex} {r : Rs} (z1 : PZ tx E nAtom w p (rOk p1 a)) (d1 : p ≤ E → w ≤ 6 → ∀ F K, K ≤ p → aw_M l g mi_X5_readsAtom (5 + 3 * (6 - w)) 0 0 [.ref (g_ad g 6), .int (nI w)] (hp g (lm s p F K) n) (LO g s n none F K p (rOk p1 a))) (z2 : PZ tx E (nTl a) w p1 r) (d2 : p1 ≤ E → w ≤ 6 → ∀ F K t (pl : Int32) Q, K ≤ p1 → 2 * t + 1 ≤ p1 → TS l g s n w (some a) F K p1 pl Q r → aw_W l g mi_X5_readsSum (aw_rm (6 + 3 * (6 - w)) 0 0) (aw_Z g Q 0 0) 0 0 (hp g (lm s p1 F K) n) 39 [some (.ref (g_ad g 6)), some (.int (nI w)), none, some (.int pl), some (.int (nI t))] []) (hpE : p ≤ E) (hw : w ≤ 6) : ∀ F K t (pl : Int32) Q, K ≤ p → 2 * t ≤ p → TS l g s n w none F K p pl Q r → aw_W l g mi_X5_readsSum (aw_rm (6 + 3 * (6 - w)) 0 0) (aw_Z g Q 0 0) 0 0 (hp g (lm s p F K) n) 7 [some (.ref (g_ad g 6)), some (.int (nI w)), some (.int (-1)), some (.int pl), some (.int (nI t))] [] := by
  have hE := hT.2.1
  have hk := skw_b (tx := tx) hpE
  have hp1 := PZ_pr z1 hpE
  have hp2 : p1 ≤ E := hp1.2.1
  have hp3 := hp1.2.2 rfl
  intro F K t pl Q hK ht hTS
  refine aw_iload rfl rfl ?_
  refine aw_sipush (v := 240) rfl (by decide) ?_
  refine aw_icmp_ge (tgt := 91) rfl (by decide) (fun h12 => absurd h12 (nI_ge (a := t) (b := 240) (by omega) (by decide))) (fun h12 => ?_)
  refine aw_aload_n rfl rfl ?_
  refine aw_iload_n rfl rfl ?_
  refine aw_lK (q0 := 6) (ci := 5) rfl cw_X5_63 rfl rfl rfl (d1 hpE hw F K hK) rfl rfl (Nat.le_of_ble_eq_true rfl) (rmF (by omega)) (rmL (by decide) (by omega)) (Nat.zero_le _) (Nat.zero_le _) (fun F1 dd hS => ?_)
  refine aw_if_ne (tgt := 25) rfl (by decide) (fun h20 => ?_) (fun h20 => absurd h20 (by decide))
  have hg := hS.1
  refine aw_iload_n rfl rfl ?_
  refine aw_iconst (v := -1) rfl (by decide) ?_
  refine aw_icmp_eq (tgt := 39) rfl (by decide) (fun h27 => ?_) (fun h27 => absurd (rfl) h27)
  exact aw_wk (d2 hp2 hw F1 (K + dd) t pl Q (by omega) (by omega) (TS_tr hS r hTS)) (And.intro rfl (And.intro rfl (And.intro rfl (And.intro rfl True.intro))))
set_option maxRecDepth 4000 in
theorem lm_tef {l : Launch} {g : ag_G} {s : am_S} {n : am_N} {E : Nat} {tx : Nat → Nat} (hx : aw_hx g) (hT : CT s E tx) {w : Nat} {p : Nat} {f : Nat} (z1 : PZ tx E nAtom w p (rNo f)) (d1 : p ≤ E → w ≤ 6 → ∀ F K, K ≤ p → aw_M l g mi_X5_readsAtom (5 + 3 * (6 - w)) 0 0 [.ref (g_ad g 6), .int (nI w)] (hp g (lm s p F K) n) (LO g s n none F K p (rNo f))) (hpE : p ≤ E) (hw : w ≤ 6) : ∀ F K t (pl : Int32) Q, K ≤ p → 2 * t ≤ p → TS l g s n w none F K p pl Q (rNo f) → aw_W l g mi_X5_readsSum (aw_rm (6 + 3 * (6 - w)) 0 0) (aw_Z g Q 0 0) 0 0 (hp g (lm s p F K) n) 7 [some (.ref (g_ad g 6)), some (.int (nI w)), some (.int (-1)), some (.int pl), some (.int (nI t))] [] := by
  have hE := hT.2.1
  have hk := skw_b (tx := tx) hpE
  intro F K t pl Q hK ht hTS
  refine aw_iload rfl rfl ?_
  refine aw_sipush (v := 240) rfl (by decide) ?_
  refine aw_icmp_ge (tgt := 91) rfl (by decide) (fun h12 => absurd h12 (nI_ge (a := t) (b := 240) (by omega) (by decide))) (fun h12 => ?_)
  refine aw_aload_n rfl rfl ?_
  refine aw_iload_n rfl rfl ?_
  refine aw_lN (q0 := 6) (ci := 5) rfl cw_X5_63 rfl rfl rfl (d1 hpE hw F K hK) rfl rfl (Nat.le_of_ble_eq_true rfl) (rmF (by omega)) (rmL (by decide) (by omega)) (Nat.zero_le _) (Nat.zero_le _) (fun F1 K1 => ?_)
  refine aw_if_ne (tgt := 25) rfl (by decide) (fun h20 => absurd (rfl) h20) (fun h20 => ?_)
  refine aw_iconst (v := 0) rfl (by decide) ?_
  exact aw_z0 rfl rfl (hTS F1 K1)
set_option maxRecDepth 4000 in
theorem lm_tlS {l : Launch} {g : ag_G} {s : am_S} {n : am_N} {E : Nat} {tx : Nat → Nat} (hx : aw_hx g) (hT : CT s E tx) {w : Nat} {p : Nat} {v : Ex} (c1 : (cst tx E p) ≠ 42) (c2 : (cst tx E p) ≠ 47) (hpE : p ≤ E) (hw : w ≤ 6) : ∀ F K t (pl : Int32) Q, K ≤ p → 2 * t + 1 ≤ p → TS l g s n w (some v) F K p pl Q (rOk (skw tx E p) v) → aw_W l g mi_X5_readsSum (aw_rm (6 + 3 * (6 - w)) 0 0) (aw_Z g Q 0 0) 0 0 (hp g (lm s p F K) n) 39 [some (.ref (g_ad g 6)), some (.int (nI w)), none, some (.int pl), some (.int (nI t))] [] := by
  have hE := hT.2.1
  have hk := skw_b (tx := tx) hpE
  intro F K t pl Q hK ht hTS
  refine aw_aload_n rfl rfl ?_
  refine pg_6_0 rfl kl_X5_17 ?_
  refine aw_ldcS rfl (xr_X5_66 hx) ?_
  refine aw_iV (q0 := 1) (ci := 10) rfl cw_X5_68 rfl rfl rfl (c_oneX (i := 5) hx (by decide) hT hpE (c5_no hT c1 c2)) rfl rfl (Nat.le_of_ble_eq_true rfl) (rmF (by omega)) (rmL (by decide) (by omega)) (Nat.zero_le _) (Nat.zero_le _) ?_
  refine aw_istore_n rfl (by decide) ?_
  refine aw_iload_n rfl rfl ?_
  refine aw_iconst (v := -1) rfl (by decide) ?_
  refine aw_icmp_ne (tgt := 85) rfl (by decide) (fun h51 => absurd (rfl) h51) (fun h51 => ?_)
  exact aw_wk (hTS F 0 t (SG_0 hk.1) (by omega)) (And.intro rfl (And.intro rfl (And.intro rfl (And.intro rfl (And.intro rfl True.intro)))))
set_option maxRecDepth 4000 in
theorem lm_tlM {l : Launch} {g : ag_G} {s : am_S} {n : am_N} {E : Nat} {tx : Nat → Nat} (hx : aw_hx g) (hT : CT s E tx) {w : Nat} {p : Nat} {p1 : Nat} {v : Ex} {a : Ex} {r : Rs} (c1 : (cst tx E p) = 42) (z1 : PZ tx E nAtom w (skw tx E p + 1) (rOk p1 a)) (d1 : (skw tx E p + 1) ≤ E → w ≤ 6 → ∀ F K, K ≤ (skw tx E p + 1) → aw_M l g mi_X5_readsAtom (5 + 3 * (6 - w)) 0 0 [.ref (g_ad g 6), .int (nI w)] (hp g (lm s (skw tx E p + 1) F K) n) (LO g s n none F K (skw tx E p + 1) (rOk p1 a))) (z2 : PZ tx E (nTl (eMul v a)) w p1 r) (d2 : p1 ≤ E → w ≤ 6 → ∀ F K t (pl : Int32) Q, K ≤ p1 → 2 * t + 1 ≤ p1 → TS l g s n w (some (eMul v a)) F K p1 pl Q r → aw_W l g mi_X5_readsSum (aw_rm (6 + 3 * (6 - w)) 0 0) (aw_Z g Q 0 0) 0 0 (hp g (lm s p1 F K) n) 39 [some (.ref (g_ad g 6)), some (.int (nI w)), none, some (.int pl), some (.int (nI t))] []) (hpE : p ≤ E) (hw : w ≤ 6) : ∀ F K t (pl : Int32) Q, K ≤ p → 2 * t + 1 ≤ p → TS l g s n w (some v) F K p pl Q r → aw_W l g mi_X5_readsSum (aw_rm (6 + 3 * (6 - w)) 0 0) (aw_Z g Q 0 0) 0 0 (hp g (lm s p F K) n) 39 [some (.ref (g_ad g 6)), some (.int (nI w)), none, some (.int pl), some (.int (nI t))] [] := by
  have hE := hT.2.1
  have hk := skw_b (tx := tx) hpE
  have hnx : skw tx E p + 1 ≤ E := by (have := cst_lt (tx := tx) (E := E) (p := p) (by rw [c1]; decide); omega)
  have hp1 := PZ_pr z1 (by omega)
  have hp2 : p1 ≤ E := hp1.2.1
  have hp3 := hp1.2.2 rfl
  intro F K t pl Q hK ht hTS
  refine aw_aload_n rfl rfl ?_
  refine pg_6_0 rfl kl_X5_17 ?_
  refine aw_ldcS rfl (xr_X5_66 hx) ?_
  refine aw_iV (q0 := 1) (ci := 10) rfl cw_X5_68 rfl rfl rfl (c_oneY (i := 5) hx (by decide) hT hpE (by rw [c1]; decide) (by rw [c1]; decide)) rfl rfl (Nat.le_of_ble_eq_true rfl) (rmF (by omega)) (rmL (by decide) (by omega)) (Nat.zero_le _) (Nat.zero_le _) ?_
  rw [c1]
  refine aw_istore_n rfl (by decide) ?_
  refine aw_iload_n rfl rfl ?_
  refine aw_iconst (v := -1) rfl (by decide) ?_
  refine aw_icmp_ne (tgt := 85) rfl (by decide) (fun h51 => ?_) (fun h51 => absurd h51 (by decide))
  refine aw_inc1 rfl rfl (by decide) ?_
  refine aw_goto (tgt := 7) rfl (by decide) ?_
  refine aw_iload rfl rfl ?_
  refine aw_sipush (v := 240) rfl (by decide) ?_
  refine aw_icmp_ge (tgt := 91) rfl (by decide) (fun h12 => absurd h12 (by rw [nI_1]; exact nI_ge (a := t + 1) (b := 240) (by omega) (by decide))) (fun h12 => ?_)
  refine aw_aload_n rfl rfl ?_
  refine aw_iload_n rfl rfl ?_
  refine aw_lK (q0 := 6) (ci := 5) rfl cw_X5_63 rfl rfl rfl (d1 (by omega) hw F K (by omega)) rfl rfl (Nat.le_of_ble_eq_true rfl) (rmF (by omega)) (rmL (by decide) (by omega)) (Nat.zero_le _) (Nat.zero_le _) (fun F1 dd hS => ?_)
  refine aw_if_ne (tgt := 25) rfl (by decide) (fun h20 => ?_) (fun h20 => absurd h20 (by decide))
  have hg := hS.1
  refine aw_iload_n rfl rfl ?_
  refine aw_iconst (v := -1) rfl (by decide) ?_
  refine aw_icmp_eq (tgt := 39) rfl (by decide) (fun h27 => absurd h27 (by decide)) (fun h27 => ?_)
  refine aw_aload_n rfl rfl ?_
  refine aw_sipush (v := 20000) rfl (by decide) ?_
  refine aw_iload_n rfl rfl ?_
  refine aw_iadd rfl ?_
  refine aw_vV (q0 := 6) (ci := 5) rfl cw_X5_52 rfl rfl rfl (c_emitL (by omega)) rfl rfl (Nat.le_of_ble_eq_true rfl) (rmF (by omega)) (rmL (by decide) (by omega)) (Nat.zero_le _) (Nat.zero_le _) ?_
  exact aw_wk (d2 hp2 hw _ (K + (dd + 1)) (t + 1) pl Q (by omega) (by omega) (TS_tr (SG_bin hS (by omega) stp_mul) r hTS)) (And.intro rfl (And.intro rfl (And.intro rfl (And.intro (congrArg (fun x => some (Value.int x)) (nI_1 t)) True.intro))))
set_option maxRecDepth 4000 in
theorem lm_tlD {l : Launch} {g : ag_G} {s : am_S} {n : am_N} {E : Nat} {tx : Nat → Nat} (hx : aw_hx g) (hT : CT s E tx) {w : Nat} {p : Nat} {p1 : Nat} {v : Ex} {a : Ex} {r : Rs} (c1 : (cst tx E p) = 47) (z1 : PZ tx E nAtom w (skw tx E p + 1) (rOk p1 a)) (d1 : (skw tx E p + 1) ≤ E → w ≤ 6 → ∀ F K, K ≤ (skw tx E p + 1) → aw_M l g mi_X5_readsAtom (5 + 3 * (6 - w)) 0 0 [.ref (g_ad g 6), .int (nI w)] (hp g (lm s (skw tx E p + 1) F K) n) (LO g s n none F K (skw tx E p + 1) (rOk p1 a))) (z2 : PZ tx E (nTl (eDiv v a)) w p1 r) (d2 : p1 ≤ E → w ≤ 6 → ∀ F K t (pl : Int32) Q, K ≤ p1 → 2 * t + 1 ≤ p1 → TS l g s n w (some (eDiv v a)) F K p1 pl Q r → aw_W l g mi_X5_readsSum (aw_rm (6 + 3 * (6 - w)) 0 0) (aw_Z g Q 0 0) 0 0 (hp g (lm s p1 F K) n) 39 [some (.ref (g_ad g 6)), some (.int (nI w)), none, some (.int pl), some (.int (nI t))] []) (hpE : p ≤ E) (hw : w ≤ 6) : ∀ F K t (pl : Int32) Q, K ≤ p → 2 * t + 1 ≤ p → TS l g s n w (some v) F K p pl Q r → aw_W l g mi_X5_readsSum (aw_rm (6 + 3 * (6 - w)) 0 0) (aw_Z g Q 0 0) 0 0 (hp g (lm s p F K) n) 39 [some (.ref (g_ad g 6)), some (.int (nI w)), none, some (.int pl), some (.int (nI t))] [] := by
  have hE := hT.2.1
  have hk := skw_b (tx := tx) hpE
  have hnx : skw tx E p + 1 ≤ E := by (have := cst_lt (tx := tx) (E := E) (p := p) (by rw [c1]; decide); omega)
  have hp1 := PZ_pr z1 (by omega)
  have hp2 : p1 ≤ E := hp1.2.1
  have hp3 := hp1.2.2 rfl
  intro F K t pl Q hK ht hTS
  refine aw_aload_n rfl rfl ?_
  refine pg_6_0 rfl kl_X5_17 ?_
  refine aw_ldcS rfl (xr_X5_66 hx) ?_
  refine aw_iV (q0 := 1) (ci := 10) rfl cw_X5_68 rfl rfl rfl (c_oneY (i := 5) hx (by decide) hT hpE (by rw [c1]; decide) (by rw [c1]; decide)) rfl rfl (Nat.le_of_ble_eq_true rfl) (rmF (by omega)) (rmL (by decide) (by omega)) (Nat.zero_le _) (Nat.zero_le _) ?_
  rw [c1]
  refine aw_istore_n rfl (by decide) ?_
  refine aw_iload_n rfl rfl ?_
  refine aw_iconst (v := -1) rfl (by decide) ?_
  refine aw_icmp_ne (tgt := 85) rfl (by decide) (fun h51 => ?_) (fun h51 => absurd h51 (by decide))
  refine aw_inc1 rfl rfl (by decide) ?_
  refine aw_goto (tgt := 7) rfl (by decide) ?_
  refine aw_iload rfl rfl ?_
  refine aw_sipush (v := 240) rfl (by decide) ?_
  refine aw_icmp_ge (tgt := 91) rfl (by decide) (fun h12 => absurd h12 (by rw [nI_1]; exact nI_ge (a := t + 1) (b := 240) (by omega) (by decide))) (fun h12 => ?_)
  refine aw_aload_n rfl rfl ?_
  refine aw_iload_n rfl rfl ?_
  refine aw_lK (q0 := 6) (ci := 5) rfl cw_X5_63 rfl rfl rfl (d1 (by omega) hw F K (by omega)) rfl rfl (Nat.le_of_ble_eq_true rfl) (rmF (by omega)) (rmL (by decide) (by omega)) (Nat.zero_le _) (Nat.zero_le _) (fun F1 dd hS => ?_)
  refine aw_if_ne (tgt := 25) rfl (by decide) (fun h20 => ?_) (fun h20 => absurd h20 (by decide))
  have hg := hS.1
  refine aw_iload_n rfl rfl ?_
  refine aw_iconst (v := -1) rfl (by decide) ?_
  refine aw_icmp_eq (tgt := 39) rfl (by decide) (fun h27 => absurd h27 (by decide)) (fun h27 => ?_)
  refine aw_aload_n rfl rfl ?_
  refine aw_sipush (v := 20000) rfl (by decide) ?_
  refine aw_iload_n rfl rfl ?_
  refine aw_iadd rfl ?_
  refine aw_vV (q0 := 6) (ci := 5) rfl cw_X5_52 rfl rfl rfl (c_emitL (by omega)) rfl rfl (Nat.le_of_ble_eq_true rfl) (rmF (by omega)) (rmL (by decide) (by omega)) (Nat.zero_le _) (Nat.zero_le _) ?_
  exact aw_wk (d2 hp2 hw _ (K + (dd + 1)) (t + 1) pl Q (by omega) (by omega) (TS_tr (SG_bin hS (by omega) stp_div) r hTS)) (And.intro rfl (And.intro rfl (And.intro rfl (And.intro (congrArg (fun x => some (Value.int x)) (nI_1 t)) True.intro))))
set_option maxRecDepth 4000 in
theorem lm_tlF {l : Launch} {g : ag_G} {s : am_S} {n : am_N} {E : Nat} {tx : Nat → Nat} (hx : aw_hx g) (hT : CT s E tx) {w : Nat} {p : Nat} {f : Nat} {v : Ex} (c1 : ((cst tx E p) = 42 ∨ (cst tx E p) = 47)) (z1 : PZ tx E nAtom w (skw tx E p + 1) (rNo f)) (d1 : (skw tx E p + 1) ≤ E → w ≤ 6 → ∀ F K, K ≤ (skw tx E p + 1) → aw_M l g mi_X5_readsAtom (5 + 3 * (6 - w)) 0 0 [.ref (g_ad g 6), .int (nI w)] (hp g (lm s (skw tx E p + 1) F K) n) (LO g s n none F K (skw tx E p + 1) (rNo f))) (hpE : p ≤ E) (hw : w ≤ 6) : ∀ F K t (pl : Int32) Q, K ≤ p → 2 * t + 1 ≤ p → TS l g s n w (some v) F K p pl Q (rNo f) → aw_W l g mi_X5_readsSum (aw_rm (6 + 3 * (6 - w)) 0 0) (aw_Z g Q 0 0) 0 0 (hp g (lm s p F K) n) 39 [some (.ref (g_ad g 6)), some (.int (nI w)), none, some (.int pl), some (.int (nI t))] [] := by
  have hE := hT.2.1
  have hk := skw_b (tx := tx) hpE
  have hnx : skw tx E p + 1 ≤ E := by (have := cst_lt (tx := tx) (E := E) (p := p) (by rcases c1 with h | h <;> (rw [h]; decide)); omega)
  intro F K t pl Q hK ht hTS
  rcases c1 with c1 | c1
  · skip
    refine aw_aload_n rfl rfl ?_
    refine pg_6_0 rfl kl_X5_17 ?_
    refine aw_ldcS rfl (xr_X5_66 hx) ?_
    refine aw_iV (q0 := 1) (ci := 10) rfl cw_X5_68 rfl rfl rfl (c_oneY (i := 5) hx (by decide) hT hpE (by rw [c1]; decide) (by rw [c1]; decide)) rfl rfl (Nat.le_of_ble_eq_true rfl) (rmF (by omega)) (rmL (by decide) (by omega)) (Nat.zero_le _) (Nat.zero_le _) ?_
    rw [c1]
    refine aw_istore_n rfl (by decide) ?_
    refine aw_iload_n rfl rfl ?_
    refine aw_iconst (v := -1) rfl (by decide) ?_
    refine aw_icmp_ne (tgt := 85) rfl (by decide) (fun h51 => ?_) (fun h51 => absurd h51 (by decide))
    refine aw_inc1 rfl rfl (by decide) ?_
    refine aw_goto (tgt := 7) rfl (by decide) ?_
    refine aw_iload rfl rfl ?_
    refine aw_sipush (v := 240) rfl (by decide) ?_
    refine aw_icmp_ge (tgt := 91) rfl (by decide) (fun h12 => absurd h12 (by rw [nI_1]; exact nI_ge (a := t + 1) (b := 240) (by omega) (by decide))) (fun h12 => ?_)
    refine aw_aload_n rfl rfl ?_
    refine aw_iload_n rfl rfl ?_
    refine aw_lN (q0 := 6) (ci := 5) rfl cw_X5_63 rfl rfl rfl (d1 (by omega) hw F K (by omega)) rfl rfl (Nat.le_of_ble_eq_true rfl) (rmF (by omega)) (rmL (by decide) (by omega)) (Nat.zero_le _) (Nat.zero_le _) (fun F1 K1 => ?_)
    refine aw_if_ne (tgt := 25) rfl (by decide) (fun h20 => absurd (rfl) h20) (fun h20 => ?_)
    refine aw_iconst (v := 0) rfl (by decide) ?_
    exact aw_z0 rfl rfl (hTS F1 K1)
  · skip
    refine aw_aload_n rfl rfl ?_
    refine pg_6_0 rfl kl_X5_17 ?_
    refine aw_ldcS rfl (xr_X5_66 hx) ?_
    refine aw_iV (q0 := 1) (ci := 10) rfl cw_X5_68 rfl rfl rfl (c_oneY (i := 5) hx (by decide) hT hpE (by rw [c1]; decide) (by rw [c1]; decide)) rfl rfl (Nat.le_of_ble_eq_true rfl) (rmF (by omega)) (rmL (by decide) (by omega)) (Nat.zero_le _) (Nat.zero_le _) ?_
    rw [c1]
    refine aw_istore_n rfl (by decide) ?_
    refine aw_iload_n rfl rfl ?_
    refine aw_iconst (v := -1) rfl (by decide) ?_
    refine aw_icmp_ne (tgt := 85) rfl (by decide) (fun h51 => ?_) (fun h51 => absurd h51 (by decide))
    refine aw_inc1 rfl rfl (by decide) ?_
    refine aw_goto (tgt := 7) rfl (by decide) ?_
    refine aw_iload rfl rfl ?_
    refine aw_sipush (v := 240) rfl (by decide) ?_
    refine aw_icmp_ge (tgt := 91) rfl (by decide) (fun h12 => absurd h12 (by rw [nI_1]; exact nI_ge (a := t + 1) (b := 240) (by omega) (by decide))) (fun h12 => ?_)
    refine aw_aload_n rfl rfl ?_
    refine aw_iload_n rfl rfl ?_
    refine aw_lN (q0 := 6) (ci := 5) rfl cw_X5_63 rfl rfl rfl (d1 (by omega) hw F K (by omega)) rfl rfl (Nat.le_of_ble_eq_true rfl) (rmF (by omega)) (rmL (by decide) (by omega)) (Nat.zero_le _) (Nat.zero_le _) (fun F1 K1 => ?_)
    refine aw_if_ne (tgt := 25) rfl (by decide) (fun h20 => absurd (rfl) h20) (fun h20 => ?_)
    refine aw_iconst (v := 0) rfl (by decide) ?_
    exact aw_z0 rfl rfl (hTS F1 K1)
set_option maxRecDepth 4000 in
theorem lm_su {l : Launch} {g : ag_G} {s : am_S} {n : am_N} {E : Nat} {tx : Nat → Nat} (hx : aw_hx g) (hT : CT s E tx) {w : Nat} {p : Nat} {p1 : Nat} {a : Ex} {r : Rs} (z1 : PZ tx E nTerm w p (rOk p1 a)) (d1 : p ≤ E → w ≤ 6 → ∀ F K t (pl : Int32) Q, K ≤ p → 2 * t ≤ p → TS l g s n w none F K p pl Q (rOk p1 a) → aw_W l g mi_X5_readsSum (aw_rm (6 + 3 * (6 - w)) 0 0) (aw_Z g Q 0 0) 0 0 (hp g (lm s p F K) n) 7 [some (.ref (g_ad g 6)), some (.int (nI w)), some (.int (-1)), some (.int pl), some (.int (nI t))] []) (z2 : PZ tx E (nSl a) w p1 r) (d2 : p1 ≤ E → w ≤ 6 → ∀ F K t Q, K ≤ p1 → 2 * t + 1 ≤ p1 → QO g s n (some a) F K p1 Q r → aw_W l g mi_X5_readsSum (aw_rm (6 + 3 * (6 - w)) 0 0) (aw_Z g Q 0 0) 0 0 (hp g (lm s p1 F K) n) 68 [some (.ref (g_ad g 6)), some (.int (nI w)), some (.int (-1)), none, some (.int (nI t))] []) (hpE : p ≤ E) (hw : w ≤ 6) : ∀ F K, K ≤ p → aw_M l g mi_X5_readsSum (6 + 3 * (6 - w)) 0 0 [.ref (g_ad g 6), .int (nI w)] (hp g (lm s p F K) n) (LO g s n none F K p r) := by
  have hE := hT.2.1
  have hk := skw_b (tx := tx) hpE
  have hp1 := PZ_pr z1 hpE
  have hp2 : p1 ≤ E := hp1.2.1
  have hp3 := hp1.2.2 rfl
  intro F K hK
  refine aw_M_of mo_X5_readsSum (by decide) (Nat.le_of_ble_eq_true rfl) ?_
  refine aw_iconst (v := -1) rfl (by decide) ?_
  refine aw_istore_n rfl (by decide) ?_
  refine aw_iconst (v := -1) rfl (by decide) ?_
  refine aw_istore_n rfl (by decide) ?_
  refine aw_iconst (v := 0) rfl (by decide) ?_
  refine aw_istore rfl (by decide) ?_
  refine aw_wk (d1 hpE hw F K 0 (-1) _ hK (by omega) (fun F1 dd t1 hS ht1 => ?_)) (And.intro rfl (And.intro rfl (And.intro rfl (And.intro rfl (And.intro rfl True.intro)))))
  have hg := hS.1
  refine aw_iload_n rfl rfl ?_
  refine aw_iconst (v := -1) rfl (by decide) ?_
  refine aw_icmp_eq (tgt := 68) rfl (by decide) (fun h56 => ?_) (fun h56 => absurd (rfl) h56)
  exact aw_wk (d2 hp2 hw F1 (K + dd) t1 _ (by omega) ht1 (QO_tr hS r (LO_QO r))) (And.intro rfl (And.intro rfl (And.intro rfl (And.intro rfl True.intro))))
set_option maxRecDepth 4000 in
theorem lm_suf {l : Launch} {g : ag_G} {s : am_S} {n : am_N} {E : Nat} {tx : Nat → Nat} (hx : aw_hx g) (hT : CT s E tx) {w : Nat} {p : Nat} {f : Nat} (z1 : PZ tx E nTerm w p (rNo f)) (d1 : p ≤ E → w ≤ 6 → ∀ F K t (pl : Int32) Q, K ≤ p → 2 * t ≤ p → TS l g s n w none F K p pl Q (rNo f) → aw_W l g mi_X5_readsSum (aw_rm (6 + 3 * (6 - w)) 0 0) (aw_Z g Q 0 0) 0 0 (hp g (lm s p F K) n) 7 [some (.ref (g_ad g 6)), some (.int (nI w)), some (.int (-1)), some (.int pl), some (.int (nI t))] []) (hpE : p ≤ E) (hw : w ≤ 6) : ∀ F K, K ≤ p → aw_M l g mi_X5_readsSum (6 + 3 * (6 - w)) 0 0 [.ref (g_ad g 6), .int (nI w)] (hp g (lm s p F K) n) (LO g s n none F K p (rNo f)) := by
  have hE := hT.2.1
  have hk := skw_b (tx := tx) hpE
  intro F K hK
  refine aw_M_of mo_X5_readsSum (by decide) (Nat.le_of_ble_eq_true rfl) ?_
  refine aw_iconst (v := -1) rfl (by decide) ?_
  refine aw_istore_n rfl (by decide) ?_
  refine aw_iconst (v := -1) rfl (by decide) ?_
  refine aw_istore_n rfl (by decide) ?_
  refine aw_iconst (v := 0) rfl (by decide) ?_
  refine aw_istore rfl (by decide) ?_
  exact aw_wk (d1 hpE hw F K 0 (-1) _ hK (by omega) (fun F1 K1 => ⟨rfl, F1, K1, rfl⟩)) (And.intro rfl (And.intro rfl (And.intro rfl (And.intro rfl (And.intro rfl True.intro)))))
set_option maxRecDepth 4000 in
theorem lm_slS {l : Launch} {g : ag_G} {s : am_S} {n : am_N} {E : Nat} {tx : Nat → Nat} (hx : aw_hx g) (hT : CT s E tx) {w : Nat} {p : Nat} {v : Ex} (c1 : (cst tx E p) ≠ 43) (c2 : (cst tx E p) ≠ 45) (hpE : p ≤ E) (hw : w ≤ 6) : ∀ F K t Q, K ≤ p → 2 * t + 1 ≤ p → QO g s n (some v) F K p Q (rOk (skw tx E p) v) → aw_W l g mi_X5_readsSum (aw_rm (6 + 3 * (6 - w)) 0 0) (aw_Z g Q 0 0) 0 0 (hp g (lm s p F K) n) 68 [some (.ref (g_ad g 6)), some (.int (nI w)), some (.int (-1)), none, some (.int (nI t))] [] := by
  have hE := hT.2.1
  have hk := skw_b (tx := tx) hpE
  intro F K t Q hK ht hQ
  refine aw_aload_n rfl rfl ?_
  refine pg_6_0 rfl kl_X5_17 ?_
  refine aw_ldcS rfl (xr_X5_72 hx) ?_
  refine aw_iV (q0 := 1) (ci := 10) rfl cw_X5_68 rfl rfl rfl (c_oneX (i := 6) hx (by decide) hT hpE (c6_no hT c1 c2)) rfl rfl (Nat.le_of_ble_eq_true rfl) (rmF (by omega)) (rmL (by decide) (by omega)) (Nat.zero_le _) (Nat.zero_le _) ?_
  refine aw_istore_n rfl (by decide) ?_
  refine aw_iload_n rfl rfl ?_
  refine aw_iconst (v := -1) rfl (by decide) ?_
  refine aw_icmp_ne (tgt := 85) rfl (by decide) (fun h80 => absurd (rfl) h80) (fun h80 => ?_)
  refine aw_iconst (v := 1) rfl (by decide) ?_
  exact aw_z1 rfl rfl (hQ F 0 (SG_0 hk.1))
set_option maxRecDepth 4000 in
theorem lm_slM {l : Launch} {g : ag_G} {s : am_S} {n : am_N} {E : Nat} {tx : Nat → Nat} (hx : aw_hx g) (hT : CT s E tx) {w : Nat} {p : Nat} {p1 : Nat} {v : Ex} {a : Ex} {r : Rs} (c1 : (cst tx E p) = 43) (z1 : PZ tx E nTerm w (skw tx E p + 1) (rOk p1 a)) (d1 : (skw tx E p + 1) ≤ E → w ≤ 6 → ∀ F K t (pl : Int32) Q, K ≤ (skw tx E p + 1) → 2 * t ≤ (skw tx E p + 1) → TS l g s n w none F K (skw tx E p + 1) pl Q (rOk p1 a) → aw_W l g mi_X5_readsSum (aw_rm (6 + 3 * (6 - w)) 0 0) (aw_Z g Q 0 0) 0 0 (hp g (lm s (skw tx E p + 1) F K) n) 7 [some (.ref (g_ad g 6)), some (.int (nI w)), some (.int (-1)), some (.int pl), some (.int (nI t))] []) (z2 : PZ tx E (nSl (eAdd v a)) w p1 r) (d2 : p1 ≤ E → w ≤ 6 → ∀ F K t Q, K ≤ p1 → 2 * t + 1 ≤ p1 → QO g s n (some (eAdd v a)) F K p1 Q r → aw_W l g mi_X5_readsSum (aw_rm (6 + 3 * (6 - w)) 0 0) (aw_Z g Q 0 0) 0 0 (hp g (lm s p1 F K) n) 68 [some (.ref (g_ad g 6)), some (.int (nI w)), some (.int (-1)), none, some (.int (nI t))] []) (hpE : p ≤ E) (hw : w ≤ 6) : ∀ F K t Q, K ≤ p → 2 * t + 1 ≤ p → QO g s n (some v) F K p Q r → aw_W l g mi_X5_readsSum (aw_rm (6 + 3 * (6 - w)) 0 0) (aw_Z g Q 0 0) 0 0 (hp g (lm s p F K) n) 68 [some (.ref (g_ad g 6)), some (.int (nI w)), some (.int (-1)), none, some (.int (nI t))] [] := by
  have hE := hT.2.1
  have hk := skw_b (tx := tx) hpE
  have hnx : skw tx E p + 1 ≤ E := by (have := cst_lt (tx := tx) (E := E) (p := p) (by rw [c1]; decide); omega)
  have hp1 := PZ_pr z1 (by omega)
  have hp2 : p1 ≤ E := hp1.2.1
  have hp3 := hp1.2.2 rfl
  intro F K t Q hK ht hQ
  refine aw_aload_n rfl rfl ?_
  refine pg_6_0 rfl kl_X5_17 ?_
  refine aw_ldcS rfl (xr_X5_72 hx) ?_
  refine aw_iV (q0 := 1) (ci := 10) rfl cw_X5_68 rfl rfl rfl (c_oneY (i := 6) hx (by decide) hT hpE (by rw [c1]; decide) (by rw [c1]; decide)) rfl rfl (Nat.le_of_ble_eq_true rfl) (rmF (by omega)) (rmL (by decide) (by omega)) (Nat.zero_le _) (Nat.zero_le _) ?_
  rw [c1]
  refine aw_istore_n rfl (by decide) ?_
  refine aw_iload_n rfl rfl ?_
  refine aw_iconst (v := -1) rfl (by decide) ?_
  refine aw_icmp_ne (tgt := 85) rfl (by decide) (fun h80 => ?_) (fun h80 => absurd h80 (by decide))
  refine aw_inc1 rfl rfl (by decide) ?_
  refine aw_goto (tgt := 7) rfl (by decide) ?_
  refine aw_wk (d1 (by omega) hw F K (t + 1) 43 Q (by omega) (by omega) (fun F1 dd t1 hS ht1 => ?_)) (And.intro rfl (And.intro rfl (And.intro rfl (And.intro rfl (And.intro (congrArg (fun x => some (Value.int x)) (nI_1 t)) True.intro)))))
  have hg := hS.1
  refine aw_iload_n rfl rfl ?_
  refine aw_iconst (v := -1) rfl (by decide) ?_
  refine aw_icmp_eq (tgt := 68) rfl (by decide) (fun h56 => absurd h56 (by decide)) (fun h56 => ?_)
  refine aw_aload_n rfl rfl ?_
  refine aw_sipush (v := 20000) rfl (by decide) ?_
  refine aw_iload_n rfl rfl ?_
  refine aw_iadd rfl ?_
  refine aw_vV (q0 := 6) (ci := 5) rfl cw_X5_52 rfl rfl rfl (c_emitL (by omega)) rfl rfl (Nat.le_of_ble_eq_true rfl) (rmF (by omega)) (rmL (by decide) (by omega)) (Nat.zero_le _) (Nat.zero_le _) ?_
  exact aw_wk (d2 hp2 hw _ (K + (dd + 1)) t1 Q (by omega) ht1 (QO_tr (SG_bin hS (by omega) stp_add) r hQ)) (And.intro rfl (And.intro rfl (And.intro rfl (And.intro rfl True.intro))))
set_option maxRecDepth 4000 in
theorem lm_slD {l : Launch} {g : ag_G} {s : am_S} {n : am_N} {E : Nat} {tx : Nat → Nat} (hx : aw_hx g) (hT : CT s E tx) {w : Nat} {p : Nat} {p1 : Nat} {v : Ex} {a : Ex} {r : Rs} (c1 : (cst tx E p) = 45) (z1 : PZ tx E nTerm w (skw tx E p + 1) (rOk p1 a)) (d1 : (skw tx E p + 1) ≤ E → w ≤ 6 → ∀ F K t (pl : Int32) Q, K ≤ (skw tx E p + 1) → 2 * t ≤ (skw tx E p + 1) → TS l g s n w none F K (skw tx E p + 1) pl Q (rOk p1 a) → aw_W l g mi_X5_readsSum (aw_rm (6 + 3 * (6 - w)) 0 0) (aw_Z g Q 0 0) 0 0 (hp g (lm s (skw tx E p + 1) F K) n) 7 [some (.ref (g_ad g 6)), some (.int (nI w)), some (.int (-1)), some (.int pl), some (.int (nI t))] []) (z2 : PZ tx E (nSl (eSub v a)) w p1 r) (d2 : p1 ≤ E → w ≤ 6 → ∀ F K t Q, K ≤ p1 → 2 * t + 1 ≤ p1 → QO g s n (some (eSub v a)) F K p1 Q r → aw_W l g mi_X5_readsSum (aw_rm (6 + 3 * (6 - w)) 0 0) (aw_Z g Q 0 0) 0 0 (hp g (lm s p1 F K) n) 68 [some (.ref (g_ad g 6)), some (.int (nI w)), some (.int (-1)), none, some (.int (nI t))] []) (hpE : p ≤ E) (hw : w ≤ 6) : ∀ F K t Q, K ≤ p → 2 * t + 1 ≤ p → QO g s n (some v) F K p Q r → aw_W l g mi_X5_readsSum (aw_rm (6 + 3 * (6 - w)) 0 0) (aw_Z g Q 0 0) 0 0 (hp g (lm s p F K) n) 68 [some (.ref (g_ad g 6)), some (.int (nI w)), some (.int (-1)), none, some (.int (nI t))] [] := by
  have hE := hT.2.1
  have hk := skw_b (tx := tx) hpE
  have hnx : skw tx E p + 1 ≤ E := by (have := cst_lt (tx := tx) (E := E) (p := p) (by rw [c1]; decide); omega)
  have hp1 := PZ_pr z1 (by omega)
  have hp2 : p1 ≤ E := hp1.2.1
  have hp3 := hp1.2.2 rfl
  intro F K t Q hK ht hQ
  refine aw_aload_n rfl rfl ?_
  refine pg_6_0 rfl kl_X5_17 ?_
  refine aw_ldcS rfl (xr_X5_72 hx) ?_
  refine aw_iV (q0 := 1) (ci := 10) rfl cw_X5_68 rfl rfl rfl (c_oneY (i := 6) hx (by decide) hT hpE (by rw [c1]; decide) (by rw [c1]; decide)) rfl rfl (Nat.le_of_ble_eq_true rfl) (rmF (by omega)) (rmL (by decide) (by omega)) (Nat.zero_le _) (Nat.zero_le _) ?_
  rw [c1]
  refine aw_istore_n rfl (by decide) ?_
  refine aw_iload_n rfl rfl ?_
  refine aw_iconst (v := -1) rfl (by decide) ?_
  refine aw_icmp_ne (tgt := 85) rfl (by decide) (fun h80 => ?_) (fun h80 => absurd h80 (by decide))
  refine aw_inc1 rfl rfl (by decide) ?_
  refine aw_goto (tgt := 7) rfl (by decide) ?_
  refine aw_wk (d1 (by omega) hw F K (t + 1) 45 Q (by omega) (by omega) (fun F1 dd t1 hS ht1 => ?_)) (And.intro rfl (And.intro rfl (And.intro rfl (And.intro rfl (And.intro (congrArg (fun x => some (Value.int x)) (nI_1 t)) True.intro)))))
  have hg := hS.1
  refine aw_iload_n rfl rfl ?_
  refine aw_iconst (v := -1) rfl (by decide) ?_
  refine aw_icmp_eq (tgt := 68) rfl (by decide) (fun h56 => absurd h56 (by decide)) (fun h56 => ?_)
  refine aw_aload_n rfl rfl ?_
  refine aw_sipush (v := 20000) rfl (by decide) ?_
  refine aw_iload_n rfl rfl ?_
  refine aw_iadd rfl ?_
  refine aw_vV (q0 := 6) (ci := 5) rfl cw_X5_52 rfl rfl rfl (c_emitL (by omega)) rfl rfl (Nat.le_of_ble_eq_true rfl) (rmF (by omega)) (rmL (by decide) (by omega)) (Nat.zero_le _) (Nat.zero_le _) ?_
  exact aw_wk (d2 hp2 hw _ (K + (dd + 1)) t1 Q (by omega) ht1 (QO_tr (SG_bin hS (by omega) stp_sub) r hQ)) (And.intro rfl (And.intro rfl (And.intro rfl (And.intro rfl True.intro))))
set_option maxRecDepth 4000 in
theorem lm_slF {l : Launch} {g : ag_G} {s : am_S} {n : am_N} {E : Nat} {tx : Nat → Nat} (hx : aw_hx g) (hT : CT s E tx) {w : Nat} {p : Nat} {f : Nat} {v : Ex} (c1 : ((cst tx E p) = 43 ∨ (cst tx E p) = 45)) (z1 : PZ tx E nTerm w (skw tx E p + 1) (rNo f)) (d1 : (skw tx E p + 1) ≤ E → w ≤ 6 → ∀ F K t (pl : Int32) Q, K ≤ (skw tx E p + 1) → 2 * t ≤ (skw tx E p + 1) → TS l g s n w none F K (skw tx E p + 1) pl Q (rNo f) → aw_W l g mi_X5_readsSum (aw_rm (6 + 3 * (6 - w)) 0 0) (aw_Z g Q 0 0) 0 0 (hp g (lm s (skw tx E p + 1) F K) n) 7 [some (.ref (g_ad g 6)), some (.int (nI w)), some (.int (-1)), some (.int pl), some (.int (nI t))] []) (hpE : p ≤ E) (hw : w ≤ 6) : ∀ F K t Q, K ≤ p → 2 * t + 1 ≤ p → QO g s n (some v) F K p Q (rNo f) → aw_W l g mi_X5_readsSum (aw_rm (6 + 3 * (6 - w)) 0 0) (aw_Z g Q 0 0) 0 0 (hp g (lm s p F K) n) 68 [some (.ref (g_ad g 6)), some (.int (nI w)), some (.int (-1)), none, some (.int (nI t))] [] := by
  have hE := hT.2.1
  have hk := skw_b (tx := tx) hpE
  have hnx : skw tx E p + 1 ≤ E := by (have := cst_lt (tx := tx) (E := E) (p := p) (by rcases c1 with h | h <;> (rw [h]; decide)); omega)
  intro F K t Q hK ht hQ
  rcases c1 with c1 | c1
  · skip
    refine aw_aload_n rfl rfl ?_
    refine pg_6_0 rfl kl_X5_17 ?_
    refine aw_ldcS rfl (xr_X5_72 hx) ?_
    refine aw_iV (q0 := 1) (ci := 10) rfl cw_X5_68 rfl rfl rfl (c_oneY (i := 6) hx (by decide) hT hpE (by rw [c1]; decide) (by rw [c1]; decide)) rfl rfl (Nat.le_of_ble_eq_true rfl) (rmF (by omega)) (rmL (by decide) (by omega)) (Nat.zero_le _) (Nat.zero_le _) ?_
    rw [c1]
    refine aw_istore_n rfl (by decide) ?_
    refine aw_iload_n rfl rfl ?_
    refine aw_iconst (v := -1) rfl (by decide) ?_
    refine aw_icmp_ne (tgt := 85) rfl (by decide) (fun h80 => ?_) (fun h80 => absurd h80 (by decide))
    refine aw_inc1 rfl rfl (by decide) ?_
    refine aw_goto (tgt := 7) rfl (by decide) ?_
    exact aw_wk (d1 (by omega) hw F K (t + 1) 43 Q (by omega) (by omega) hQ) (And.intro rfl (And.intro rfl (And.intro rfl (And.intro rfl (And.intro (congrArg (fun x => some (Value.int x)) (nI_1 t)) True.intro)))))
  · skip
    refine aw_aload_n rfl rfl ?_
    refine pg_6_0 rfl kl_X5_17 ?_
    refine aw_ldcS rfl (xr_X5_72 hx) ?_
    refine aw_iV (q0 := 1) (ci := 10) rfl cw_X5_68 rfl rfl rfl (c_oneY (i := 6) hx (by decide) hT hpE (by rw [c1]; decide) (by rw [c1]; decide)) rfl rfl (Nat.le_of_ble_eq_true rfl) (rmF (by omega)) (rmL (by decide) (by omega)) (Nat.zero_le _) (Nat.zero_le _) ?_
    rw [c1]
    refine aw_istore_n rfl (by decide) ?_
    refine aw_iload_n rfl rfl ?_
    refine aw_iconst (v := -1) rfl (by decide) ?_
    refine aw_icmp_ne (tgt := 85) rfl (by decide) (fun h80 => ?_) (fun h80 => absurd h80 (by decide))
    refine aw_inc1 rfl rfl (by decide) ?_
    refine aw_goto (tgt := 7) rfl (by decide) ?_
    exact aw_wk (d1 (by omega) hw F K (t + 1) 45 Q (by omega) (by omega) hQ) (And.intro rfl (And.intro rfl (And.intro rfl (And.intro rfl (And.intro (congrArg (fun x => some (Value.int x)) (nI_1 t)) True.intro)))))
set_option maxRecDepth 4000 in
theorem lm_cmN {l : Launch} {g : ag_G} {s : am_S} {n : am_N} {E : Nat} {tx : Nat → Nat} (hx : aw_hx g) (hT : CT s E tx) {w : Nat} {p : Nat} {v : Ex} (c1 : sgC (cst tx E p) = false) (hpE : p ≤ E) (hw : w ≤ 6) : ∀ F K p' Q, K ≤ p → p ≤ p' → p' ≤ E → skw tx E p' = skw tx E p → QO g s n (some v) F K p Q (rNo (skw tx E p)) → aw_W l g mi_X5_readsUnit (aw_rm (7 + 3 * (6 - w)) 0 0) (aw_Z g Q 0 0) 0 0 (hp g (lm s p' F K) n) 116 [some (.ref (g_ad g 6)), some (.int (nI w)), none, none, none] [] := by
  have hE := hT.2.1
  have hk := skw_b (tx := tx) hpE
  intro F K p' Q hK hpp hpE' hsk hQ
  have hce : cst tx E p' = cst tx E p := by (unfold cst; rw [hsk])
  refine aw_aload_n rfl rfl ?_
  refine pg_6_0 rfl kl_X5_17 ?_
  refine aw_iV (q0 := 1) (ci := 10) rfl cw_X5_38 rfl rfl rfl (c_signL hT hpE') rfl rfl (Nat.le_of_ble_eq_true rfl) (rmF (by omega)) (rmL (by decide) (by omega)) (Nat.zero_le _) (Nat.zero_le _) ?_
  rw [hce, hsk]
  refine aw_istore rfl (by decide) ?_
  refine aw_iload rfl rfl ?_
  refine aw_iS rfl cw_X5_49 (c_isCmp) rfl rfl (Nat.le_of_ble_eq_true rfl) (rmF (by omega)) (rmL (by decide) (by omega)) (Nat.zero_le _) (Nat.zero_le _) ?_
  refine aw_if_ne (tgt := 135) rfl (by decide) (fun h130 => absurd (by rw [c1]; rfl) h130) (fun h130 => ?_)
  refine aw_iconst (v := 0) rfl (by decide) ?_
  exact aw_z0 rfl rfl (hQ F K)
set_option maxRecDepth 4000 in
theorem lm_cmO {l : Launch} {g : ag_G} {s : am_S} {n : am_N} {E : Nat} {tx : Nat → Nat} (hx : aw_hx g) (hT : CT s E tx) {w : Nat} {p : Nat} {p1 : Nat} {v : Ex} {a : Ex} (c1 : sgC (cst tx E p) = true) (z1 : PZ tx E nSum w (skw tx E p + 1) (rOk p1 a)) (d1 : (skw tx E p + 1) ≤ E → w ≤ 6 → ∀ F K, K ≤ (skw tx E p + 1) → aw_M l g mi_X5_readsSum (6 + 3 * (6 - w)) 0 0 [.ref (g_ad g 6), .int (nI w)] (hp g (lm s (skw tx E p + 1) F K) n) (LO g s n none F K (skw tx E p + 1) (rOk p1 a))) (hpE : p ≤ E) (hw : w ≤ 6) : ∀ F K p' Q, K ≤ p → p ≤ p' → p' ≤ E → skw tx E p' = skw tx E p → QO g s n (some v) F K p Q (rOk p1 (eCmp (cst tx E p) v a)) → aw_W l g mi_X5_readsUnit (aw_rm (7 + 3 * (6 - w)) 0 0) (aw_Z g Q 0 0) 0 0 (hp g (lm s p' F K) n) 116 [some (.ref (g_ad g 6)), some (.int (nI w)), none, none, none] [] := by
  have hE := hT.2.1
  have hk := skw_b (tx := tx) hpE
  have hnx : skw tx E p + 1 ≤ E := by (have := cst_lt (tx := tx) (E := E) (p := p) (by intro e; rw [e] at c1; exact absurd c1 (by decide)); omega)
  have hp1 := PZ_pr z1 (by omega)
  have hp2 : p1 ≤ E := hp1.2.1
  intro F K p' Q hK hpp hpE' hsk hQ
  have hce : cst tx E p' = cst tx E p := by (unfold cst; rw [hsk])
  refine aw_aload_n rfl rfl ?_
  refine pg_6_0 rfl kl_X5_17 ?_
  refine aw_iV (q0 := 1) (ci := 10) rfl cw_X5_38 rfl rfl rfl (c_signL hT hpE') rfl rfl (Nat.le_of_ble_eq_true rfl) (rmF (by omega)) (rmL (by decide) (by omega)) (Nat.zero_le _) (Nat.zero_le _) ?_
  rw [hce, hsk]
  refine aw_istore rfl (by decide) ?_
  refine aw_iload rfl rfl ?_
  refine aw_iS rfl cw_X5_49 (c_isCmp) rfl rfl (Nat.le_of_ble_eq_true rfl) (rmF (by omega)) (rmL (by decide) (by omega)) (Nat.zero_le _) (Nat.zero_le _) ?_
  refine aw_if_ne (tgt := 135) rfl (by decide) (fun h130 => ?_) (fun h130 => absurd h130 (by rw [c1]; decide))
  refine aw_aload_n rfl rfl ?_
  refine pg_6_0 rfl kl_X5_17 ?_
  refine aw_dup rfl rfl ?_
  refine pg_1_2 rfl kl_X5_31 ?_
  refine aw_iconst (v := 1) rfl (by decide) ?_
  refine aw_iadd rfl ?_
  refine pp_1_2 rfl kl_X5_31 ?_
  refine aw_eqs (ws' := hp g (lm s ((skw tx E p) + 1) F K) n) ?_ rfl rfl (congrArg (fun z => hp g z n) lm_in)
  refine aw_aload_n rfl rfl ?_
  refine aw_iload_n rfl rfl ?_
  refine aw_lK (q0 := 6) (ci := 5) rfl cw_X5_46 rfl rfl rfl (d1 (by omega) hw F K (by omega)) rfl rfl (Nat.le_of_ble_eq_true rfl) (rmF (by omega)) (rmL (by decide) (by omega)) (Nat.zero_le _) (Nat.zero_le _) (fun F1 dd hS => ?_)
  refine aw_if_ne (tgt := 158) rfl (by decide) (fun h153 => ?_) (fun h153 => absurd h153 (by decide))
  have hg := hS.1
  refine aw_aload_n rfl rfl ?_
  refine aw_sipush (v := 20000) rfl (by decide) ?_
  refine aw_iload rfl rfl ?_
  refine aw_iadd rfl ?_
  refine aw_vV (q0 := 6) (ci := 5) rfl cw_X5_52 rfl rfl rfl (c_emitL (by omega)) rfl rfl (Nat.le_of_ble_eq_true rfl) (rmF (by omega)) (rmL (by decide) (by omega)) (Nat.zero_le _) (Nat.zero_le _) ?_
  refine aw_iconst (v := 1) rfl (by decide) ?_
  exact aw_z1 rfl rfl (hQ _ (dd + 1) (SG_bin hS (by omega) (stp_cmp c1)))
set_option maxRecDepth 4000 in
theorem lm_cmF {l : Launch} {g : ag_G} {s : am_S} {n : am_N} {E : Nat} {tx : Nat → Nat} (hx : aw_hx g) (hT : CT s E tx) {w : Nat} {p : Nat} {f : Nat} {v : Ex} (c1 : sgC (cst tx E p) = true) (z1 : PZ tx E nSum w (skw tx E p + 1) (rNo f)) (d1 : (skw tx E p + 1) ≤ E → w ≤ 6 → ∀ F K, K ≤ (skw tx E p + 1) → aw_M l g mi_X5_readsSum (6 + 3 * (6 - w)) 0 0 [.ref (g_ad g 6), .int (nI w)] (hp g (lm s (skw tx E p + 1) F K) n) (LO g s n none F K (skw tx E p + 1) (rNo f))) (hpE : p ≤ E) (hw : w ≤ 6) : ∀ F K p' Q, K ≤ p → p ≤ p' → p' ≤ E → skw tx E p' = skw tx E p → QO g s n (some v) F K p Q (rNo f) → aw_W l g mi_X5_readsUnit (aw_rm (7 + 3 * (6 - w)) 0 0) (aw_Z g Q 0 0) 0 0 (hp g (lm s p' F K) n) 116 [some (.ref (g_ad g 6)), some (.int (nI w)), none, none, none] [] := by
  have hE := hT.2.1
  have hk := skw_b (tx := tx) hpE
  have hnx : skw tx E p + 1 ≤ E := by (have := cst_lt (tx := tx) (E := E) (p := p) (by intro e; rw [e] at c1; exact absurd c1 (by decide)); omega)
  intro F K p' Q hK hpp hpE' hsk hQ
  have hce : cst tx E p' = cst tx E p := by (unfold cst; rw [hsk])
  refine aw_aload_n rfl rfl ?_
  refine pg_6_0 rfl kl_X5_17 ?_
  refine aw_iV (q0 := 1) (ci := 10) rfl cw_X5_38 rfl rfl rfl (c_signL hT hpE') rfl rfl (Nat.le_of_ble_eq_true rfl) (rmF (by omega)) (rmL (by decide) (by omega)) (Nat.zero_le _) (Nat.zero_le _) ?_
  rw [hce, hsk]
  refine aw_istore rfl (by decide) ?_
  refine aw_iload rfl rfl ?_
  refine aw_iS rfl cw_X5_49 (c_isCmp) rfl rfl (Nat.le_of_ble_eq_true rfl) (rmF (by omega)) (rmL (by decide) (by omega)) (Nat.zero_le _) (Nat.zero_le _) ?_
  refine aw_if_ne (tgt := 135) rfl (by decide) (fun h130 => ?_) (fun h130 => absurd h130 (by rw [c1]; decide))
  refine aw_aload_n rfl rfl ?_
  refine pg_6_0 rfl kl_X5_17 ?_
  refine aw_dup rfl rfl ?_
  refine pg_1_2 rfl kl_X5_31 ?_
  refine aw_iconst (v := 1) rfl (by decide) ?_
  refine aw_iadd rfl ?_
  refine pp_1_2 rfl kl_X5_31 ?_
  refine aw_eqs (ws' := hp g (lm s ((skw tx E p) + 1) F K) n) ?_ rfl rfl (congrArg (fun z => hp g z n) lm_in)
  refine aw_aload_n rfl rfl ?_
  refine aw_iload_n rfl rfl ?_
  refine aw_lN (q0 := 6) (ci := 5) rfl cw_X5_46 rfl rfl rfl (d1 (by omega) hw F K (by omega)) rfl rfl (Nat.le_of_ble_eq_true rfl) (rmF (by omega)) (rmL (by decide) (by omega)) (Nat.zero_le _) (Nat.zero_le _) (fun F1 K1 => ?_)
  refine aw_if_ne (tgt := 158) rfl (by decide) (fun h153 => absurd (rfl) h153) (fun h153 => ?_)
  refine aw_iconst (v := 0) rfl (by decide) ?_
  exact aw_z0 rfl rfl (hQ F1 K1)
set_option maxRecDepth 4000 in
theorem lm_unN {l : Launch} {g : ag_G} {s : am_S} {n : am_N} {E : Nat} {tx : Nat → Nat} (hx : aw_hx g) (hT : CT s E tx) {w : Nat} {p : Nat} {p1 : Nat} {a : Ex} (c1 : (cst tx E p) = 33) (c2 : w < 6) (z1 : PZ tx E nUnit (w + 1) (skw tx E p + 1) (rOk p1 a)) (d1 : (skw tx E p + 1) ≤ E → (w + 1) ≤ 6 → ∀ F K, K ≤ (skw tx E p + 1) → aw_M l g mi_X5_readsUnit (7 + 3 * (6 - (w + 1))) 0 0 [.ref (g_ad g 6), .int (nI (w + 1)), .int 0] (hp g (lm s (skw tx E p + 1) F K) n) (LO g s n none F K (skw tx E p + 1) (rOk p1 a))) (hpE : p ≤ E) (hw : w ≤ 6) : ∀ F K, K ≤ p → aw_M l g mi_X5_readsUnit (7 + 3 * (6 - w)) 0 0 [.ref (g_ad g 6), .int (nI w), .int 0] (hp g (lm s p F K) n) (LO g s n none F K p (rOk p1 (eNot a))) := by
  have hE := hT.2.1
  have hk := skw_b (tx := tx) hpE
  have hnx : skw tx E p + 1 ≤ E := by (have := cst_lt (tx := tx) (E := E) (p := p) (by rw [c1]; decide); omega)
  have hp1 := PZ_pr z1 (by omega)
  have hp2 : p1 ≤ E := hp1.2.1
  intro F K hK
  refine aw_M_of mo_X5_readsUnit (by decide) (Nat.le_of_ble_eq_true rfl) ?_
  refine aw_aload_n rfl rfl ?_
  refine pg_6_0 rfl kl_X5_17 ?_
  refine aw_iV (q0 := 1) (ci := 10) rfl cw_X5_38 rfl rfl rfl (c_signL hT hpE) rfl rfl (Nat.le_of_ble_eq_true rfl) (rmF (by omega)) (rmL (by decide) (by omega)) (Nat.zero_le _) (Nat.zero_le _) ?_
  refine aw_istore_n rfl (by decide) ?_
  refine aw_iload_n rfl rfl ?_
  refine aw_if_ne (tgt := 102) rfl (by decide) (fun h9 => absurd (rfl) h9) (fun h9 => ?_)
  refine aw_iload_n rfl rfl ?_
  refine aw_bipush (v := 33) rfl (by decide) ?_
  refine aw_icmp_eq (tgt := 24) rfl (by decide) (fun h15 => ?_) (fun h15 => absurd (c1) h15)
  refine aw_iload_n rfl rfl ?_
  refine aw_bipush (v := 6) rfl (by decide) ?_
  refine aw_icmp_lt (tgt := 32) rfl (by decide) (fun h27 => ?_) (fun h27 => absurd (show nI w < 6 from nI_lt (b := 6) c2 (by decide)) h27)
  refine aw_aload_n rfl rfl ?_
  refine pg_6_0 rfl kl_X5_17 ?_
  refine aw_dup rfl rfl ?_
  refine pg_1_2 rfl kl_X5_31 ?_
  refine aw_iconst (v := 1) rfl (by decide) ?_
  refine aw_iadd rfl ?_
  refine pp_1_2 rfl kl_X5_31 ?_
  refine aw_eqs (ws' := hp g (lm s ((skw tx E p) + 1) F K) n) ?_ rfl rfl (congrArg (fun z => hp g z n) lm_in)
  refine aw_iload_n rfl rfl ?_
  refine aw_bipush (v := 40) rfl (by decide) ?_
  refine aw_icmp_ne (tgt := 80) rfl (by decide) (fun h48 => ?_) (fun h48 => absurd h48 (by rw [c1]; decide))
  refine aw_aload_n rfl rfl ?_
  refine aw_iload_n rfl rfl ?_
  refine aw_iconst (v := 1) rfl (by decide) ?_
  refine aw_iadd rfl ?_
  refine aw_iconst (v := 0) rfl (by decide) ?_
  rw [nI_1 w]
  refine aw_lK (q0 := 6) (ci := 5) rfl cw_X5_60 rfl rfl rfl (d1 (by omega) (by omega) F K (by omega)) rfl rfl (Nat.le_of_ble_eq_true rfl) (rmF (by omega)) (rmL (by decide) (by omega)) (Nat.zero_le _) (Nat.zero_le _) (fun F1 dd hS => ?_)
  refine aw_if_ne (tgt := 93) rfl (by decide) (fun h88 => ?_) (fun h88 => absurd h88 (by decide))
  have hg := hS.1
  refine aw_aload_n rfl rfl ?_
  refine aw_sipush (v := 20033) rfl (by decide) ?_
  refine aw_vV (q0 := 6) (ci := 5) rfl cw_X5_52 rfl rfl rfl (c_emitL (by omega)) rfl rfl (Nat.le_of_ble_eq_true rfl) (rmF (by omega)) (rmL (by decide) (by omega)) (Nat.zero_le _) (Nat.zero_le _) ?_
  refine aw_iconst (v := 1) rfl (by decide) ?_
  exact aw_z1 rfl rfl ⟨rfl, _, dd + 1, rfl, SG_un hS (by omega) stp_not⟩
set_option maxRecDepth 4000 in
theorem lm_unNf {l : Launch} {g : ag_G} {s : am_S} {n : am_N} {E : Nat} {tx : Nat → Nat} (hx : aw_hx g) (hT : CT s E tx) {w : Nat} {p : Nat} {f : Nat} (c1 : (cst tx E p) = 33) (c2 : w < 6) (z1 : PZ tx E nUnit (w + 1) (skw tx E p + 1) (rNo f)) (d1 : (skw tx E p + 1) ≤ E → (w + 1) ≤ 6 → ∀ F K, K ≤ (skw tx E p + 1) → aw_M l g mi_X5_readsUnit (7 + 3 * (6 - (w + 1))) 0 0 [.ref (g_ad g 6), .int (nI (w + 1)), .int 0] (hp g (lm s (skw tx E p + 1) F K) n) (LO g s n none F K (skw tx E p + 1) (rNo f))) (hpE : p ≤ E) (hw : w ≤ 6) : ∀ F K, K ≤ p → aw_M l g mi_X5_readsUnit (7 + 3 * (6 - w)) 0 0 [.ref (g_ad g 6), .int (nI w), .int 0] (hp g (lm s p F K) n) (LO g s n none F K p (rNo f)) := by
  have hE := hT.2.1
  have hk := skw_b (tx := tx) hpE
  have hnx : skw tx E p + 1 ≤ E := by (have := cst_lt (tx := tx) (E := E) (p := p) (by rw [c1]; decide); omega)
  intro F K hK
  refine aw_M_of mo_X5_readsUnit (by decide) (Nat.le_of_ble_eq_true rfl) ?_
  refine aw_aload_n rfl rfl ?_
  refine pg_6_0 rfl kl_X5_17 ?_
  refine aw_iV (q0 := 1) (ci := 10) rfl cw_X5_38 rfl rfl rfl (c_signL hT hpE) rfl rfl (Nat.le_of_ble_eq_true rfl) (rmF (by omega)) (rmL (by decide) (by omega)) (Nat.zero_le _) (Nat.zero_le _) ?_
  refine aw_istore_n rfl (by decide) ?_
  refine aw_iload_n rfl rfl ?_
  refine aw_if_ne (tgt := 102) rfl (by decide) (fun h9 => absurd (rfl) h9) (fun h9 => ?_)
  refine aw_iload_n rfl rfl ?_
  refine aw_bipush (v := 33) rfl (by decide) ?_
  refine aw_icmp_eq (tgt := 24) rfl (by decide) (fun h15 => ?_) (fun h15 => absurd (c1) h15)
  refine aw_iload_n rfl rfl ?_
  refine aw_bipush (v := 6) rfl (by decide) ?_
  refine aw_icmp_lt (tgt := 32) rfl (by decide) (fun h27 => ?_) (fun h27 => absurd (show nI w < 6 from nI_lt (b := 6) c2 (by decide)) h27)
  refine aw_aload_n rfl rfl ?_
  refine pg_6_0 rfl kl_X5_17 ?_
  refine aw_dup rfl rfl ?_
  refine pg_1_2 rfl kl_X5_31 ?_
  refine aw_iconst (v := 1) rfl (by decide) ?_
  refine aw_iadd rfl ?_
  refine pp_1_2 rfl kl_X5_31 ?_
  refine aw_eqs (ws' := hp g (lm s ((skw tx E p) + 1) F K) n) ?_ rfl rfl (congrArg (fun z => hp g z n) lm_in)
  refine aw_iload_n rfl rfl ?_
  refine aw_bipush (v := 40) rfl (by decide) ?_
  refine aw_icmp_ne (tgt := 80) rfl (by decide) (fun h48 => ?_) (fun h48 => absurd h48 (by rw [c1]; decide))
  refine aw_aload_n rfl rfl ?_
  refine aw_iload_n rfl rfl ?_
  refine aw_iconst (v := 1) rfl (by decide) ?_
  refine aw_iadd rfl ?_
  refine aw_iconst (v := 0) rfl (by decide) ?_
  rw [nI_1 w]
  refine aw_lN (q0 := 6) (ci := 5) rfl cw_X5_60 rfl rfl rfl (d1 (by omega) (by omega) F K (by omega)) rfl rfl (Nat.le_of_ble_eq_true rfl) (rmF (by omega)) (rmL (by decide) (by omega)) (Nat.zero_le _) (Nat.zero_le _) (fun F1 K1 => ?_)
  refine aw_if_ne (tgt := 93) rfl (by decide) (fun h88 => absurd (rfl) h88) (fun h88 => ?_)
  refine aw_iconst (v := 0) rfl (by decide) ?_
  exact aw_z0 rfl rfl ⟨rfl, _, _, rfl⟩
set_option maxRecDepth 4000 in
theorem lm_unN6 {l : Launch} {g : ag_G} {s : am_S} {n : am_N} {E : Nat} {tx : Nat → Nat} (hx : aw_hx g) (hT : CT s E tx) {p : Nat} (c1 : (cst tx E p) = 33) (hpE : p ≤ E) (hw : 6 ≤ 6) : ∀ F K, K ≤ p → aw_M l g mi_X5_readsUnit (7 + 3 * (6 - 6)) 0 0 [.ref (g_ad g 6), .int (nI 6), .int 0] (hp g (lm s p F K) n) (LO g s n none F K p (rNo (skw tx E p))) := by
  have hE := hT.2.1
  have hk := skw_b (tx := tx) hpE
  intro F K hK
  refine aw_M_of mo_X5_readsUnit (by decide) (Nat.le_of_ble_eq_true rfl) ?_
  refine aw_aload_n rfl rfl ?_
  refine pg_6_0 rfl kl_X5_17 ?_
  refine aw_iV (q0 := 1) (ci := 10) rfl cw_X5_38 rfl rfl rfl (c_signL hT hpE) rfl rfl (Nat.le_of_ble_eq_true rfl) (rmF (by omega)) (rmL (by decide) (by omega)) (Nat.zero_le _) (Nat.zero_le _) ?_
  refine aw_istore_n rfl (by decide) ?_
  refine aw_iload_n rfl rfl ?_
  refine aw_if_ne (tgt := 102) rfl (by decide) (fun h9 => absurd (rfl) h9) (fun h9 => ?_)
  refine aw_iload_n rfl rfl ?_
  refine aw_bipush (v := 33) rfl (by decide) ?_
  refine aw_icmp_eq (tgt := 24) rfl (by decide) (fun h15 => ?_) (fun h15 => absurd (c1) h15)
  refine aw_iload_n rfl rfl ?_
  refine aw_bipush (v := 6) rfl (by decide) ?_
  refine aw_icmp_lt (tgt := 32) rfl (by decide) (fun h27 => absurd h27 (by decide)) (fun h27 => ?_)
  refine aw_iconst (v := 0) rfl (by decide) ?_
  exact aw_z0 rfl rfl ⟨rfl, _, _, rfl⟩
set_option maxRecDepth 4000 in
theorem lm_unP {l : Launch} {g : ag_G} {s : am_S} {n : am_N} {E : Nat} {tx : Nat → Nat} (hx : aw_hx g) (hT : CT s E tx) {w : Nat} {p : Nat} {p1 : Nat} {a : Ex} (c1 : (cst tx E p) = 40) (c2 : w < 6) (z1 : PZ tx E nCond (w + 1) (skw tx E p + 1) (rOk p1 a)) (d1 : (skw tx E p + 1) ≤ E → (w + 1) ≤ 6 → ∀ F K, K ≤ (skw tx E p + 1) → aw_M l g mi_X5_readsCondition (8 + 3 * (6 - (w + 1))) 0 0 [.ref (g_ad g 6), .int (nI (w + 1)), .int 0] (hp g (lm s (skw tx E p + 1) F K) n) (LO g s n none F K (skw tx E p + 1) (rOk p1 a))) (c3 : (cst tx E p1) = 41) (hpE : p ≤ E) (hw : w ≤ 6) : ∀ F K, K ≤ p → aw_M l g mi_X5_readsUnit (7 + 3 * (6 - w)) 0 0 [.ref (g_ad g 6), .int (nI w), .int 0] (hp g (lm s p F K) n) (LO g s n none F K p (rOk (skw tx E p1 + 1) a)) := by
  have hE := hT.2.1
  have hk := skw_b (tx := tx) hpE
  have hnx : skw tx E p + 1 ≤ E := by (have := cst_lt (tx := tx) (E := E) (p := p) (by rw [c1]; decide); omega)
  have hp1 := PZ_pr z1 (by omega)
  have hp2 : p1 ≤ E := hp1.2.1
  intro F K hK
  refine aw_M_of mo_X5_readsUnit (by decide) (Nat.le_of_ble_eq_true rfl) ?_
  refine aw_aload_n rfl rfl ?_
  refine pg_6_0 rfl kl_X5_17 ?_
  refine aw_iV (q0 := 1) (ci := 10) rfl cw_X5_38 rfl rfl rfl (c_signL hT hpE) rfl rfl (Nat.le_of_ble_eq_true rfl) (rmF (by omega)) (rmL (by decide) (by omega)) (Nat.zero_le _) (Nat.zero_le _) ?_
  refine aw_istore_n rfl (by decide) ?_
  refine aw_iload_n rfl rfl ?_
  refine aw_if_ne (tgt := 102) rfl (by decide) (fun h9 => absurd (rfl) h9) (fun h9 => ?_)
  refine aw_iload_n rfl rfl ?_
  refine aw_bipush (v := 33) rfl (by decide) ?_
  refine aw_icmp_eq (tgt := 24) rfl (by decide) (fun h15 => absurd h15 (by rw [c1]; decide)) (fun h15 => ?_)
  refine aw_iload_n rfl rfl ?_
  refine aw_bipush (v := 40) rfl (by decide) ?_
  refine aw_icmp_ne (tgt := 102) rfl (by decide) (fun h21 => absurd (c1) h21) (fun h21 => ?_)
  refine aw_iload_n rfl rfl ?_
  refine aw_bipush (v := 6) rfl (by decide) ?_
  refine aw_icmp_lt (tgt := 32) rfl (by decide) (fun h27 => ?_) (fun h27 => absurd (show nI w < 6 from nI_lt (b := 6) c2 (by decide)) h27)
  refine aw_aload_n rfl rfl ?_
  refine pg_6_0 rfl kl_X5_17 ?_
  refine aw_dup rfl rfl ?_
  refine pg_1_2 rfl kl_X5_31 ?_
  refine aw_iconst (v := 1) rfl (by decide) ?_
  refine aw_iadd rfl ?_
  refine pp_1_2 rfl kl_X5_31 ?_
  refine aw_eqs (ws' := hp g (lm s ((skw tx E p) + 1) F K) n) ?_ rfl rfl (congrArg (fun z => hp g z n) lm_in)
  refine aw_iload_n rfl rfl ?_
  refine aw_bipush (v := 40) rfl (by decide) ?_
  refine aw_icmp_ne (tgt := 80) rfl (by decide) (fun h48 => absurd (c1) h48) (fun h48 => ?_)
  refine aw_aload_n rfl rfl ?_
  refine aw_iload_n rfl rfl ?_
  refine aw_iconst (v := 1) rfl (by decide) ?_
  refine aw_iadd rfl ?_
  refine aw_iconst (v := 0) rfl (by decide) ?_
  rw [nI_1 w]
  refine aw_lK (q0 := 6) (ci := 5) rfl cw_X5_56 rfl rfl rfl (d1 (by omega) (by omega) F K (by omega)) rfl rfl (Nat.le_of_ble_eq_true rfl) (rmF (by omega)) (rmL (by decide) (by omega)) (Nat.zero_le _) (Nat.zero_le _) (fun F1 dd hS => ?_)
  refine aw_if_eq (tgt := 78) rfl (by decide) (fun h59 => absurd h59 (by decide)) (fun h59 => ?_)
  refine aw_aload_n rfl rfl ?_
  refine pg_6_0 rfl kl_X5_17 ?_
  refine aw_bipush (v := 41) rfl (by decide) ?_
  refine aw_iV (q0 := 1) (ci := 10) rfl cw_X5_42 rfl rfl rfl (c_passY hT hp2 c3) rfl rfl (Nat.le_of_ble_eq_true rfl) (rmF (by omega)) (rmL (by decide) (by omega)) (Nat.zero_le _) (Nat.zero_le _) ?_
  refine aw_if_eq (tgt := 78) rfl (by decide) (fun h71 => absurd h71 (by decide)) (fun h71 => ?_)
  refine aw_iconst (v := 1) rfl (by decide) ?_
  refine aw_goto (tgt := 79) rfl (by decide) ?_
  exact aw_z1 rfl rfl ⟨rfl, F1, dd, rfl, SG_wk hS (by omega) (by have := (skw_b (tx := tx) hp2).1; omega)⟩
set_option maxRecDepth 4000 in
theorem lm_unPc {l : Launch} {g : ag_G} {s : am_S} {n : am_N} {E : Nat} {tx : Nat → Nat} (hx : aw_hx g) (hT : CT s E tx) {w : Nat} {p : Nat} {p1 : Nat} {a : Ex} (c1 : (cst tx E p) = 40) (c2 : w < 6) (z1 : PZ tx E nCond (w + 1) (skw tx E p + 1) (rOk p1 a)) (d1 : (skw tx E p + 1) ≤ E → (w + 1) ≤ 6 → ∀ F K, K ≤ (skw tx E p + 1) → aw_M l g mi_X5_readsCondition (8 + 3 * (6 - (w + 1))) 0 0 [.ref (g_ad g 6), .int (nI (w + 1)), .int 0] (hp g (lm s (skw tx E p + 1) F K) n) (LO g s n none F K (skw tx E p + 1) (rOk p1 a))) (c3 : (cst tx E p1) ≠ 41) (hpE : p ≤ E) (hw : w ≤ 6) : ∀ F K, K ≤ p → aw_M l g mi_X5_readsUnit (7 + 3 * (6 - w)) 0 0 [.ref (g_ad g 6), .int (nI w), .int 0] (hp g (lm s p F K) n) (LO g s n none F K p (rNo (skw tx E p1))) := by
  have hE := hT.2.1
  have hk := skw_b (tx := tx) hpE
  have hnx : skw tx E p + 1 ≤ E := by (have := cst_lt (tx := tx) (E := E) (p := p) (by rw [c1]; decide); omega)
  have hp1 := PZ_pr z1 (by omega)
  have hp2 : p1 ≤ E := hp1.2.1
  intro F K hK
  refine aw_M_of mo_X5_readsUnit (by decide) (Nat.le_of_ble_eq_true rfl) ?_
  refine aw_aload_n rfl rfl ?_
  refine pg_6_0 rfl kl_X5_17 ?_
  refine aw_iV (q0 := 1) (ci := 10) rfl cw_X5_38 rfl rfl rfl (c_signL hT hpE) rfl rfl (Nat.le_of_ble_eq_true rfl) (rmF (by omega)) (rmL (by decide) (by omega)) (Nat.zero_le _) (Nat.zero_le _) ?_
  refine aw_istore_n rfl (by decide) ?_
  refine aw_iload_n rfl rfl ?_
  refine aw_if_ne (tgt := 102) rfl (by decide) (fun h9 => absurd (rfl) h9) (fun h9 => ?_)
  refine aw_iload_n rfl rfl ?_
  refine aw_bipush (v := 33) rfl (by decide) ?_
  refine aw_icmp_eq (tgt := 24) rfl (by decide) (fun h15 => absurd h15 (by rw [c1]; decide)) (fun h15 => ?_)
  refine aw_iload_n rfl rfl ?_
  refine aw_bipush (v := 40) rfl (by decide) ?_
  refine aw_icmp_ne (tgt := 102) rfl (by decide) (fun h21 => absurd (c1) h21) (fun h21 => ?_)
  refine aw_iload_n rfl rfl ?_
  refine aw_bipush (v := 6) rfl (by decide) ?_
  refine aw_icmp_lt (tgt := 32) rfl (by decide) (fun h27 => ?_) (fun h27 => absurd (show nI w < 6 from nI_lt (b := 6) c2 (by decide)) h27)
  refine aw_aload_n rfl rfl ?_
  refine pg_6_0 rfl kl_X5_17 ?_
  refine aw_dup rfl rfl ?_
  refine pg_1_2 rfl kl_X5_31 ?_
  refine aw_iconst (v := 1) rfl (by decide) ?_
  refine aw_iadd rfl ?_
  refine pp_1_2 rfl kl_X5_31 ?_
  refine aw_eqs (ws' := hp g (lm s ((skw tx E p) + 1) F K) n) ?_ rfl rfl (congrArg (fun z => hp g z n) lm_in)
  refine aw_iload_n rfl rfl ?_
  refine aw_bipush (v := 40) rfl (by decide) ?_
  refine aw_icmp_ne (tgt := 80) rfl (by decide) (fun h48 => absurd (c1) h48) (fun h48 => ?_)
  refine aw_aload_n rfl rfl ?_
  refine aw_iload_n rfl rfl ?_
  refine aw_iconst (v := 1) rfl (by decide) ?_
  refine aw_iadd rfl ?_
  refine aw_iconst (v := 0) rfl (by decide) ?_
  rw [nI_1 w]
  refine aw_lK (q0 := 6) (ci := 5) rfl cw_X5_56 rfl rfl rfl (d1 (by omega) (by omega) F K (by omega)) rfl rfl (Nat.le_of_ble_eq_true rfl) (rmF (by omega)) (rmL (by decide) (by omega)) (Nat.zero_le _) (Nat.zero_le _) (fun F1 dd hS => ?_)
  refine aw_if_eq (tgt := 78) rfl (by decide) (fun h59 => absurd h59 (by decide)) (fun h59 => ?_)
  refine aw_aload_n rfl rfl ?_
  refine pg_6_0 rfl kl_X5_17 ?_
  refine aw_bipush (v := 41) rfl (by decide) ?_
  refine aw_iV (q0 := 1) (ci := 10) rfl cw_X5_42 rfl rfl rfl (c_passX hT hp2 c3) rfl rfl (Nat.le_of_ble_eq_true rfl) (rmF (by omega)) (rmL (by decide) (by omega)) (Nat.zero_le _) (Nat.zero_le _) ?_
  refine aw_if_eq (tgt := 78) rfl (by decide) (fun h71 => ?_) (fun h71 => absurd (rfl) h71)
  refine aw_iconst (v := 0) rfl (by decide) ?_
  exact aw_z0 rfl rfl ⟨rfl, _, _, rfl⟩
set_option maxRecDepth 4000 in
theorem lm_unPf {l : Launch} {g : ag_G} {s : am_S} {n : am_N} {E : Nat} {tx : Nat → Nat} (hx : aw_hx g) (hT : CT s E tx) {w : Nat} {p : Nat} {f : Nat} (c1 : (cst tx E p) = 40) (c2 : w < 6) (z1 : PZ tx E nCond (w + 1) (skw tx E p + 1) (rNo f)) (d1 : (skw tx E p + 1) ≤ E → (w + 1) ≤ 6 → ∀ F K, K ≤ (skw tx E p + 1) → aw_M l g mi_X5_readsCondition (8 + 3 * (6 - (w + 1))) 0 0 [.ref (g_ad g 6), .int (nI (w + 1)), .int 0] (hp g (lm s (skw tx E p + 1) F K) n) (LO g s n none F K (skw tx E p + 1) (rNo f))) (hpE : p ≤ E) (hw : w ≤ 6) : ∀ F K, K ≤ p → aw_M l g mi_X5_readsUnit (7 + 3 * (6 - w)) 0 0 [.ref (g_ad g 6), .int (nI w), .int 0] (hp g (lm s p F K) n) (LO g s n none F K p (rNo f)) := by
  have hE := hT.2.1
  have hk := skw_b (tx := tx) hpE
  have hnx : skw tx E p + 1 ≤ E := by (have := cst_lt (tx := tx) (E := E) (p := p) (by rw [c1]; decide); omega)
  intro F K hK
  refine aw_M_of mo_X5_readsUnit (by decide) (Nat.le_of_ble_eq_true rfl) ?_
  refine aw_aload_n rfl rfl ?_
  refine pg_6_0 rfl kl_X5_17 ?_
  refine aw_iV (q0 := 1) (ci := 10) rfl cw_X5_38 rfl rfl rfl (c_signL hT hpE) rfl rfl (Nat.le_of_ble_eq_true rfl) (rmF (by omega)) (rmL (by decide) (by omega)) (Nat.zero_le _) (Nat.zero_le _) ?_
  refine aw_istore_n rfl (by decide) ?_
  refine aw_iload_n rfl rfl ?_
  refine aw_if_ne (tgt := 102) rfl (by decide) (fun h9 => absurd (rfl) h9) (fun h9 => ?_)
  refine aw_iload_n rfl rfl ?_
  refine aw_bipush (v := 33) rfl (by decide) ?_
  refine aw_icmp_eq (tgt := 24) rfl (by decide) (fun h15 => absurd h15 (by rw [c1]; decide)) (fun h15 => ?_)
  refine aw_iload_n rfl rfl ?_
  refine aw_bipush (v := 40) rfl (by decide) ?_
  refine aw_icmp_ne (tgt := 102) rfl (by decide) (fun h21 => absurd (c1) h21) (fun h21 => ?_)
  refine aw_iload_n rfl rfl ?_
  refine aw_bipush (v := 6) rfl (by decide) ?_
  refine aw_icmp_lt (tgt := 32) rfl (by decide) (fun h27 => ?_) (fun h27 => absurd (show nI w < 6 from nI_lt (b := 6) c2 (by decide)) h27)
  refine aw_aload_n rfl rfl ?_
  refine pg_6_0 rfl kl_X5_17 ?_
  refine aw_dup rfl rfl ?_
  refine pg_1_2 rfl kl_X5_31 ?_
  refine aw_iconst (v := 1) rfl (by decide) ?_
  refine aw_iadd rfl ?_
  refine pp_1_2 rfl kl_X5_31 ?_
  refine aw_eqs (ws' := hp g (lm s ((skw tx E p) + 1) F K) n) ?_ rfl rfl (congrArg (fun z => hp g z n) lm_in)
  refine aw_iload_n rfl rfl ?_
  refine aw_bipush (v := 40) rfl (by decide) ?_
  refine aw_icmp_ne (tgt := 80) rfl (by decide) (fun h48 => absurd (c1) h48) (fun h48 => ?_)
  refine aw_aload_n rfl rfl ?_
  refine aw_iload_n rfl rfl ?_
  refine aw_iconst (v := 1) rfl (by decide) ?_
  refine aw_iadd rfl ?_
  refine aw_iconst (v := 0) rfl (by decide) ?_
  rw [nI_1 w]
  refine aw_lN (q0 := 6) (ci := 5) rfl cw_X5_56 rfl rfl rfl (d1 (by omega) (by omega) F K (by omega)) rfl rfl (Nat.le_of_ble_eq_true rfl) (rmF (by omega)) (rmL (by decide) (by omega)) (Nat.zero_le _) (Nat.zero_le _) (fun F1 K1 => ?_)
  refine aw_if_eq (tgt := 78) rfl (by decide) (fun h59 => ?_) (fun h59 => absurd (rfl) h59)
  refine aw_iconst (v := 0) rfl (by decide) ?_
  exact aw_z0 rfl rfl ⟨rfl, _, _, rfl⟩
set_option maxRecDepth 4000 in
theorem lm_unP6 {l : Launch} {g : ag_G} {s : am_S} {n : am_N} {E : Nat} {tx : Nat → Nat} (hx : aw_hx g) (hT : CT s E tx) {p : Nat} (c1 : (cst tx E p) = 40) (hpE : p ≤ E) (hw : 6 ≤ 6) : ∀ F K, K ≤ p → aw_M l g mi_X5_readsUnit (7 + 3 * (6 - 6)) 0 0 [.ref (g_ad g 6), .int (nI 6), .int 0] (hp g (lm s p F K) n) (LO g s n none F K p (rNo (skw tx E p))) := by
  have hE := hT.2.1
  have hk := skw_b (tx := tx) hpE
  intro F K hK
  refine aw_M_of mo_X5_readsUnit (by decide) (Nat.le_of_ble_eq_true rfl) ?_
  refine aw_aload_n rfl rfl ?_
  refine pg_6_0 rfl kl_X5_17 ?_
  refine aw_iV (q0 := 1) (ci := 10) rfl cw_X5_38 rfl rfl rfl (c_signL hT hpE) rfl rfl (Nat.le_of_ble_eq_true rfl) (rmF (by omega)) (rmL (by decide) (by omega)) (Nat.zero_le _) (Nat.zero_le _) ?_
  refine aw_istore_n rfl (by decide) ?_
  refine aw_iload_n rfl rfl ?_
  refine aw_if_ne (tgt := 102) rfl (by decide) (fun h9 => absurd (rfl) h9) (fun h9 => ?_)
  refine aw_iload_n rfl rfl ?_
  refine aw_bipush (v := 33) rfl (by decide) ?_
  refine aw_icmp_eq (tgt := 24) rfl (by decide) (fun h15 => absurd h15 (by rw [c1]; decide)) (fun h15 => ?_)
  refine aw_iload_n rfl rfl ?_
  refine aw_bipush (v := 40) rfl (by decide) ?_
  refine aw_icmp_ne (tgt := 102) rfl (by decide) (fun h21 => absurd (c1) h21) (fun h21 => ?_)
  refine aw_iload_n rfl rfl ?_
  refine aw_bipush (v := 6) rfl (by decide) ?_
  refine aw_icmp_lt (tgt := 32) rfl (by decide) (fun h27 => absurd h27 (by decide)) (fun h27 => ?_)
  refine aw_iconst (v := 0) rfl (by decide) ?_
  exact aw_z0 rfl rfl ⟨rfl, _, _, rfl⟩
set_option maxRecDepth 4000 in
theorem lm_unC {l : Launch} {g : ag_G} {s : am_S} {n : am_N} {E : Nat} {tx : Nat → Nat} (hx : aw_hx g) (hT : CT s E tx) {w : Nat} {p : Nat} {p1 : Nat} {a : Ex} {r : Rs} (c1 : (cst tx E p) ≠ 33) (c2 : (cst tx E p) ≠ 40) (z1 : PZ tx E nSum w (skw tx E p) (rOk p1 a)) (d1 : (skw tx E p) ≤ E → w ≤ 6 → ∀ F K, K ≤ (skw tx E p) → aw_M l g mi_X5_readsSum (6 + 3 * (6 - w)) 0 0 [.ref (g_ad g 6), .int (nI w)] (hp g (lm s (skw tx E p) F K) n) (LO g s n none F K (skw tx E p) (rOk p1 a))) (z2 : PZ tx E (nCmp a) w p1 r) (d2 : p1 ≤ E → w ≤ 6 → ∀ F K p' Q, K ≤ p1 → p1 ≤ p' → p' ≤ E → skw tx E p' = skw tx E p1 → QO g s n (some a) F K p1 Q r → aw_W l g mi_X5_readsUnit (aw_rm (7 + 3 * (6 - w)) 0 0) (aw_Z g Q 0 0) 0 0 (hp g (lm s p' F K) n) 116 [some (.ref (g_ad g 6)), some (.int (nI w)), none, none, none] []) (hpE : p ≤ E) (hw : w ≤ 6) : ∀ F K, K ≤ p → aw_M l g mi_X5_readsUnit (7 + 3 * (6 - w)) 0 0 [.ref (g_ad g 6), .int (nI w), .int 0] (hp g (lm s p F K) n) (LO g s n none F K p r) := by
  have hE := hT.2.1
  have hk := skw_b (tx := tx) hpE
  have hp1 := PZ_pr z1 hk.2.1
  have hp2 : p1 ≤ E := hp1.2.1
  intro F K hK
  refine aw_M_of mo_X5_readsUnit (by decide) (Nat.le_of_ble_eq_true rfl) ?_
  refine aw_aload_n rfl rfl ?_
  refine pg_6_0 rfl kl_X5_17 ?_
  refine aw_iV (q0 := 1) (ci := 10) rfl cw_X5_38 rfl rfl rfl (c_signL hT hpE) rfl rfl (Nat.le_of_ble_eq_true rfl) (rmF (by omega)) (rmL (by decide) (by omega)) (Nat.zero_le _) (Nat.zero_le _) ?_
  refine aw_istore_n rfl (by decide) ?_
  refine aw_iload_n rfl rfl ?_
  refine aw_if_ne (tgt := 102) rfl (by decide) (fun h9 => absurd (rfl) h9) (fun h9 => ?_)
  refine aw_iload_n rfl rfl ?_
  refine aw_bipush (v := 33) rfl (by decide) ?_
  refine aw_icmp_eq (tgt := 24) rfl (by decide) (fun h15 => absurd h15 (c1)) (fun h15 => ?_)
  refine aw_iload_n rfl rfl ?_
  refine aw_bipush (v := 40) rfl (by decide) ?_
  refine aw_icmp_ne (tgt := 102) rfl (by decide) (fun h21 => ?_) (fun h21 => absurd h21 (c2))
  refine aw_iload_n rfl rfl ?_
  refine aw_if_ne (tgt := 116) rfl (by decide) (fun h103 => absurd (rfl) h103) (fun h103 => ?_)
  refine aw_aload_n rfl rfl ?_
  refine aw_iload_n rfl rfl ?_
  refine aw_lK (q0 := 6) (ci := 5) rfl cw_X5_46 rfl rfl rfl (d1 hk.2.1 hw F K (by omega)) rfl rfl (Nat.le_of_ble_eq_true rfl) (rmF (by omega)) (rmL (by decide) (by omega)) (Nat.zero_le _) (Nat.zero_le _) (fun F1 dd hS => ?_)
  refine aw_if_ne (tgt := 116) rfl (by decide) (fun h111 => ?_) (fun h111 => absurd h111 (by decide))
  have hg := hS.1
  exact aw_wk (d2 hp2 hw F1 (K + dd) p1 _ (by omega) (Nat.le_refl _) hp2 rfl (QO_tr (SG_wk hS hk.1 (Nat.le_refl _)) r (LO_QO r))) (And.intro rfl (And.intro rfl True.intro))
set_option maxRecDepth 4000 in
theorem lm_unCf {l : Launch} {g : ag_G} {s : am_S} {n : am_N} {E : Nat} {tx : Nat → Nat} (hx : aw_hx g) (hT : CT s E tx) {w : Nat} {p : Nat} {f : Nat} (c1 : (cst tx E p) ≠ 33) (c2 : (cst tx E p) ≠ 40) (z1 : PZ tx E nSum w (skw tx E p) (rNo f)) (d1 : (skw tx E p) ≤ E → w ≤ 6 → ∀ F K, K ≤ (skw tx E p) → aw_M l g mi_X5_readsSum (6 + 3 * (6 - w)) 0 0 [.ref (g_ad g 6), .int (nI w)] (hp g (lm s (skw tx E p) F K) n) (LO g s n none F K (skw tx E p) (rNo f))) (hpE : p ≤ E) (hw : w ≤ 6) : ∀ F K, K ≤ p → aw_M l g mi_X5_readsUnit (7 + 3 * (6 - w)) 0 0 [.ref (g_ad g 6), .int (nI w), .int 0] (hp g (lm s p F K) n) (LO g s n none F K p (rNo f)) := by
  have hE := hT.2.1
  have hk := skw_b (tx := tx) hpE
  intro F K hK
  refine aw_M_of mo_X5_readsUnit (by decide) (Nat.le_of_ble_eq_true rfl) ?_
  refine aw_aload_n rfl rfl ?_
  refine pg_6_0 rfl kl_X5_17 ?_
  refine aw_iV (q0 := 1) (ci := 10) rfl cw_X5_38 rfl rfl rfl (c_signL hT hpE) rfl rfl (Nat.le_of_ble_eq_true rfl) (rmF (by omega)) (rmL (by decide) (by omega)) (Nat.zero_le _) (Nat.zero_le _) ?_
  refine aw_istore_n rfl (by decide) ?_
  refine aw_iload_n rfl rfl ?_
  refine aw_if_ne (tgt := 102) rfl (by decide) (fun h9 => absurd (rfl) h9) (fun h9 => ?_)
  refine aw_iload_n rfl rfl ?_
  refine aw_bipush (v := 33) rfl (by decide) ?_
  refine aw_icmp_eq (tgt := 24) rfl (by decide) (fun h15 => absurd h15 (c1)) (fun h15 => ?_)
  refine aw_iload_n rfl rfl ?_
  refine aw_bipush (v := 40) rfl (by decide) ?_
  refine aw_icmp_ne (tgt := 102) rfl (by decide) (fun h21 => ?_) (fun h21 => absurd h21 (c2))
  refine aw_iload_n rfl rfl ?_
  refine aw_if_ne (tgt := 116) rfl (by decide) (fun h103 => absurd (rfl) h103) (fun h103 => ?_)
  refine aw_aload_n rfl rfl ?_
  refine aw_iload_n rfl rfl ?_
  refine aw_lN (q0 := 6) (ci := 5) rfl cw_X5_46 rfl rfl rfl (d1 hk.2.1 hw F K (by omega)) rfl rfl (Nat.le_of_ble_eq_true rfl) (rmF (by omega)) (rmL (by decide) (by omega)) (Nat.zero_le _) (Nat.zero_le _) (fun F1 K1 => ?_)
  refine aw_if_ne (tgt := 116) rfl (by decide) (fun h111 => absurd (rfl) h111) (fun h111 => ?_)
  refine aw_iconst (v := 0) rfl (by decide) ?_
  exact aw_z0 rfl rfl ⟨rfl, _, _, rfl⟩
set_option maxRecDepth 4000 in
theorem lm_pa {l : Launch} {g : ag_G} {s : am_S} {n : am_N} {E : Nat} {tx : Nat → Nat} (hx : aw_hx g) (hT : CT s E tx) {w : Nat} {p : Nat} {p1 : Nat} {a : Ex} {r : Rs} (z1 : PZ tx E nUnit w p (rOk p1 a)) (d1 : p ≤ E → w ≤ 6 → ∀ F K, K ≤ p → aw_M l g mi_X5_readsUnit (7 + 3 * (6 - w)) 0 0 [.ref (g_ad g 6), .int (nI w), .int 0] (hp g (lm s p F K) n) (LO g s n none F K p (rOk p1 a))) (z2 : PZ tx E (nPl a) w p1 r) (d2 : p1 ≤ E → w ≤ 6 → ∀ F K t (bg orr : Int32) Q, K ≤ p1 → 2 * t + 1 ≤ p1 → TC l g s n w (some a) F K p1 bg orr Q r → aw_W l g mi_X5_readsCondition (aw_rm (8 + 3 * (6 - w)) 0 0) (aw_Z g Q 0 0) 0 0 (hp g (lm s p1 F K) n) 51 [some (.ref (g_ad g 6)), some (.int (nI w)), some (.int bg), none, some (.int orr), some (.int (nI t))] []) (hpE : p ≤ E) (hw : w ≤ 6) : ∀ F K t (bg orr : Int32) Q, K ≤ p → 2 * t ≤ p → (bg = 0 ∨ 0 < t) → TC l g s n w none F K p bg orr Q r → aw_W l g mi_X5_readsCondition (aw_rm (8 + 3 * (6 - w)) 0 0) (aw_Z g Q 0 0) 0 0 (hp g (lm s p F K) n) 8 [some (.ref (g_ad g 6)), some (.int (nI w)), some (.int bg), some (.int 0), some (.int orr), some (.int (nI t))] [] := by
  have hE := hT.2.1
  have hk := skw_b (tx := tx) hpE
  have hp1 := PZ_pr z1 hpE
  have hp2 : p1 ≤ E := hp1.2.1
  have hp3 := hp1.2.2 rfl
  intro F K t bg orr Q hK ht hbg hTC
  refine aw_iload rfl rfl ?_
  refine aw_sipush (v := 240) rfl (by decide) ?_
  refine aw_icmp_ge (tgt := 101) rfl (by decide) (fun h13 => absurd h13 (nI_ge (a := t) (b := 240) (by omega) (by decide))) (fun h13 => ?_)
  refine aw_aload_n rfl rfl ?_
  refine aw_iload_n rfl rfl ?_
  refine aw_iload_n rfl rfl ?_
  refine aw_if_eq (tgt := 31) rfl (by decide) (fun h19 => ?_) (fun h19 => ?_)
  · refine aw_iconst (v := 0) rfl (by decide) ?_
    refine aw_lK (q0 := 6) (ci := 5) rfl cw_X5_60 rfl rfl rfl (d1 hpE hw F K hK) rfl rfl (Nat.le_of_ble_eq_true rfl) (rmF (by omega)) (rmL (by decide) (by omega)) (Nat.zero_le _) (Nat.zero_le _) (fun F1 dd hS => ?_)
    refine aw_if_ne (tgt := 40) rfl (by decide) (fun h35 => ?_) (fun h35 => absurd h35 (by decide))
    have hg := hS.1
    refine aw_iload_n rfl rfl ?_
    refine aw_if_eq (tgt := 51) rfl (by decide) (fun h41 => ?_) (fun h41 => absurd (rfl) h41)
    exact aw_wk (d2 hp2 hw F1 (K + dd) t bg orr Q (by omega) (by omega) (TC_tr hS r hTC)) (And.intro rfl (And.intro rfl (And.intro rfl (And.intro rfl (And.intro rfl True.intro)))))
  · refine aw_iload rfl rfl ?_
    refine aw_if_ne (tgt := 31) rfl (by decide) (fun h24 => ?_) (fun h24 => absurd h24 (nI_ne0 (hbg.resolve_left h19) (by omega)))
    refine aw_iconst (v := 0) rfl (by decide) ?_
    refine aw_lK (q0 := 6) (ci := 5) rfl cw_X5_60 rfl rfl rfl (d1 hpE hw F K hK) rfl rfl (Nat.le_of_ble_eq_true rfl) (rmF (by omega)) (rmL (by decide) (by omega)) (Nat.zero_le _) (Nat.zero_le _) (fun F1 dd hS => ?_)
    refine aw_if_ne (tgt := 40) rfl (by decide) (fun h35 => ?_) (fun h35 => absurd h35 (by decide))
    have hg := hS.1
    refine aw_iload_n rfl rfl ?_
    refine aw_if_eq (tgt := 51) rfl (by decide) (fun h41 => ?_) (fun h41 => absurd (rfl) h41)
    exact aw_wk (d2 hp2 hw F1 (K + dd) t bg orr Q (by omega) (by omega) (TC_tr hS r hTC)) (And.intro rfl (And.intro rfl (And.intro rfl (And.intro rfl (And.intro rfl True.intro)))))
set_option maxRecDepth 4000 in
theorem lm_paf {l : Launch} {g : ag_G} {s : am_S} {n : am_N} {E : Nat} {tx : Nat → Nat} (hx : aw_hx g) (hT : CT s E tx) {w : Nat} {p : Nat} {f : Nat} (z1 : PZ tx E nUnit w p (rNo f)) (d1 : p ≤ E → w ≤ 6 → ∀ F K, K ≤ p → aw_M l g mi_X5_readsUnit (7 + 3 * (6 - w)) 0 0 [.ref (g_ad g 6), .int (nI w), .int 0] (hp g (lm s p F K) n) (LO g s n none F K p (rNo f))) (hpE : p ≤ E) (hw : w ≤ 6) : ∀ F K t (bg orr : Int32) Q, K ≤ p → 2 * t ≤ p → (bg = 0 ∨ 0 < t) → TC l g s n w none F K p bg orr Q (rNo f) → aw_W l g mi_X5_readsCondition (aw_rm (8 + 3 * (6 - w)) 0 0) (aw_Z g Q 0 0) 0 0 (hp g (lm s p F K) n) 8 [some (.ref (g_ad g 6)), some (.int (nI w)), some (.int bg), some (.int 0), some (.int orr), some (.int (nI t))] [] := by
  have hE := hT.2.1
  have hk := skw_b (tx := tx) hpE
  intro F K t bg orr Q hK ht hbg hTC
  refine aw_iload rfl rfl ?_
  refine aw_sipush (v := 240) rfl (by decide) ?_
  refine aw_icmp_ge (tgt := 101) rfl (by decide) (fun h13 => absurd h13 (nI_ge (a := t) (b := 240) (by omega) (by decide))) (fun h13 => ?_)
  refine aw_aload_n rfl rfl ?_
  refine aw_iload_n rfl rfl ?_
  refine aw_iload_n rfl rfl ?_
  refine aw_if_eq (tgt := 31) rfl (by decide) (fun h19 => ?_) (fun h19 => ?_)
  · refine aw_iconst (v := 0) rfl (by decide) ?_
    refine aw_lN (q0 := 6) (ci := 5) rfl cw_X5_60 rfl rfl rfl (d1 hpE hw F K hK) rfl rfl (Nat.le_of_ble_eq_true rfl) (rmF (by omega)) (rmL (by decide) (by omega)) (Nat.zero_le _) (Nat.zero_le _) (fun F1 K1 => ?_)
    refine aw_if_ne (tgt := 40) rfl (by decide) (fun h35 => absurd (rfl) h35) (fun h35 => ?_)
    refine aw_iconst (v := 0) rfl (by decide) ?_
    exact aw_z0 rfl rfl (hTC F1 K1)
  · refine aw_iload rfl rfl ?_
    refine aw_if_ne (tgt := 31) rfl (by decide) (fun h24 => ?_) (fun h24 => absurd h24 (nI_ne0 (hbg.resolve_left h19) (by omega)))
    refine aw_iconst (v := 0) rfl (by decide) ?_
    refine aw_lN (q0 := 6) (ci := 5) rfl cw_X5_60 rfl rfl rfl (d1 hpE hw F K hK) rfl rfl (Nat.le_of_ble_eq_true rfl) (rmF (by omega)) (rmL (by decide) (by omega)) (Nat.zero_le _) (Nat.zero_le _) (fun F1 K1 => ?_)
    refine aw_if_ne (tgt := 40) rfl (by decide) (fun h35 => absurd (rfl) h35) (fun h35 => ?_)
    refine aw_iconst (v := 0) rfl (by decide) ?_
    exact aw_z0 rfl rfl (hTC F1 K1)
set_option maxRecDepth 4000 in
theorem lm_pb {l : Launch} {g : ag_G} {s : am_S} {n : am_N} {E : Nat} {tx : Nat → Nat} (hx : aw_hx g) (hT : CT s E tx) {w : Nat} {p : Nat} {p1 : Nat} {v : Ex} {a : Ex} {r : Rs} (z1 : PZ tx E (nCmp v) w p (rOk p1 a)) (d1 : p ≤ E → w ≤ 6 → ∀ F K p' Q, K ≤ p → p ≤ p' → p' ≤ E → skw tx E p' = skw tx E p → QO g s n (some v) F K p Q (rOk p1 a) → aw_W l g mi_X5_readsUnit (aw_rm (7 + 3 * (6 - w)) 0 0) (aw_Z g Q 0 0) 0 0 (hp g (lm s p' F K) n) 116 [some (.ref (g_ad g 6)), some (.int (nI w)), none, none, none] []) (z2 : PZ tx E (nPl a) w p1 r) (d2 : p1 ≤ E → w ≤ 6 → ∀ F K t (bg orr : Int32) Q, K ≤ p1 → 2 * t + 1 ≤ p1 → TC l g s n w (some a) F K p1 bg orr Q r → aw_W l g mi_X5_readsCondition (aw_rm (8 + 3 * (6 - w)) 0 0) (aw_Z g Q 0 0) 0 0 (hp g (lm s p1 F K) n) 51 [some (.ref (g_ad g 6)), some (.int (nI w)), some (.int bg), none, some (.int orr), some (.int (nI t))] []) (hpE : p ≤ E) (hw : w ≤ 6) : ∀ F K Q, K ≤ p → TC l g s n w (some v) F K p 1 0 Q r → aw_W l g mi_X5_readsCondition (aw_rm (8 + 3 * (6 - w)) 0 0) (aw_Z g Q 0 0) 0 0 (hp g (lm s p F K) n) 8 [some (.ref (g_ad g 6)), some (.int (nI w)), some (.int 1), some (.int 0), some (.int 0), some (.int (nI 0))] [] := by
  have hE := hT.2.1
  have hk := skw_b (tx := tx) hpE
  have hp1 := PZ_pr z1 hpE
  have hp2 : p1 ≤ E := hp1.2.1
  have hp3 := hp1.2.2 rfl
  intro F K Q hK hTC
  have hcm : aw_M l g mi_X5_readsUnit (7 + 3 * (6 - w)) 0 0 [.ref (g_ad g 6), .int (nI w), .int 1] (hp g (lm s p F K) n) (LO g s n (some v) F K p (rOk p1 a)) := by
    refine aw_M_of mo_X5_readsUnit (by decide) (Nat.le_of_ble_eq_true rfl) ?_
    refine aw_aload_n rfl rfl ?_
    refine pg_6_0 rfl kl_X5_17 ?_
    refine aw_iV (q0 := 1) (ci := 10) rfl cw_X5_38 rfl rfl rfl (c_signL hT hpE) rfl rfl (Nat.le_of_ble_eq_true rfl) (rmF (by omega)) (rmL (by decide) (by omega)) (Nat.zero_le _) (Nat.zero_le _) ?_
    refine aw_istore_n rfl (by decide) ?_
    refine aw_iload_n rfl rfl ?_
    refine aw_if_ne (tgt := 102) rfl (by decide) (fun h9 => ?_) (fun h9 => absurd h9 (by decide))
    refine aw_iload_n rfl rfl ?_
    refine aw_if_ne (tgt := 116) rfl (by decide) (fun h103 => ?_) (fun h103 => absurd h103 (by decide))
    exact aw_wk (d1 hpE hw F K (skw tx E p) _ hK hk.1 hk.2.1 (skw_sk hpE) (LO_QO (rOk p1 a))) (And.intro rfl (And.intro rfl True.intro))
  refine aw_iload rfl rfl ?_
  refine aw_sipush (v := 240) rfl (by decide) ?_
  refine aw_icmp_ge (tgt := 101) rfl (by decide) (fun h13 => absurd h13 (by decide)) (fun h13 => ?_)
  refine aw_aload_n rfl rfl ?_
  refine aw_iload_n rfl rfl ?_
  refine aw_iload_n rfl rfl ?_
  refine aw_if_eq (tgt := 31) rfl (by decide) (fun h19 => absurd h19 (by decide)) (fun h19 => ?_)
  refine aw_iload rfl rfl ?_
  refine aw_if_ne (tgt := 31) rfl (by decide) (fun h24 => absurd (rfl) h24) (fun h24 => ?_)
  refine aw_iconst (v := 1) rfl (by decide) ?_
  refine aw_goto (tgt := 32) rfl (by decide) ?_
  refine aw_lK (q0 := 6) (ci := 5) rfl cw_X5_60 rfl rfl rfl (hcm) rfl rfl (Nat.le_of_ble_eq_true rfl) (rmF (by omega)) (rmL (by decide) (by omega)) (Nat.zero_le _) (Nat.zero_le _) (fun F1 dd hS => ?_)
  refine aw_if_ne (tgt := 40) rfl (by decide) (fun h35 => ?_) (fun h35 => absurd h35 (by decide))
  have hg := hS.1
  refine aw_iload_n rfl rfl ?_
  refine aw_if_eq (tgt := 51) rfl (by decide) (fun h41 => ?_) (fun h41 => absurd (rfl) h41)
  exact aw_wk (d2 hp2 hw F1 (K + dd) 0 1 0 Q (by omega) (by omega) (TC_tr hS r hTC)) (And.intro rfl (And.intro rfl (And.intro rfl (And.intro rfl (And.intro rfl True.intro)))))
set_option maxRecDepth 4000 in
theorem lm_pbf {l : Launch} {g : ag_G} {s : am_S} {n : am_N} {E : Nat} {tx : Nat → Nat} (hx : aw_hx g) (hT : CT s E tx) {w : Nat} {p : Nat} {f : Nat} {v : Ex} (z1 : PZ tx E (nCmp v) w p (rNo f)) (d1 : p ≤ E → w ≤ 6 → ∀ F K p' Q, K ≤ p → p ≤ p' → p' ≤ E → skw tx E p' = skw tx E p → QO g s n (some v) F K p Q (rNo f) → aw_W l g mi_X5_readsUnit (aw_rm (7 + 3 * (6 - w)) 0 0) (aw_Z g Q 0 0) 0 0 (hp g (lm s p' F K) n) 116 [some (.ref (g_ad g 6)), some (.int (nI w)), none, none, none] []) (hpE : p ≤ E) (hw : w ≤ 6) : ∀ F K Q, K ≤ p → TC l g s n w (some v) F K p 1 0 Q (rNo f) → aw_W l g mi_X5_readsCondition (aw_rm (8 + 3 * (6 - w)) 0 0) (aw_Z g Q 0 0) 0 0 (hp g (lm s p F K) n) 8 [some (.ref (g_ad g 6)), some (.int (nI w)), some (.int 1), some (.int 0), some (.int 0), some (.int (nI 0))] [] := by
  have hE := hT.2.1
  have hk := skw_b (tx := tx) hpE
  intro F K Q hK hTC
  have hcm : aw_M l g mi_X5_readsUnit (7 + 3 * (6 - w)) 0 0 [.ref (g_ad g 6), .int (nI w), .int 1] (hp g (lm s p F K) n) (LO g s n (some v) F K p (rNo f)) := by
    refine aw_M_of mo_X5_readsUnit (by decide) (Nat.le_of_ble_eq_true rfl) ?_
    refine aw_aload_n rfl rfl ?_
    refine pg_6_0 rfl kl_X5_17 ?_
    refine aw_iV (q0 := 1) (ci := 10) rfl cw_X5_38 rfl rfl rfl (c_signL hT hpE) rfl rfl (Nat.le_of_ble_eq_true rfl) (rmF (by omega)) (rmL (by decide) (by omega)) (Nat.zero_le _) (Nat.zero_le _) ?_
    refine aw_istore_n rfl (by decide) ?_
    refine aw_iload_n rfl rfl ?_
    refine aw_if_ne (tgt := 102) rfl (by decide) (fun h9 => ?_) (fun h9 => absurd h9 (by decide))
    refine aw_iload_n rfl rfl ?_
    refine aw_if_ne (tgt := 116) rfl (by decide) (fun h103 => ?_) (fun h103 => absurd h103 (by decide))
    exact aw_wk (d1 hpE hw F K (skw tx E p) _ hK hk.1 hk.2.1 (skw_sk hpE) (LO_QO (rNo f))) (And.intro rfl (And.intro rfl True.intro))
  refine aw_iload rfl rfl ?_
  refine aw_sipush (v := 240) rfl (by decide) ?_
  refine aw_icmp_ge (tgt := 101) rfl (by decide) (fun h13 => absurd h13 (by decide)) (fun h13 => ?_)
  refine aw_aload_n rfl rfl ?_
  refine aw_iload_n rfl rfl ?_
  refine aw_iload_n rfl rfl ?_
  refine aw_if_eq (tgt := 31) rfl (by decide) (fun h19 => absurd h19 (by decide)) (fun h19 => ?_)
  refine aw_iload rfl rfl ?_
  refine aw_if_ne (tgt := 31) rfl (by decide) (fun h24 => absurd (rfl) h24) (fun h24 => ?_)
  refine aw_iconst (v := 1) rfl (by decide) ?_
  refine aw_goto (tgt := 32) rfl (by decide) ?_
  refine aw_lN (q0 := 6) (ci := 5) rfl cw_X5_60 rfl rfl rfl (hcm) rfl rfl (Nat.le_of_ble_eq_true rfl) (rmF (by omega)) (rmL (by decide) (by omega)) (Nat.zero_le _) (Nat.zero_le _) (fun F1 K1 => ?_)
  refine aw_if_ne (tgt := 40) rfl (by decide) (fun h35 => absurd (rfl) h35) (fun h35 => ?_)
  refine aw_iconst (v := 0) rfl (by decide) ?_
  exact aw_z0 rfl rfl (hTC F1 K1)
set_option maxRecDepth 4000 in
theorem lm_plS {l : Launch} {g : ag_G} {s : am_S} {n : am_N} {E : Nat} {tx : Nat → Nat} (hx : aw_hx g) (hT : CT s E tx) {w : Nat} {p : Nat} {v : Ex} (c1 : (cst tx E p) ≠ 38) (hpE : p ≤ E) (hw : w ≤ 6) : ∀ F K t (bg orr : Int32) Q, K ≤ p → 2 * t + 1 ≤ p → TC l g s n w (some v) F K p bg orr Q (rOk (skw tx E p) v) → aw_W l g mi_X5_readsCondition (aw_rm (8 + 3 * (6 - w)) 0 0) (aw_Z g Q 0 0) 0 0 (hp g (lm s p F K) n) 51 [some (.ref (g_ad g 6)), some (.int (nI w)), some (.int bg), none, some (.int orr), some (.int (nI t))] [] := by
  have hE := hT.2.1
  have hk := skw_b (tx := tx) hpE
  intro F K t bg orr Q hK ht hTC
  refine aw_aload_n rfl rfl ?_
  refine pg_6_0 rfl kl_X5_17 ?_
  refine aw_bipush (v := 38) rfl (by decide) ?_
  refine aw_iV (q0 := 1) (ci := 10) rfl cw_X5_42 rfl rfl rfl (c_passX hT hpE c1) rfl rfl (Nat.le_of_ble_eq_true rfl) (rmF (by omega)) (rmL (by decide) (by omega)) (Nat.zero_le _) (Nat.zero_le _) ?_
  refine aw_istore_n rfl (by decide) ?_
  refine aw_iload_n rfl rfl ?_
  refine aw_if_ne (tgt := 95) rfl (by decide) (fun h62 => absurd (rfl) h62) (fun h62 => ?_)
  exact aw_wk (hTC F 0 t (SG_0 hk.1) (by omega)) (And.intro rfl (And.intro rfl (And.intro rfl (And.intro rfl (And.intro rfl (And.intro rfl True.intro))))))
set_option maxRecDepth 4000 in
theorem lm_plA {l : Launch} {g : ag_G} {s : am_S} {n : am_N} {E : Nat} {tx : Nat → Nat} (hx : aw_hx g) (hT : CT s E tx) {w : Nat} {p : Nat} {p1 : Nat} {v : Ex} {a : Ex} {r : Rs} (c1 : (cst tx E p) = 38) (z1 : PZ tx E nUnit w (skw tx E p + 1) (rOk p1 a)) (d1 : (skw tx E p + 1) ≤ E → w ≤ 6 → ∀ F K, K ≤ (skw tx E p + 1) → aw_M l g mi_X5_readsUnit (7 + 3 * (6 - w)) 0 0 [.ref (g_ad g 6), .int (nI w), .int 0] (hp g (lm s (skw tx E p + 1) F K) n) (LO g s n none F K (skw tx E p + 1) (rOk p1 a))) (z2 : PZ tx E (nPl (eAnd v a)) w p1 r) (d2 : p1 ≤ E → w ≤ 6 → ∀ F K t (bg orr : Int32) Q, K ≤ p1 → 2 * t + 1 ≤ p1 → TC l g s n w (some (eAnd v a)) F K p1 bg orr Q r → aw_W l g mi_X5_readsCondition (aw_rm (8 + 3 * (6 - w)) 0 0) (aw_Z g Q 0 0) 0 0 (hp g (lm s p1 F K) n) 51 [some (.ref (g_ad g 6)), some (.int (nI w)), some (.int bg), none, some (.int orr), some (.int (nI t))] []) (hpE : p ≤ E) (hw : w ≤ 6) : ∀ F K t (bg orr : Int32) Q, K ≤ p → 2 * t + 1 ≤ p → TC l g s n w (some v) F K p bg orr Q r → aw_W l g mi_X5_readsCondition (aw_rm (8 + 3 * (6 - w)) 0 0) (aw_Z g Q 0 0) 0 0 (hp g (lm s p F K) n) 51 [some (.ref (g_ad g 6)), some (.int (nI w)), some (.int bg), none, some (.int orr), some (.int (nI t))] [] := by
  have hE := hT.2.1
  have hk := skw_b (tx := tx) hpE
  have hnx : skw tx E p + 1 ≤ E := by (have := cst_lt (tx := tx) (E := E) (p := p) (by rw [c1]; decide); omega)
  have hp1 := PZ_pr z1 (by omega)
  have hp2 : p1 ≤ E := hp1.2.1
  have hp3 := hp1.2.2 rfl
  intro F K t bg orr Q hK ht hTC
  refine aw_aload_n rfl rfl ?_
  refine pg_6_0 rfl kl_X5_17 ?_
  refine aw_bipush (v := 38) rfl (by decide) ?_
  refine aw_iV (q0 := 1) (ci := 10) rfl cw_X5_42 rfl rfl rfl (c_passY hT hpE c1) rfl rfl (Nat.le_of_ble_eq_true rfl) (rmF (by omega)) (rmL (by decide) (by omega)) (Nat.zero_le _) (Nat.zero_le _) ?_
  refine aw_istore_n rfl (by decide) ?_
  refine aw_iload_n rfl rfl ?_
  refine aw_if_ne (tgt := 95) rfl (by decide) (fun h62 => ?_) (fun h62 => absurd h62 (by decide))
  refine aw_inc1 rfl rfl (by decide) ?_
  refine aw_goto (tgt := 8) rfl (by decide) ?_
  refine aw_iload rfl rfl ?_
  refine aw_sipush (v := 240) rfl (by decide) ?_
  refine aw_icmp_ge (tgt := 101) rfl (by decide) (fun h13 => absurd h13 (by rw [nI_1]; exact nI_ge (a := t + 1) (b := 240) (by omega) (by decide))) (fun h13 => ?_)
  refine aw_aload_n rfl rfl ?_
  refine aw_iload_n rfl rfl ?_
  refine aw_iload_n rfl rfl ?_
  refine aw_if_eq (tgt := 31) rfl (by decide) (fun h19 => ?_) (fun h19 => ?_)
  · refine aw_iconst (v := 0) rfl (by decide) ?_
    refine aw_lK (q0 := 6) (ci := 5) rfl cw_X5_60 rfl rfl rfl (d1 (by omega) hw F K (by omega)) rfl rfl (Nat.le_of_ble_eq_true rfl) (rmF (by omega)) (rmL (by decide) (by omega)) (Nat.zero_le _) (Nat.zero_le _) (fun F1 dd hS => ?_)
    refine aw_if_ne (tgt := 40) rfl (by decide) (fun h35 => ?_) (fun h35 => absurd h35 (by decide))
    have hg := hS.1
    refine aw_iload_n rfl rfl ?_
    refine aw_if_eq (tgt := 51) rfl (by decide) (fun h41 => absurd h41 (by decide)) (fun h41 => ?_)
    refine aw_aload_n rfl rfl ?_
    refine aw_sipush (v := 20038) rfl (by decide) ?_
    refine aw_vV (q0 := 6) (ci := 5) rfl cw_X5_52 rfl rfl rfl (c_emitL (by omega)) rfl rfl (Nat.le_of_ble_eq_true rfl) (rmF (by omega)) (rmL (by decide) (by omega)) (Nat.zero_le _) (Nat.zero_le _) ?_
    exact aw_wk (d2 hp2 hw _ (K + (dd + 1)) (t + 1) bg orr Q (by omega) (by omega) (TC_tr (SG_bin hS (by omega) stp_and) r hTC)) (And.intro rfl (And.intro rfl (And.intro rfl (And.intro rfl (And.intro (congrArg (fun x => some (Value.int x)) (nI_1 t)) True.intro)))))
  · refine aw_iload rfl rfl ?_
    refine aw_if_ne (tgt := 31) rfl (by decide) (fun h24 => ?_) (fun h24 => absurd h24 (by rw [nI_1]; exact nI_ne0 (by omega) (by omega)))
    refine aw_iconst (v := 0) rfl (by decide) ?_
    refine aw_lK (q0 := 6) (ci := 5) rfl cw_X5_60 rfl rfl rfl (d1 (by omega) hw F K (by omega)) rfl rfl (Nat.le_of_ble_eq_true rfl) (rmF (by omega)) (rmL (by decide) (by omega)) (Nat.zero_le _) (Nat.zero_le _) (fun F1 dd hS => ?_)
    refine aw_if_ne (tgt := 40) rfl (by decide) (fun h35 => ?_) (fun h35 => absurd h35 (by decide))
    have hg := hS.1
    refine aw_iload_n rfl rfl ?_
    refine aw_if_eq (tgt := 51) rfl (by decide) (fun h41 => absurd h41 (by decide)) (fun h41 => ?_)
    refine aw_aload_n rfl rfl ?_
    refine aw_sipush (v := 20038) rfl (by decide) ?_
    refine aw_vV (q0 := 6) (ci := 5) rfl cw_X5_52 rfl rfl rfl (c_emitL (by omega)) rfl rfl (Nat.le_of_ble_eq_true rfl) (rmF (by omega)) (rmL (by decide) (by omega)) (Nat.zero_le _) (Nat.zero_le _) ?_
    exact aw_wk (d2 hp2 hw _ (K + (dd + 1)) (t + 1) bg orr Q (by omega) (by omega) (TC_tr (SG_bin hS (by omega) stp_and) r hTC)) (And.intro rfl (And.intro rfl (And.intro rfl (And.intro rfl (And.intro (congrArg (fun x => some (Value.int x)) (nI_1 t)) True.intro)))))
set_option maxRecDepth 4000 in
theorem lm_plF {l : Launch} {g : ag_G} {s : am_S} {n : am_N} {E : Nat} {tx : Nat → Nat} (hx : aw_hx g) (hT : CT s E tx) {w : Nat} {p : Nat} {f : Nat} {v : Ex} (c1 : (cst tx E p) = 38) (z1 : PZ tx E nUnit w (skw tx E p + 1) (rNo f)) (d1 : (skw tx E p + 1) ≤ E → w ≤ 6 → ∀ F K, K ≤ (skw tx E p + 1) → aw_M l g mi_X5_readsUnit (7 + 3 * (6 - w)) 0 0 [.ref (g_ad g 6), .int (nI w), .int 0] (hp g (lm s (skw tx E p + 1) F K) n) (LO g s n none F K (skw tx E p + 1) (rNo f))) (hpE : p ≤ E) (hw : w ≤ 6) : ∀ F K t (bg orr : Int32) Q, K ≤ p → 2 * t + 1 ≤ p → TC l g s n w (some v) F K p bg orr Q (rNo f) → aw_W l g mi_X5_readsCondition (aw_rm (8 + 3 * (6 - w)) 0 0) (aw_Z g Q 0 0) 0 0 (hp g (lm s p F K) n) 51 [some (.ref (g_ad g 6)), some (.int (nI w)), some (.int bg), none, some (.int orr), some (.int (nI t))] [] := by
  have hE := hT.2.1
  have hk := skw_b (tx := tx) hpE
  have hnx : skw tx E p + 1 ≤ E := by (have := cst_lt (tx := tx) (E := E) (p := p) (by rw [c1]; decide); omega)
  intro F K t bg orr Q hK ht hTC
  refine aw_aload_n rfl rfl ?_
  refine pg_6_0 rfl kl_X5_17 ?_
  refine aw_bipush (v := 38) rfl (by decide) ?_
  refine aw_iV (q0 := 1) (ci := 10) rfl cw_X5_42 rfl rfl rfl (c_passY hT hpE c1) rfl rfl (Nat.le_of_ble_eq_true rfl) (rmF (by omega)) (rmL (by decide) (by omega)) (Nat.zero_le _) (Nat.zero_le _) ?_
  refine aw_istore_n rfl (by decide) ?_
  refine aw_iload_n rfl rfl ?_
  refine aw_if_ne (tgt := 95) rfl (by decide) (fun h62 => ?_) (fun h62 => absurd h62 (by decide))
  refine aw_inc1 rfl rfl (by decide) ?_
  refine aw_goto (tgt := 8) rfl (by decide) ?_
  refine aw_iload rfl rfl ?_
  refine aw_sipush (v := 240) rfl (by decide) ?_
  refine aw_icmp_ge (tgt := 101) rfl (by decide) (fun h13 => absurd h13 (by rw [nI_1]; exact nI_ge (a := t + 1) (b := 240) (by omega) (by decide))) (fun h13 => ?_)
  refine aw_aload_n rfl rfl ?_
  refine aw_iload_n rfl rfl ?_
  refine aw_iload_n rfl rfl ?_
  refine aw_if_eq (tgt := 31) rfl (by decide) (fun h19 => ?_) (fun h19 => ?_)
  · refine aw_iconst (v := 0) rfl (by decide) ?_
    refine aw_lN (q0 := 6) (ci := 5) rfl cw_X5_60 rfl rfl rfl (d1 (by omega) hw F K (by omega)) rfl rfl (Nat.le_of_ble_eq_true rfl) (rmF (by omega)) (rmL (by decide) (by omega)) (Nat.zero_le _) (Nat.zero_le _) (fun F1 K1 => ?_)
    refine aw_if_ne (tgt := 40) rfl (by decide) (fun h35 => absurd (rfl) h35) (fun h35 => ?_)
    refine aw_iconst (v := 0) rfl (by decide) ?_
    exact aw_z0 rfl rfl (hTC F1 K1)
  · refine aw_iload rfl rfl ?_
    refine aw_if_ne (tgt := 31) rfl (by decide) (fun h24 => ?_) (fun h24 => absurd h24 (by rw [nI_1]; exact nI_ne0 (by omega) (by omega)))
    refine aw_iconst (v := 0) rfl (by decide) ?_
    refine aw_lN (q0 := 6) (ci := 5) rfl cw_X5_60 rfl rfl rfl (d1 (by omega) hw F K (by omega)) rfl rfl (Nat.le_of_ble_eq_true rfl) (rmF (by omega)) (rmL (by decide) (by omega)) (Nat.zero_le _) (Nat.zero_le _) (fun F1 K1 => ?_)
    refine aw_if_ne (tgt := 40) rfl (by decide) (fun h35 => absurd (rfl) h35) (fun h35 => ?_)
    refine aw_iconst (v := 0) rfl (by decide) ?_
    exact aw_z0 rfl rfl (hTC F1 K1)
set_option maxRecDepth 4000 in
theorem lm_co {l : Launch} {g : ag_G} {s : am_S} {n : am_N} {E : Nat} {tx : Nat → Nat} (hx : aw_hx g) (hT : CT s E tx) {w : Nat} {p : Nat} {p1 : Nat} {a : Ex} {r : Rs} (z1 : PZ tx E nPart w p (rOk p1 a)) (d1 : p ≤ E → w ≤ 6 → ∀ F K t (bg orr : Int32) Q, K ≤ p → 2 * t ≤ p → (bg = 0 ∨ 0 < t) → TC l g s n w none F K p bg orr Q (rOk p1 a) → aw_W l g mi_X5_readsCondition (aw_rm (8 + 3 * (6 - w)) 0 0) (aw_Z g Q 0 0) 0 0 (hp g (lm s p F K) n) 8 [some (.ref (g_ad g 6)), some (.int (nI w)), some (.int bg), some (.int 0), some (.int orr), some (.int (nI t))] []) (z2 : PZ tx E (nQl a) w p1 r) (d2 : p1 ≤ E → w ≤ 6 → ∀ F K t (bg : Int32) Q, K ≤ p1 → 2 * t + 1 ≤ p1 → QO g s n (some a) F K p1 Q r → aw_W l g mi_X5_readsCondition (aw_rm (8 + 3 * (6 - w)) 0 0) (aw_Z g Q 0 0) 0 0 (hp g (lm s p1 F K) n) 77 [some (.ref (g_ad g 6)), some (.int (nI w)), some (.int bg), some (.int 0), none, some (.int (nI t))] []) (hpE : p ≤ E) (hw : w ≤ 6) : ∀ F K, K ≤ p → aw_M l g mi_X5_readsCondition (8 + 3 * (6 - w)) 0 0 [.ref (g_ad g 6), .int (nI w), .int 0] (hp g (lm s p F K) n) (LO g s n none F K p r) := by
  have hE := hT.2.1
  have hk := skw_b (tx := tx) hpE
  have hp1 := PZ_pr z1 hpE
  have hp2 : p1 ≤ E := hp1.2.1
  have hp3 := hp1.2.2 rfl
  intro F K hK
  refine aw_M_of mo_X5_readsCondition (by decide) (Nat.le_of_ble_eq_true rfl) ?_
  refine aw_iconst (v := 0) rfl (by decide) ?_
  refine aw_istore_n rfl (by decide) ?_
  refine aw_iconst (v := 0) rfl (by decide) ?_
  refine aw_istore rfl (by decide) ?_
  refine aw_iconst (v := 0) rfl (by decide) ?_
  refine aw_istore rfl (by decide) ?_
  refine aw_wk (d1 hpE hw F K 0 0 0 _ hK (by omega) (Or.inl rfl) (fun F1 dd t1 hS ht1 => ?_)) (And.intro rfl (And.intro rfl (And.intro rfl (And.intro rfl (And.intro rfl (And.intro rfl True.intro))))))
  have hg := hS.1
  refine aw_iload rfl rfl ?_
  refine aw_if_eq (tgt := 77) rfl (by decide) (fun h67 => ?_) (fun h67 => absurd (rfl) h67)
  exact aw_wk (d2 hp2 hw F1 (K + dd) t1 0 _ (by omega) ht1 (QO_tr hS r (LO_QO r))) (And.intro rfl (And.intro rfl (And.intro rfl (And.intro rfl (And.intro rfl True.intro)))))
set_option maxRecDepth 4000 in
theorem lm_cof {l : Launch} {g : ag_G} {s : am_S} {n : am_N} {E : Nat} {tx : Nat → Nat} (hx : aw_hx g) (hT : CT s E tx) {w : Nat} {p : Nat} {f : Nat} (z1 : PZ tx E nPart w p (rNo f)) (d1 : p ≤ E → w ≤ 6 → ∀ F K t (bg orr : Int32) Q, K ≤ p → 2 * t ≤ p → (bg = 0 ∨ 0 < t) → TC l g s n w none F K p bg orr Q (rNo f) → aw_W l g mi_X5_readsCondition (aw_rm (8 + 3 * (6 - w)) 0 0) (aw_Z g Q 0 0) 0 0 (hp g (lm s p F K) n) 8 [some (.ref (g_ad g 6)), some (.int (nI w)), some (.int bg), some (.int 0), some (.int orr), some (.int (nI t))] []) (hpE : p ≤ E) (hw : w ≤ 6) : ∀ F K, K ≤ p → aw_M l g mi_X5_readsCondition (8 + 3 * (6 - w)) 0 0 [.ref (g_ad g 6), .int (nI w), .int 0] (hp g (lm s p F K) n) (LO g s n none F K p (rNo f)) := by
  have hE := hT.2.1
  have hk := skw_b (tx := tx) hpE
  intro F K hK
  refine aw_M_of mo_X5_readsCondition (by decide) (Nat.le_of_ble_eq_true rfl) ?_
  refine aw_iconst (v := 0) rfl (by decide) ?_
  refine aw_istore_n rfl (by decide) ?_
  refine aw_iconst (v := 0) rfl (by decide) ?_
  refine aw_istore rfl (by decide) ?_
  refine aw_iconst (v := 0) rfl (by decide) ?_
  refine aw_istore rfl (by decide) ?_
  exact aw_wk (d1 hpE hw F K 0 0 0 _ hK (by omega) (Or.inl rfl) (fun F1 K1 => ⟨rfl, F1, K1, rfl⟩)) (And.intro rfl (And.intro rfl (And.intro rfl (And.intro rfl (And.intro rfl (And.intro rfl True.intro))))))
set_option maxRecDepth 4000 in
theorem lm_cp {l : Launch} {g : ag_G} {s : am_S} {n : am_N} {E : Nat} {tx : Nat → Nat} (hx : aw_hx g) (hT : CT s E tx) {w : Nat} {p : Nat} {p1 : Nat} {v : Ex} {a : Ex} {r : Rs} (z1 : PZ tx E (nPart1 v) w p (rOk p1 a)) (d1 : p ≤ E → w ≤ 6 → ∀ F K Q, K ≤ p → TC l g s n w (some v) F K p 1 0 Q (rOk p1 a) → aw_W l g mi_X5_readsCondition (aw_rm (8 + 3 * (6 - w)) 0 0) (aw_Z g Q 0 0) 0 0 (hp g (lm s p F K) n) 8 [some (.ref (g_ad g 6)), some (.int (nI w)), some (.int 1), some (.int 0), some (.int 0), some (.int (nI 0))] []) (z2 : PZ tx E (nQl a) w p1 r) (d2 : p1 ≤ E → w ≤ 6 → ∀ F K t (bg : Int32) Q, K ≤ p1 → 2 * t + 1 ≤ p1 → QO g s n (some a) F K p1 Q r → aw_W l g mi_X5_readsCondition (aw_rm (8 + 3 * (6 - w)) 0 0) (aw_Z g Q 0 0) 0 0 (hp g (lm s p1 F K) n) 77 [some (.ref (g_ad g 6)), some (.int (nI w)), some (.int bg), some (.int 0), none, some (.int (nI t))] []) (hpE : p ≤ E) (hw : w ≤ 6) : ∀ F K, K ≤ p → aw_M l g mi_X5_readsCondition (8 + 3 * (6 - w)) 0 0 [.ref (g_ad g 6), .int (nI w), .int 1] (hp g (lm s p F K) n) (LO g s n (some v) F K p r) := by
  have hE := hT.2.1
  have hk := skw_b (tx := tx) hpE
  have hp1 := PZ_pr z1 hpE
  have hp2 : p1 ≤ E := hp1.2.1
  have hp3 := hp1.2.2 rfl
  intro F K hK
  refine aw_M_of mo_X5_readsCondition (by decide) (Nat.le_of_ble_eq_true rfl) ?_
  refine aw_iconst (v := 0) rfl (by decide) ?_
  refine aw_istore_n rfl (by decide) ?_
  refine aw_iconst (v := 0) rfl (by decide) ?_
  refine aw_istore rfl (by decide) ?_
  refine aw_iconst (v := 0) rfl (by decide) ?_
  refine aw_istore rfl (by decide) ?_
  refine aw_wk (d1 hpE hw F K _ hK (fun F1 dd t1 hS ht1 => ?_)) (And.intro rfl (And.intro rfl (And.intro rfl (And.intro rfl (And.intro rfl (And.intro rfl True.intro))))))
  have hg := hS.1
  refine aw_iload rfl rfl ?_
  refine aw_if_eq (tgt := 77) rfl (by decide) (fun h67 => ?_) (fun h67 => absurd (rfl) h67)
  exact aw_wk (d2 hp2 hw F1 (K + dd) t1 1 _ (by omega) ht1 (QO_tr hS r (LO_QO r))) (And.intro rfl (And.intro rfl (And.intro rfl (And.intro rfl (And.intro rfl True.intro)))))
set_option maxRecDepth 4000 in
theorem lm_cpf {l : Launch} {g : ag_G} {s : am_S} {n : am_N} {E : Nat} {tx : Nat → Nat} (hx : aw_hx g) (hT : CT s E tx) {w : Nat} {p : Nat} {f : Nat} {v : Ex} (z1 : PZ tx E (nPart1 v) w p (rNo f)) (d1 : p ≤ E → w ≤ 6 → ∀ F K Q, K ≤ p → TC l g s n w (some v) F K p 1 0 Q (rNo f) → aw_W l g mi_X5_readsCondition (aw_rm (8 + 3 * (6 - w)) 0 0) (aw_Z g Q 0 0) 0 0 (hp g (lm s p F K) n) 8 [some (.ref (g_ad g 6)), some (.int (nI w)), some (.int 1), some (.int 0), some (.int 0), some (.int (nI 0))] []) (hpE : p ≤ E) (hw : w ≤ 6) : ∀ F K, K ≤ p → aw_M l g mi_X5_readsCondition (8 + 3 * (6 - w)) 0 0 [.ref (g_ad g 6), .int (nI w), .int 1] (hp g (lm s p F K) n) (LO g s n (some v) F K p (rNo f)) := by
  have hE := hT.2.1
  have hk := skw_b (tx := tx) hpE
  intro F K hK
  refine aw_M_of mo_X5_readsCondition (by decide) (Nat.le_of_ble_eq_true rfl) ?_
  refine aw_iconst (v := 0) rfl (by decide) ?_
  refine aw_istore_n rfl (by decide) ?_
  refine aw_iconst (v := 0) rfl (by decide) ?_
  refine aw_istore rfl (by decide) ?_
  refine aw_iconst (v := 0) rfl (by decide) ?_
  refine aw_istore rfl (by decide) ?_
  exact aw_wk (d1 hpE hw F K _ hK (fun F1 K1 => ⟨rfl, F1, K1, rfl⟩)) (And.intro rfl (And.intro rfl (And.intro rfl (And.intro rfl (And.intro rfl (And.intro rfl True.intro))))))
set_option maxRecDepth 4000 in
theorem lm_qlS {l : Launch} {g : ag_G} {s : am_S} {n : am_N} {E : Nat} {tx : Nat → Nat} (hx : aw_hx g) (hT : CT s E tx) {w : Nat} {p : Nat} {v : Ex} (c1 : (cst tx E p) ≠ 124) (hpE : p ≤ E) (hw : w ≤ 6) : ∀ F K t (bg : Int32) Q, K ≤ p → 2 * t + 1 ≤ p → QO g s n (some v) F K p Q (rOk (skw tx E p) v) → aw_W l g mi_X5_readsCondition (aw_rm (8 + 3 * (6 - w)) 0 0) (aw_Z g Q 0 0) 0 0 (hp g (lm s p F K) n) 77 [some (.ref (g_ad g 6)), some (.int (nI w)), some (.int bg), some (.int 0), none, some (.int (nI t))] [] := by
  have hE := hT.2.1
  have hk := skw_b (tx := tx) hpE
  intro F K t bg Q hK ht hQ
  refine aw_aload_n rfl rfl ?_
  refine pg_6_0 rfl kl_X5_17 ?_
  refine aw_bipush (v := 124) rfl (by decide) ?_
  refine aw_iV (q0 := 1) (ci := 10) rfl cw_X5_42 rfl rfl rfl (c_passX hT hpE c1) rfl rfl (Nat.le_of_ble_eq_true rfl) (rmF (by omega)) (rmL (by decide) (by omega)) (Nat.zero_le _) (Nat.zero_le _) ?_
  refine aw_istore rfl (by decide) ?_
  refine aw_iload rfl rfl ?_
  refine aw_if_ne (tgt := 95) rfl (by decide) (fun h90 => absurd (rfl) h90) (fun h90 => ?_)
  refine aw_iconst (v := 1) rfl (by decide) ?_
  exact aw_z1 rfl rfl (hQ F 0 (SG_0 hk.1))
set_option maxRecDepth 4000 in
theorem lm_qlO {l : Launch} {g : ag_G} {s : am_S} {n : am_N} {E : Nat} {tx : Nat → Nat} (hx : aw_hx g) (hT : CT s E tx) {w : Nat} {p : Nat} {p1 : Nat} {v : Ex} {a : Ex} {r : Rs} (c1 : (cst tx E p) = 124) (z1 : PZ tx E nPart w (skw tx E p + 1) (rOk p1 a)) (d1 : (skw tx E p + 1) ≤ E → w ≤ 6 → ∀ F K t (bg orr : Int32) Q, K ≤ (skw tx E p + 1) → 2 * t ≤ (skw tx E p + 1) → (bg = 0 ∨ 0 < t) → TC l g s n w none F K (skw tx E p + 1) bg orr Q (rOk p1 a) → aw_W l g mi_X5_readsCondition (aw_rm (8 + 3 * (6 - w)) 0 0) (aw_Z g Q 0 0) 0 0 (hp g (lm s (skw tx E p + 1) F K) n) 8 [some (.ref (g_ad g 6)), some (.int (nI w)), some (.int bg), some (.int 0), some (.int orr), some (.int (nI t))] []) (z2 : PZ tx E (nQl (eOr v a)) w p1 r) (d2 : p1 ≤ E → w ≤ 6 → ∀ F K t (bg : Int32) Q, K ≤ p1 → 2 * t + 1 ≤ p1 → QO g s n (some (eOr v a)) F K p1 Q r → aw_W l g mi_X5_readsCondition (aw_rm (8 + 3 * (6 - w)) 0 0) (aw_Z g Q 0 0) 0 0 (hp g (lm s p1 F K) n) 77 [some (.ref (g_ad g 6)), some (.int (nI w)), some (.int bg), some (.int 0), none, some (.int (nI t))] []) (hpE : p ≤ E) (hw : w ≤ 6) : ∀ F K t (bg : Int32) Q, K ≤ p → 2 * t + 1 ≤ p → QO g s n (some v) F K p Q r → aw_W l g mi_X5_readsCondition (aw_rm (8 + 3 * (6 - w)) 0 0) (aw_Z g Q 0 0) 0 0 (hp g (lm s p F K) n) 77 [some (.ref (g_ad g 6)), some (.int (nI w)), some (.int bg), some (.int 0), none, some (.int (nI t))] [] := by
  have hE := hT.2.1
  have hk := skw_b (tx := tx) hpE
  have hnx : skw tx E p + 1 ≤ E := by (have := cst_lt (tx := tx) (E := E) (p := p) (by rw [c1]; decide); omega)
  have hp1 := PZ_pr z1 (by omega)
  have hp2 : p1 ≤ E := hp1.2.1
  have hp3 := hp1.2.2 rfl
  intro F K t bg Q hK ht hQ
  refine aw_aload_n rfl rfl ?_
  refine pg_6_0 rfl kl_X5_17 ?_
  refine aw_bipush (v := 124) rfl (by decide) ?_
  refine aw_iV (q0 := 1) (ci := 10) rfl cw_X5_42 rfl rfl rfl (c_passY hT hpE c1) rfl rfl (Nat.le_of_ble_eq_true rfl) (rmF (by omega)) (rmL (by decide) (by omega)) (Nat.zero_le _) (Nat.zero_le _) ?_
  refine aw_istore rfl (by decide) ?_
  refine aw_iload rfl rfl ?_
  refine aw_if_ne (tgt := 95) rfl (by decide) (fun h90 => ?_) (fun h90 => absurd h90 (by decide))
  refine aw_inc1 rfl rfl (by decide) ?_
  refine aw_goto (tgt := 8) rfl (by decide) ?_
  refine aw_wk (d1 (by omega) hw F K (t + 1) bg 1 Q (by omega) (by omega) (Or.inr (by omega)) (fun F1 dd t1 hS ht1 => ?_)) (And.intro rfl (And.intro rfl (And.intro rfl (And.intro rfl (And.intro rfl (And.intro (congrArg (fun x => some (Value.int x)) (nI_1 t)) True.intro))))))
  have hg := hS.1
  refine aw_iload rfl rfl ?_
  refine aw_if_eq (tgt := 77) rfl (by decide) (fun h67 => absurd h67 (by decide)) (fun h67 => ?_)
  refine aw_aload_n rfl rfl ?_
  refine aw_sipush (v := 20124) rfl (by decide) ?_
  refine aw_vV (q0 := 6) (ci := 5) rfl cw_X5_52 rfl rfl rfl (c_emitL (by omega)) rfl rfl (Nat.le_of_ble_eq_true rfl) (rmF (by omega)) (rmL (by decide) (by omega)) (Nat.zero_le _) (Nat.zero_le _) ?_
  exact aw_wk (d2 hp2 hw _ (K + (dd + 1)) t1 bg Q (by omega) ht1 (QO_tr (SG_bin hS (by omega) stp_or) r hQ)) (And.intro rfl (And.intro rfl (And.intro rfl (And.intro rfl (And.intro rfl True.intro)))))
set_option maxRecDepth 4000 in
theorem lm_qlF {l : Launch} {g : ag_G} {s : am_S} {n : am_N} {E : Nat} {tx : Nat → Nat} (hx : aw_hx g) (hT : CT s E tx) {w : Nat} {p : Nat} {f : Nat} {v : Ex} (c1 : (cst tx E p) = 124) (z1 : PZ tx E nPart w (skw tx E p + 1) (rNo f)) (d1 : (skw tx E p + 1) ≤ E → w ≤ 6 → ∀ F K t (bg orr : Int32) Q, K ≤ (skw tx E p + 1) → 2 * t ≤ (skw tx E p + 1) → (bg = 0 ∨ 0 < t) → TC l g s n w none F K (skw tx E p + 1) bg orr Q (rNo f) → aw_W l g mi_X5_readsCondition (aw_rm (8 + 3 * (6 - w)) 0 0) (aw_Z g Q 0 0) 0 0 (hp g (lm s (skw tx E p + 1) F K) n) 8 [some (.ref (g_ad g 6)), some (.int (nI w)), some (.int bg), some (.int 0), some (.int orr), some (.int (nI t))] []) (hpE : p ≤ E) (hw : w ≤ 6) : ∀ F K t (bg : Int32) Q, K ≤ p → 2 * t + 1 ≤ p → QO g s n (some v) F K p Q (rNo f) → aw_W l g mi_X5_readsCondition (aw_rm (8 + 3 * (6 - w)) 0 0) (aw_Z g Q 0 0) 0 0 (hp g (lm s p F K) n) 77 [some (.ref (g_ad g 6)), some (.int (nI w)), some (.int bg), some (.int 0), none, some (.int (nI t))] [] := by
  have hE := hT.2.1
  have hk := skw_b (tx := tx) hpE
  have hnx : skw tx E p + 1 ≤ E := by (have := cst_lt (tx := tx) (E := E) (p := p) (by rw [c1]; decide); omega)
  intro F K t bg Q hK ht hQ
  refine aw_aload_n rfl rfl ?_
  refine pg_6_0 rfl kl_X5_17 ?_
  refine aw_bipush (v := 124) rfl (by decide) ?_
  refine aw_iV (q0 := 1) (ci := 10) rfl cw_X5_42 rfl rfl rfl (c_passY hT hpE c1) rfl rfl (Nat.le_of_ble_eq_true rfl) (rmF (by omega)) (rmL (by decide) (by omega)) (Nat.zero_le _) (Nat.zero_le _) ?_
  refine aw_istore rfl (by decide) ?_
  refine aw_iload rfl rfl ?_
  refine aw_if_ne (tgt := 95) rfl (by decide) (fun h90 => ?_) (fun h90 => absurd h90 (by decide))
  refine aw_inc1 rfl rfl (by decide) ?_
  refine aw_goto (tgt := 8) rfl (by decide) ?_
  exact aw_wk (d1 (by omega) hw F K (t + 1) bg 1 Q (by omega) (by omega) (Or.inr (by omega)) hQ) (And.intro rfl (And.intro rfl (And.intro rfl (And.intro rfl (And.intro rfl (And.intro (congrArg (fun x => some (Value.int x)) (nI_1 t)) True.intro))))))
theorem lm_all {l : Launch} {g : ag_G} {s : am_S} {n : am_N} {E : Nat} {tx : Nat → Nat} (hx : aw_hx g) (hT : CT s E tx) {nt : Nt} {w p : Nat} {r : Rs} (h : PZ tx E nt w p r) (hpE : p ≤ E) (hw : w ≤ 6) : LM2 l g s n tx E nt w p r := by
  refine (h (fun nt w p r => PZ tx E nt w p r ∧ (p ≤ E → w ≤ 6 → LM2 l g s n tx E nt w p r)) ⟨?_, ?_, ?_, ?_, ?_, ?_, ?_, ?_, ?_, ?_, ?_, ?_, ?_, ?_, ?_, ?_, ?_, ?_, ?_, ?_, ?_, ?_, ?_, ?_, ?_, ?_, ?_, ?_, ?_, ?_, ?_, ?_, ?_, ?_, ?_, ?_, ?_, ?_, ?_, ?_, ?_, ?_, ?_, ?_, ?_, ?_⟩).2 hpE hw
  · intro w p i c1; exact ⟨z_atL c1, fun hpE hw => lm_atL hx hT c1 hpE hw⟩
  · intro w p p1 e c1 c2 c3 d1 c4; exact ⟨z_atB c1 c2 c3 d1.1 c4, fun hpE hw => lm_atB hx hT c1 c2 c3 d1.1 d1.2 c4 hpE hw⟩
  · intro w p p1 e c1 c2 c3 d1 c4; exact ⟨z_atBc c1 c2 c3 d1.1 c4, fun hpE hw => lm_atBc hx hT c1 c2 c3 d1.1 d1.2 c4 hpE hw⟩
  · intro w p f c1 c2 c3 d1; exact ⟨z_atBf c1 c2 c3 d1.1, fun hpE hw => lm_atBf hx hT c1 c2 c3 d1.1 d1.2 hpE hw⟩
  · intro p c1 c2; exact ⟨z_atB6 c1 c2, fun hpE hw => lm_atB6 hx hT c1 c2 hpE hw⟩
  · intro w p q m0 c1 c2 c3 c4; exact ⟨z_atN c1 c2 c3 c4, fun hpE hw => lm_atN hx hT c1 c2 c3 c4 hpE hw⟩
  · intro w p q m0 c1 c2 c3 c4; exact ⟨z_atN5 c1 c2 c3 c4, fun hpE hw => lm_atN5 hx hT c1 c2 c3 c4 hpE hw⟩
  · intro w p c1 c2 c3; exact ⟨z_atN0 c1 c2 c3, fun hpE hw => lm_atN0 hx hT c1 c2 c3 hpE hw⟩
  · intro w p p1 a r d1 d2; exact ⟨z_te d1.1 d2.1, fun hpE hw => lm_te hx hT d1.1 d1.2 d2.1 d2.2 hpE hw⟩
  · intro w p f d1; exact ⟨z_tef d1.1, fun hpE hw => lm_tef hx hT d1.1 d1.2 hpE hw⟩
  · intro w p v c1 c2; exact ⟨z_tlS c1 c2, fun hpE hw => lm_tlS hx hT c1 c2 hpE hw⟩
  · intro w p p1 v a r c1 d1 d2; exact ⟨z_tlM c1 d1.1 d2.1, fun hpE hw => lm_tlM hx hT c1 d1.1 d1.2 d2.1 d2.2 hpE hw⟩
  · intro w p p1 v a r c1 d1 d2; exact ⟨z_tlD c1 d1.1 d2.1, fun hpE hw => lm_tlD hx hT c1 d1.1 d1.2 d2.1 d2.2 hpE hw⟩
  · intro w p f v c1 d1; exact ⟨z_tlF c1 d1.1, fun hpE hw => lm_tlF hx hT c1 d1.1 d1.2 hpE hw⟩
  · intro w p p1 a r d1 d2; exact ⟨z_su d1.1 d2.1, fun hpE hw => lm_su hx hT d1.1 d1.2 d2.1 d2.2 hpE hw⟩
  · intro w p f d1; exact ⟨z_suf d1.1, fun hpE hw => lm_suf hx hT d1.1 d1.2 hpE hw⟩
  · intro w p v c1 c2; exact ⟨z_slS c1 c2, fun hpE hw => lm_slS hx hT c1 c2 hpE hw⟩
  · intro w p p1 v a r c1 d1 d2; exact ⟨z_slM c1 d1.1 d2.1, fun hpE hw => lm_slM hx hT c1 d1.1 d1.2 d2.1 d2.2 hpE hw⟩
  · intro w p p1 v a r c1 d1 d2; exact ⟨z_slD c1 d1.1 d2.1, fun hpE hw => lm_slD hx hT c1 d1.1 d1.2 d2.1 d2.2 hpE hw⟩
  · intro w p f v c1 d1; exact ⟨z_slF c1 d1.1, fun hpE hw => lm_slF hx hT c1 d1.1 d1.2 hpE hw⟩
  · intro w p v c1; exact ⟨z_cmN c1, fun hpE hw => lm_cmN hx hT c1 hpE hw⟩
  · intro w p p1 v a c1 d1; exact ⟨z_cmO c1 d1.1, fun hpE hw => lm_cmO hx hT c1 d1.1 d1.2 hpE hw⟩
  · intro w p f v c1 d1; exact ⟨z_cmF c1 d1.1, fun hpE hw => lm_cmF hx hT c1 d1.1 d1.2 hpE hw⟩
  · intro w p p1 a c1 c2 d1; exact ⟨z_unN c1 c2 d1.1, fun hpE hw => lm_unN hx hT c1 c2 d1.1 d1.2 hpE hw⟩
  · intro w p f c1 c2 d1; exact ⟨z_unNf c1 c2 d1.1, fun hpE hw => lm_unNf hx hT c1 c2 d1.1 d1.2 hpE hw⟩
  · intro p c1; exact ⟨z_unN6 c1, fun hpE hw => lm_unN6 hx hT c1 hpE hw⟩
  · intro w p p1 a c1 c2 d1 c3; exact ⟨z_unP c1 c2 d1.1 c3, fun hpE hw => lm_unP hx hT c1 c2 d1.1 d1.2 c3 hpE hw⟩
  · intro w p p1 a c1 c2 d1 c3; exact ⟨z_unPc c1 c2 d1.1 c3, fun hpE hw => lm_unPc hx hT c1 c2 d1.1 d1.2 c3 hpE hw⟩
  · intro w p f c1 c2 d1; exact ⟨z_unPf c1 c2 d1.1, fun hpE hw => lm_unPf hx hT c1 c2 d1.1 d1.2 hpE hw⟩
  · intro p c1; exact ⟨z_unP6 c1, fun hpE hw => lm_unP6 hx hT c1 hpE hw⟩
  · intro w p p1 a r c1 c2 d1 d2; exact ⟨z_unC c1 c2 d1.1 d2.1, fun hpE hw => lm_unC hx hT c1 c2 d1.1 d1.2 d2.1 d2.2 hpE hw⟩
  · intro w p f c1 c2 d1; exact ⟨z_unCf c1 c2 d1.1, fun hpE hw => lm_unCf hx hT c1 c2 d1.1 d1.2 hpE hw⟩
  · intro w p p1 a r d1 d2; exact ⟨z_pa d1.1 d2.1, fun hpE hw => lm_pa hx hT d1.1 d1.2 d2.1 d2.2 hpE hw⟩
  · intro w p f d1; exact ⟨z_paf d1.1, fun hpE hw => lm_paf hx hT d1.1 d1.2 hpE hw⟩
  · intro w p p1 v a r d1 d2; exact ⟨z_pb d1.1 d2.1, fun hpE hw => lm_pb hx hT d1.1 d1.2 d2.1 d2.2 hpE hw⟩
  · intro w p f v d1; exact ⟨z_pbf d1.1, fun hpE hw => lm_pbf hx hT d1.1 d1.2 hpE hw⟩
  · intro w p v c1; exact ⟨z_plS c1, fun hpE hw => lm_plS hx hT c1 hpE hw⟩
  · intro w p p1 v a r c1 d1 d2; exact ⟨z_plA c1 d1.1 d2.1, fun hpE hw => lm_plA hx hT c1 d1.1 d1.2 d2.1 d2.2 hpE hw⟩
  · intro w p f v c1 d1; exact ⟨z_plF c1 d1.1, fun hpE hw => lm_plF hx hT c1 d1.1 d1.2 hpE hw⟩
  · intro w p p1 a r d1 d2; exact ⟨z_co d1.1 d2.1, fun hpE hw => lm_co hx hT d1.1 d1.2 d2.1 d2.2 hpE hw⟩
  · intro w p f d1; exact ⟨z_cof d1.1, fun hpE hw => lm_cof hx hT d1.1 d1.2 hpE hw⟩
  · intro w p p1 v a r d1 d2; exact ⟨z_cp d1.1 d2.1, fun hpE hw => lm_cp hx hT d1.1 d1.2 d2.1 d2.2 hpE hw⟩
  · intro w p f v d1; exact ⟨z_cpf d1.1, fun hpE hw => lm_cpf hx hT d1.1 d1.2 hpE hw⟩
  · intro w p v c1; exact ⟨z_qlS c1, fun hpE hw => lm_qlS hx hT c1 hpE hw⟩
  · intro w p p1 v a r c1 d1 d2; exact ⟨z_qlO c1 d1.1 d2.1, fun hpE hw => lm_qlO hx hT c1 d1.1 d1.2 d2.1 d2.2 hpE hw⟩
  · intro w p f v c1 d1; exact ⟨z_qlF c1 d1.1, fun hpE hw => lm_qlF hx hT c1 d1.1 d1.2 hpE hw⟩
