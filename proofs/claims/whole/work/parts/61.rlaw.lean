/-! the reference reads a law by the grammar -/
def RM (l : Launch) (g : ag_G) (s : am_S) (n : am_N) (A : Nat → Int32) (nt : Nt) (w p : Nat) (r : Rs) : Prop := match nt.1 with
  | 0 => aw_M l g mi_X12_atom (5 + 3 * (6 - w)) 0 0 [.ref (g_ad g 39)] (hp g (pst s p w (-1)) n) (PO g s n A false w r)
  | 1 => aw_M l g mi_X12_term (6 + 3 * (6 - w)) 0 0 [.ref (g_ad g 39)] (hp g (pst s p w (-1)) n) (PO g s n A false w r)
  | 2 => bd (nt.2 A) → aw_W l g mi_X12_term (aw_rm (6 + 3 * (6 - w)) 0 0) (aw_Z g (PO g s n A false w r) 0 0) 0 0 (hp g (pst s p w (-1)) n) 5 [some (.ref (g_ad g 39)), some (.int (nt.2 A)), none, none, none] []
  | 3 => aw_M l g mi_X12_sum (7 + 3 * (6 - w)) 0 0 [.ref (g_ad g 39)] (hp g (pst s p w (-1)) n) (PO g s n A false w r)
  | 4 => bd (nt.2 A) → aw_W l g mi_X12_sum (aw_rm (7 + 3 * (6 - w)) 0 0) (aw_Z g (PO g s n A false w r) 0 0) 0 0 (hp g (pst s p w (-1)) n) 5 [some (.ref (g_ad g 39)), some (.int (nt.2 A)), none, none, none] []
  | 5 => bd (nt.2 A) → aw_W l g mi_X12_compares (aw_rm (8 + 3 * (6 - w)) 0 0) (aw_Z g (PO g s n A true w r) 0 0) 0 0 (hp g (pst s p w (-1)) n) 13 [some (.ref (g_ad g 39)), none, none, some (.int (nt.2 A)), none, none] []
  | 6 => aw_M l g mi_X12_unit (9 + 3 * (6 - w)) 0 0 [.ref (g_ad g 39)] (hp g (pst s p w (-1)) n) (PO g s n A true w r)
  | 7 => aw_M l g mi_X12_part (10 + 3 * (6 - w)) 0 0 [.ref (g_ad g 39), .int 0, .int 0] (hp g (pst s p w (-1)) n) (PO g s n A true w r)
  | 8 => bd (nt.2 A) → aw_M l g mi_X12_part (10 + 3 * (6 - w)) 0 0 [.ref (g_ad g 39), .int 1, .int (nt.2 A)] (hp g (pst s p w (-1)) n) (PO g s n A true w r)
  | 9 => bb (nt.2 A) → aw_W l g mi_X12_part (aw_rm (10 + 3 * (6 - w)) 0 0) (aw_Z g (PO g s n A true w r) 0 0) 0 0 (hp g (pst s p w (-1)) n) 18 [some (.ref (g_ad g 39)), none, none, some (.int (nt.2 A)), none] []
  | 10 => aw_M l g mi_X12_condition (11 + 3 * (6 - w)) 0 0 [.ref (g_ad g 39), .int 0, .int 0] (hp g (pst s p w (-1)) n) (PO g s n A true w r)
  | 11 => bd (nt.2 A) → aw_M l g mi_X12_condition (11 + 3 * (6 - w)) 0 0 [.ref (g_ad g 39), .int 1, .int (nt.2 A)] (hp g (pst s p w (-1)) n) (PO g s n A true w r)
  | _ => bb (nt.2 A) → aw_W l g mi_X12_condition (aw_rm (11 + 3 * (6 - w)) 0 0) (aw_Z g (PO g s n A true w r) 0 0) 0 0 (hp g (pst s p w (-1)) n) 7 [some (.ref (g_ad g 39)), none, none, some (.int (nt.2 A)), none] []
theorem c_m_takesY {l : Launch} {g : ag_G} {s : am_S} {n : am_N} {B b E p w : Nat} {tx : Nat → Nat} {c : Int32} (hT : TX s n B b E tx) (hp1 : p ≤ E) (h : cst tx E p = c) : aw_F l g mi_X12_takes 1 [.ref (g_ad g 39), .int c] (hp g (pst s p w (-1)) n) (.int 1) (hp g (pst s (skw tx E p + 1) w (-1)) n) := by
  have z := c_m_takes (l := l) (g := g) (w := w) (c := c) hT hp1
  rw [if_pos (show cv tx E (skw tx E p) = c from h), decide_eq_true (show cv tx E (skw tx E p) = c from h)] at z
  exact z
theorem c_m_takesX {l : Launch} {g : ag_G} {s : am_S} {n : am_N} {B b E p w : Nat} {tx : Nat → Nat} {c : Int32} (hT : TX s n B b E tx) (hp1 : p ≤ E) (h : cst tx E p ≠ c) : aw_F l g mi_X12_takes 1 [.ref (g_ad g 39), .int c] (hp g (pst s p w (-1)) n) (.int 0) (hp g (pst s (skw tx E p) w (nI (skw tx E p))) n) := by
  have z := c_m_takes (l := l) (g := g) (w := w) (c := c) hT hp1
  rw [if_neg (show ¬ cv tx E (skw tx E p) = c from h), decide_eq_false (show ¬ cv tx E (skw tx E p) = c from h)] at z
  exact z
theorem bb_cmp {c : Int32} {v a : Ex} {A : Nat → Int32} : bb (eCmp c v a A) := by
  unfold eCmp bb
  (repeat' split) <;> simp
set_option maxRecDepth 4000 in
theorem rm_atL {l : Launch} {g : ag_G} {s : am_S} {n : am_N} {B b E : Nat} {tx : Nat → Nat} {A : Nat → Int32} (hx : aw_hx g) (hT : TX s n B b E tx) (hL : ∀ i, i < 6 → s 43 (asN i) = A i) (hA : ∀ i, i < 6 → bd (A i)) {w : Nat} {p : Nat} {i : Nat} (c1 : xsp 4 (cst tx E p) = some i) (hpE : p ≤ E) (hw : w ≤ 6) : aw_M l g mi_X12_atom (5 + 3 * (6 - w)) 0 0 [.ref (g_ad g 39)] (hp g (pst s p w (-1)) n) (PO g s n A false w (rOk (skw tx E p + 1) (fun A => A i))) := by
  have hE := hT.2.2.2.1
  have hk := skw_b (tx := tx) hpE
  have h4 := xsp4 c1
  have h128 := h4.2.2
  refine aw_M_of mo_X12_atom (by decide) (Nat.le_of_ble_eq_true rfl) ?_
  refine aw_aload_n rfl rfl ?_
  refine aw_iV (q0 := 39) (ci := 12) rfl cw_X12_138 rfl rfl rfl (c_m_lookC hT hpE) rfl rfl (Nat.le_of_ble_eq_true rfl) (rmF (by omega)) (rmL (by decide) (by omega)) (Nat.zero_le _) (Nat.zero_le _) ?_
  refine aw_istore_n rfl (by decide) ?_
  refine aw_ldcS rfl (xr_X12_32 hx) ?_
  refine aw_iload_n rfl rfl ?_
  refine aw_iS rfl cw_X12_154 (c_m_isAmong (i := 4) hx (by decide)) rfl rfl (Nat.le_of_ble_eq_true rfl) (rmF (by omega)) (rmL (by decide) (by omega)) (Nat.zero_le _) (Nat.zero_le _) ?_
  refine aw_if_eq (tgt := 31) rfl (by decide) (fun h11 => absurd h11 (by rw [c1]; show ¬ (1 : Int32) = 0; decide)) (fun h11 => ?_)
  refine aw_aload_n rfl rfl ?_
  refine aw_dup rfl rfl ?_
  refine pg_39_10 rfl kl_X12_119 ?_
  refine aw_iconst (v := 1) rfl (by decide) ?_
  refine aw_iadd rfl ?_
  refine pp_39_10 rfl kl_X12_119 ?_
  refine aw_eqs (ws' := hp g (pst s ((skw tx E p) + 1) w (-1)) n) ?_ rfl rfl (congrArg (fun z => hp g z n) pst_in)
  refine aw_aload_n rfl rfl ?_
  refine pg_39_4 rfl kl_X12_20 ?_
  refine aw_iload_n rfl rfl ?_
  refine pl_43 rfl (show cst tx E p = nI (asN i) from h4.2.1) (by omega) ?_
  exact aw_kI rfl rfl (hL i h4.1) (hA i h4.1) rfl
set_option maxRecDepth 4000 in
theorem rm_atB {l : Launch} {g : ag_G} {s : am_S} {n : am_N} {B b E : Nat} {tx : Nat → Nat} {A : Nat → Int32} (hx : aw_hx g) (hT : TX s n B b E tx) (hL : ∀ i, i < 6 → s 43 (asN i) = A i) (hA : ∀ i, i < 6 → bd (A i)) {w : Nat} {p : Nat} {p1 : Nat} {e : Ex} (c1 : xsp 4 (cst tx E p) = none) (c2 : (cst tx E p) = 91) (c3 : w < 6) (z1 : PZ tx E nSum (w + 1) (skw tx E p + 1) (rOk p1 e)) (d1 : (skw tx E p + 1) ≤ E → (w + 1) ≤ 6 → aw_M l g mi_X12_sum (7 + 3 * (6 - (w + 1))) 0 0 [.ref (g_ad g 39)] (hp g (pst s (skw tx E p + 1) (w + 1) (-1)) n) (PO g s n A false (w + 1) (rOk p1 e))) (c4 : (cst tx E p1) = 93) (hpE : p ≤ E) (hw : w ≤ 6) : aw_M l g mi_X12_atom (5 + 3 * (6 - w)) 0 0 [.ref (g_ad g 39)] (hp g (pst s p w (-1)) n) (PO g s n A false w (rOk (skw tx E p1 + 1) e)) := by
  have hE := hT.2.2.2.1
  have hk := skw_b (tx := tx) hpE
  have hnx : skw tx E p + 1 ≤ E := by (have := cst_lt (tx := tx) (E := E) (p := p) (by rw [c2]; decide); omega)
  have hp1 : p1 ≤ E := (PZ_pr z1 (by omega)).2.1
  refine aw_M_of mo_X12_atom (by decide) (Nat.le_of_ble_eq_true rfl) ?_
  refine aw_aload_n rfl rfl ?_
  refine aw_iV (q0 := 39) (ci := 12) rfl cw_X12_138 rfl rfl rfl (c_m_lookC hT hpE) rfl rfl (Nat.le_of_ble_eq_true rfl) (rmF (by omega)) (rmL (by decide) (by omega)) (Nat.zero_le _) (Nat.zero_le _) ?_
  refine aw_istore_n rfl (by decide) ?_
  refine aw_ldcS rfl (xr_X12_32 hx) ?_
  refine aw_iload_n rfl rfl ?_
  refine aw_iS rfl cw_X12_154 (c_m_isAmong (i := 4) hx (by decide)) rfl rfl (Nat.le_of_ble_eq_true rfl) (rmF (by omega)) (rmL (by decide) (by omega)) (Nat.zero_le _) (Nat.zero_le _) ?_
  refine aw_if_eq (tgt := 31) rfl (by decide) (fun h11 => ?_) (fun h11 => absurd (by rw [c1]; rfl) h11)
  refine aw_iload_n rfl rfl ?_
  refine aw_bipush (v := 91) rfl (by decide) ?_
  refine aw_icmp_ne (tgt := 74) rfl (by decide) (fun h34 => absurd (c2) h34) (fun h34 => ?_)
  refine aw_aload_n rfl rfl ?_
  refine aw_iV (q0 := 39) (ci := 12) rfl cw_X12_158 rfl rfl rfl (c_m_goesIn c3) rfl rfl (Nat.le_of_ble_eq_true rfl) (rmF (by omega)) (rmL (by decide) (by omega)) (Nat.zero_le _) (Nat.zero_le _) ?_
  refine aw_if_ne (tgt := 46) rfl (by decide) (fun h41 => ?_) (fun h41 => absurd h41 (by decide))
  refine aw_aload_n rfl rfl ?_
  refine aw_pK (q0 := 39) (ci := 12) rfl cw_X12_161 rfl rfl rfl ((d1 (by omega) (by omega))) rfl rfl (Nat.le_of_ble_eq_true rfl) (rmF (by omega)) (rmL (by decide) (by omega)) (Nat.zero_le _) (Nat.zero_le _) (fun hb1 => ?_)
  refine aw_istore_n rfl (by decide) ?_
  refine aw_aload_n rfl rfl ?_
  refine aw_bipush (v := 93) rfl (by decide) ?_
  refine aw_iV (q0 := 39) (ci := 12) rfl cw_X12_164 rfl rfl rfl (c_m_takesY hT hp1 c4) rfl rfl (Nat.le_of_ble_eq_true rfl) (rmF (by omega)) (rmL (by decide) (by omega)) (Nat.zero_le _) (Nat.zero_le _) ?_
  refine aw_if_ne (tgt := 62) rfl (by decide) (fun h57 => ?_) (fun h57 => absurd h57 (by decide))
  refine aw_aload_n rfl rfl ?_
  refine aw_dup rfl rfl ?_
  refine pg_39_12 rfl kl_X12_131 ?_
  refine aw_iconst (v := 1) rfl (by decide) ?_
  refine aw_isub rfl ?_
  refine pp_39_12 rfl kl_X12_131 ?_
  refine aw_eqs (ws' := hp g (pst s (skw tx E p1 + 1) w (-1)) n) ?_ rfl rfl (congrArg (fun z => hp g z n) pst_out)
  refine aw_iload_n rfl rfl ?_
  exact aw_kI rfl rfl rfl hb1 rfl
set_option maxRecDepth 4000 in
theorem rm_atBc {l : Launch} {g : ag_G} {s : am_S} {n : am_N} {B b E : Nat} {tx : Nat → Nat} {A : Nat → Int32} (hx : aw_hx g) (hT : TX s n B b E tx) (hL : ∀ i, i < 6 → s 43 (asN i) = A i) (hA : ∀ i, i < 6 → bd (A i)) {w : Nat} {p : Nat} {p1 : Nat} {e : Ex} (c1 : xsp 4 (cst tx E p) = none) (c2 : (cst tx E p) = 91) (c3 : w < 6) (z1 : PZ tx E nSum (w + 1) (skw tx E p + 1) (rOk p1 e)) (d1 : (skw tx E p + 1) ≤ E → (w + 1) ≤ 6 → aw_M l g mi_X12_sum (7 + 3 * (6 - (w + 1))) 0 0 [.ref (g_ad g 39)] (hp g (pst s (skw tx E p + 1) (w + 1) (-1)) n) (PO g s n A false (w + 1) (rOk p1 e))) (c4 : (cst tx E p1) ≠ 93) (hpE : p ≤ E) (hw : w ≤ 6) : aw_M l g mi_X12_atom (5 + 3 * (6 - w)) 0 0 [.ref (g_ad g 39)] (hp g (pst s p w (-1)) n) (PO g s n A false w (rNo (skw tx E p1))) := by
  have hE := hT.2.2.2.1
  have hk := skw_b (tx := tx) hpE
  have hnx : skw tx E p + 1 ≤ E := by (have := cst_lt (tx := tx) (E := E) (p := p) (by rw [c2]; decide); omega)
  have hp1 : p1 ≤ E := (PZ_pr z1 (by omega)).2.1
  refine aw_M_of mo_X12_atom (by decide) (Nat.le_of_ble_eq_true rfl) ?_
  refine aw_aload_n rfl rfl ?_
  refine aw_iV (q0 := 39) (ci := 12) rfl cw_X12_138 rfl rfl rfl (c_m_lookC hT hpE) rfl rfl (Nat.le_of_ble_eq_true rfl) (rmF (by omega)) (rmL (by decide) (by omega)) (Nat.zero_le _) (Nat.zero_le _) ?_
  refine aw_istore_n rfl (by decide) ?_
  refine aw_ldcS rfl (xr_X12_32 hx) ?_
  refine aw_iload_n rfl rfl ?_
  refine aw_iS rfl cw_X12_154 (c_m_isAmong (i := 4) hx (by decide)) rfl rfl (Nat.le_of_ble_eq_true rfl) (rmF (by omega)) (rmL (by decide) (by omega)) (Nat.zero_le _) (Nat.zero_le _) ?_
  refine aw_if_eq (tgt := 31) rfl (by decide) (fun h11 => ?_) (fun h11 => absurd (by rw [c1]; rfl) h11)
  refine aw_iload_n rfl rfl ?_
  refine aw_bipush (v := 91) rfl (by decide) ?_
  refine aw_icmp_ne (tgt := 74) rfl (by decide) (fun h34 => absurd (c2) h34) (fun h34 => ?_)
  refine aw_aload_n rfl rfl ?_
  refine aw_iV (q0 := 39) (ci := 12) rfl cw_X12_158 rfl rfl rfl (c_m_goesIn c3) rfl rfl (Nat.le_of_ble_eq_true rfl) (rmF (by omega)) (rmL (by decide) (by omega)) (Nat.zero_le _) (Nat.zero_le _) ?_
  refine aw_if_ne (tgt := 46) rfl (by decide) (fun h41 => ?_) (fun h41 => absurd h41 (by decide))
  refine aw_aload_n rfl rfl ?_
  refine aw_pK (q0 := 39) (ci := 12) rfl cw_X12_161 rfl rfl rfl ((d1 (by omega) (by omega))) rfl rfl (Nat.le_of_ble_eq_true rfl) (rmF (by omega)) (rmL (by decide) (by omega)) (Nat.zero_le _) (Nat.zero_le _) (fun hb1 => ?_)
  refine aw_istore_n rfl (by decide) ?_
  refine aw_aload_n rfl rfl ?_
  refine aw_bipush (v := 93) rfl (by decide) ?_
  refine aw_iV (q0 := 39) (ci := 12) rfl cw_X12_164 rfl rfl rfl (c_m_takesX hT hp1 c4) rfl rfl (Nat.le_of_ble_eq_true rfl) (rmF (by omega)) (rmL (by decide) (by omega)) (Nat.zero_le _) (Nat.zero_le _) ?_
  refine aw_if_ne (tgt := 62) rfl (by decide) (fun h57 => absurd (rfl) h57) (fun h57 => ?_)
  refine aw_iconst (v := 0) rfl (by decide) ?_
  exact aw_nI (p := skw tx E p1) (d := nI (w + 1)) rfl rfl rfl
set_option maxRecDepth 4000 in
theorem rm_atBf {l : Launch} {g : ag_G} {s : am_S} {n : am_N} {B b E : Nat} {tx : Nat → Nat} {A : Nat → Int32} (hx : aw_hx g) (hT : TX s n B b E tx) (hL : ∀ i, i < 6 → s 43 (asN i) = A i) (hA : ∀ i, i < 6 → bd (A i)) {w : Nat} {p : Nat} {f : Nat} (c1 : xsp 4 (cst tx E p) = none) (c2 : (cst tx E p) = 91) (c3 : w < 6) (z1 : PZ tx E nSum (w + 1) (skw tx E p + 1) (rNo f)) (d1 : (skw tx E p + 1) ≤ E → (w + 1) ≤ 6 → aw_M l g mi_X12_sum (7 + 3 * (6 - (w + 1))) 0 0 [.ref (g_ad g 39)] (hp g (pst s (skw tx E p + 1) (w + 1) (-1)) n) (PO g s n A false (w + 1) (rNo f))) (hpE : p ≤ E) (hw : w ≤ 6) : aw_M l g mi_X12_atom (5 + 3 * (6 - w)) 0 0 [.ref (g_ad g 39)] (hp g (pst s p w (-1)) n) (PO g s n A false w (rNo f)) := by
  have hE := hT.2.2.2.1
  have hk := skw_b (tx := tx) hpE
  have hnx : skw tx E p + 1 ≤ E := by (have := cst_lt (tx := tx) (E := E) (p := p) (by rw [c2]; decide); omega)
  have hfE : f ≤ E := (PZ_pr z1 (by omega)).2
  have hf24 : ¬ nI f = (-1 : Int32) := nI_nm1 (by omega)
  refine aw_M_of mo_X12_atom (by decide) (Nat.le_of_ble_eq_true rfl) ?_
  refine aw_aload_n rfl rfl ?_
  refine aw_iV (q0 := 39) (ci := 12) rfl cw_X12_138 rfl rfl rfl (c_m_lookC hT hpE) rfl rfl (Nat.le_of_ble_eq_true rfl) (rmF (by omega)) (rmL (by decide) (by omega)) (Nat.zero_le _) (Nat.zero_le _) ?_
  refine aw_istore_n rfl (by decide) ?_
  refine aw_ldcS rfl (xr_X12_32 hx) ?_
  refine aw_iload_n rfl rfl ?_
  refine aw_iS rfl cw_X12_154 (c_m_isAmong (i := 4) hx (by decide)) rfl rfl (Nat.le_of_ble_eq_true rfl) (rmF (by omega)) (rmL (by decide) (by omega)) (Nat.zero_le _) (Nat.zero_le _) ?_
  refine aw_if_eq (tgt := 31) rfl (by decide) (fun h11 => ?_) (fun h11 => absurd (by rw [c1]; rfl) h11)
  refine aw_iload_n rfl rfl ?_
  refine aw_bipush (v := 91) rfl (by decide) ?_
  refine aw_icmp_ne (tgt := 74) rfl (by decide) (fun h34 => absurd (c2) h34) (fun h34 => ?_)
  refine aw_aload_n rfl rfl ?_
  refine aw_iV (q0 := 39) (ci := 12) rfl cw_X12_158 rfl rfl rfl (c_m_goesIn c3) rfl rfl (Nat.le_of_ble_eq_true rfl) (rmF (by omega)) (rmL (by decide) (by omega)) (Nat.zero_le _) (Nat.zero_le _) ?_
  refine aw_if_ne (tgt := 46) rfl (by decide) (fun h41 => ?_) (fun h41 => absurd h41 (by decide))
  refine aw_aload_n rfl rfl ?_
  refine aw_pN (q0 := 39) (ci := 12) rfl cw_X12_161 rfl rfl rfl ((d1 (by omega) (by omega))) rfl rfl (Nat.le_of_ble_eq_true rfl) (rmF (by omega)) (rmL (by decide) (by omega)) (Nat.zero_le _) (Nat.zero_le _) (fun x2 p2 d2 hb1 => ?_)
  refine aw_istore_n rfl (by decide) ?_
  refine aw_aload_n rfl rfl ?_
  refine aw_bipush (v := 93) rfl (by decide) ?_
  refine aw_iV (q0 := 39) (ci := 12) rfl cw_X12_164 rfl rfl rfl (c_m_takesF hf24) rfl rfl (Nat.le_of_ble_eq_true rfl) (rmF (by omega)) (rmL (by decide) (by omega)) (Nat.zero_le _) (Nat.zero_le _) ?_
  refine aw_if_ne (tgt := 62) rfl (by decide) (fun h57 => absurd (rfl) h57) (fun h57 => ?_)
  refine aw_iconst (v := 0) rfl (by decide) ?_
  exact aw_nI rfl rfl rfl
set_option maxRecDepth 4000 in
theorem rm_atB6 {l : Launch} {g : ag_G} {s : am_S} {n : am_N} {B b E : Nat} {tx : Nat → Nat} {A : Nat → Int32} (hx : aw_hx g) (hT : TX s n B b E tx) (hL : ∀ i, i < 6 → s 43 (asN i) = A i) (hA : ∀ i, i < 6 → bd (A i)) {p : Nat} (c1 : xsp 4 (cst tx E p) = none) (c2 : (cst tx E p) = 91) (hpE : p ≤ E) (hw : 6 ≤ 6) : aw_M l g mi_X12_atom (5 + 3 * (6 - 6)) 0 0 [.ref (g_ad g 39)] (hp g (pst s p 6 (-1)) n) (PO g s n A false 6 (rNo (skw tx E p))) := by
  have hE := hT.2.2.2.1
  have hk := skw_b (tx := tx) hpE
  refine aw_M_of mo_X12_atom (by decide) (Nat.le_of_ble_eq_true rfl) ?_
  refine aw_aload_n rfl rfl ?_
  refine aw_iV (q0 := 39) (ci := 12) rfl cw_X12_138 rfl rfl rfl (c_m_lookC hT hpE) rfl rfl (Nat.le_of_ble_eq_true rfl) (rmF (by omega)) (rmL (by decide) (by omega)) (Nat.zero_le _) (Nat.zero_le _) ?_
  refine aw_istore_n rfl (by decide) ?_
  refine aw_ldcS rfl (xr_X12_32 hx) ?_
  refine aw_iload_n rfl rfl ?_
  refine aw_iS rfl cw_X12_154 (c_m_isAmong (i := 4) hx (by decide)) rfl rfl (Nat.le_of_ble_eq_true rfl) (rmF (by omega)) (rmL (by decide) (by omega)) (Nat.zero_le _) (Nat.zero_le _) ?_
  refine aw_if_eq (tgt := 31) rfl (by decide) (fun h11 => ?_) (fun h11 => absurd (by rw [c1]; rfl) h11)
  refine aw_iload_n rfl rfl ?_
  refine aw_bipush (v := 91) rfl (by decide) ?_
  refine aw_icmp_ne (tgt := 74) rfl (by decide) (fun h34 => absurd (c2) h34) (fun h34 => ?_)
  refine aw_aload_n rfl rfl ?_
  refine aw_iV (q0 := 39) (ci := 12) rfl cw_X12_158 rfl rfl rfl (c_m_goesIn6) rfl rfl (Nat.le_of_ble_eq_true rfl) (rmF (by omega)) (rmL (by decide) (by omega)) (Nat.zero_le _) (Nat.zero_le _) ?_
  refine aw_if_ne (tgt := 46) rfl (by decide) (fun h41 => absurd (rfl) h41) (fun h41 => ?_)
  refine aw_iconst (v := 0) rfl (by decide) ?_
  exact aw_nI (p := skw tx E p) (d := nI 6) rfl rfl rfl
set_option maxRecDepth 4000 in
theorem rm_atN0 {l : Launch} {g : ag_G} {s : am_S} {n : am_N} {B b E : Nat} {tx : Nat → Nat} {A : Nat → Int32} (hx : aw_hx g) (hT : TX s n B b E tx) (hL : ∀ i, i < 6 → s 43 (asN i) = A i) (hA : ∀ i, i < 6 → bd (A i)) {w : Nat} {p : Nat} (c1 : xsp 4 (cst tx E p) = none) (c2 : (cst tx E p) ≠ 91) (c3 : dg tx E (skw tx E p) = false) (hpE : p ≤ E) (hw : w ≤ 6) : aw_M l g mi_X12_atom (5 + 3 * (6 - w)) 0 0 [.ref (g_ad g 39)] (hp g (pst s p w (-1)) n) (PO g s n A false w (rNo (skw tx E p))) := by
  have hE := hT.2.2.2.1
  have hk := skw_b (tx := tx) hpE
  refine aw_M_of mo_X12_atom (by decide) (Nat.le_of_ble_eq_true rfl) ?_
  refine aw_aload_n rfl rfl ?_
  refine aw_iV (q0 := 39) (ci := 12) rfl cw_X12_138 rfl rfl rfl (c_m_lookC hT hpE) rfl rfl (Nat.le_of_ble_eq_true rfl) (rmF (by omega)) (rmL (by decide) (by omega)) (Nat.zero_le _) (Nat.zero_le _) ?_
  refine aw_istore_n rfl (by decide) ?_
  refine aw_ldcS rfl (xr_X12_32 hx) ?_
  refine aw_iload_n rfl rfl ?_
  refine aw_iS rfl cw_X12_154 (c_m_isAmong (i := 4) hx (by decide)) rfl rfl (Nat.le_of_ble_eq_true rfl) (rmF (by omega)) (rmL (by decide) (by omega)) (Nat.zero_le _) (Nat.zero_le _) ?_
  refine aw_if_eq (tgt := 31) rfl (by decide) (fun h11 => ?_) (fun h11 => absurd (by rw [c1]; rfl) h11)
  refine aw_iload_n rfl rfl ?_
  refine aw_bipush (v := 91) rfl (by decide) ?_
  refine aw_icmp_ne (tgt := 74) rfl (by decide) (fun h34 => ?_) (fun h34 => absurd h34 (c2))
  refine aw_aload_n rfl rfl ?_
  refine aw_iV (q0 := 39) (ci := 12) rfl cw_X12_168 rfl rfl rfl (c_m_isDigit hT hk.2.1) rfl rfl (Nat.le_of_ble_eq_true rfl) (rmF (by omega)) (rmL (by decide) (by omega)) (Nat.zero_le _) (Nat.zero_le _) ?_
  refine aw_if_ne (tgt := 86) rfl (by decide) (fun h78 => absurd (by rw [c3]; rfl) h78) (fun h78 => ?_)
  refine aw_aload_n rfl rfl ?_
  refine aw_iV (q0 := 39) (ci := 12) rfl cw_X12_134 rfl rfl rfl (c_m_fails) rfl rfl (Nat.le_of_ble_eq_true rfl) (rmF (by omega)) (rmL (by decide) (by omega)) (Nat.zero_le _) (Nat.zero_le _) ?_
  refine aw_pop rfl rfl ?_
  refine aw_iconst (v := 0) rfl (by decide) ?_
  refine aw_istore_n rfl (by decide) ?_
  refine aw_iconst (v := 0) rfl (by decide) ?_
  refine aw_istore_n rfl (by decide) ?_
  refine aw_aload_n rfl rfl ?_
  refine aw_iV (q0 := 39) (ci := 12) rfl cw_X12_168 rfl rfl rfl (c_m_isDigit hT hk.2.1) rfl rfl (Nat.le_of_ble_eq_true rfl) (rmF (by omega)) (rmL (by decide) (by omega)) (Nat.zero_le _) (Nat.zero_le _) ?_
  refine aw_if_eq (tgt := 156) rfl (by decide) (fun h94 => ?_) (fun h94 => absurd (by rw [c3]; rfl) h94)
  refine aw_iload_n rfl rfl ?_
  exact aw_nI (p := skw tx E p) (d := nI w) rfl rfl rfl
theorem dg_c {tx : Nat → Nat} {E q : Nat} (h : dg tx E q = true) : q < E ∧ 48 ≤ tx q ∧ tx q ≤ 57 := by
  unfold dg at h
  simp only [Bool.and_eq_true, decide_eq_true_eq] at h
  exact ⟨h.1, h.2.1, h.2.2⟩
theorem nm_ad {v c : Nat} (h : 48 ≤ c) : (10 : Int32) * nI v + nI c - 48 = nI (10 * v + (c - 48)) := by
  rw [show (10 : Int32) * nI v = nI (10 * v) from pk_mul 10 v, nI_add, show nI (10 * v + c) - 48 = nI (10 * v + c - 48) from nI_sb (b := 48) (by omega)]
  exact congrArg nI (by omega)
def nmR (b : Bool × Nat × Nat) : Rs := if b.1 = true then rOk b.2.1 (fun _ => nI b.2.2) else rNo b.2.1
set_option maxRecDepth 4000 in
theorem rm_num {l : Launch} {g : ag_G} {s : am_S} {n : am_N} {B b E : Nat} {tx : Nat → Nat} {A : Nat → Int32} (hx : aw_hx g) (hT : TX s n B b E tx) (hL : ∀ i, i < 6 → s 43 (asN i) = A i) (hA : ∀ i, i < 6 → bd (A i)) {w : Nat} (hw : w ≤ 6) : ∀ (d k q v : Nat) (R : Bool × Nat × Nat), k + d = 4 → q ≤ E → v < 10 ^ k → nmD tx E d q v = R → aw_W l g mi_X12_atom (aw_rm (5 + 3 * (6 - w)) 0 0) (aw_Z g (PO g s n A false w (nmR R)) 0 0) 0 0 (hp g (pst s q w (-1)) n) 90 [some (.ref (g_ad g 39)), none, some (.int (nI v)), some (.int (nI k))] [] := by
  have hE := hT.2.2.2.1
  intro d
  induction d with
  | zero =>
    intro k q v R hk hq hv hR
    obtain rfl : k = 4 := by omega
    subst hR
    simp only [nmD]
    cases hd : dg tx E q with
    | false =>
      show aw_W l g mi_X12_atom _ (aw_Z g (PO g s n A false w (rOk q (fun _ => nI v))) 0 0) 0 0 _ _ _ _
      refine aw_aload_n rfl rfl ?_
      refine aw_iV (q0 := 39) (ci := 12) rfl cw_X12_168 rfl rfl rfl (c_m_isDigit hT hq) rfl rfl (Nat.le_of_ble_eq_true rfl) (rmF (by omega)) (rmL (by decide) (by omega)) (Nat.zero_le _) (Nat.zero_le _) ?_
      refine aw_if_eq (tgt := 156) rfl (by decide) (fun h94 => ?_) (fun h94 => absurd (by rw [hd]; rfl) h94)
      refine aw_iload_n rfl rfl ?_
      exact aw_kI rfl rfl rfl (bd_nI (by omega)) rfl
    | true =>
      show aw_W l g mi_X12_atom _ (aw_Z g (PO g s n A false w (rNo q)) 0 0) 0 0 _ _ _ _
      refine aw_aload_n rfl rfl ?_
      refine aw_iV (q0 := 39) (ci := 12) rfl cw_X12_168 rfl rfl rfl (c_m_isDigit hT hq) rfl rfl (Nat.le_of_ble_eq_true rfl) (rmF (by omega)) (rmL (by decide) (by omega)) (Nat.zero_le _) (Nat.zero_le _) ?_
      refine aw_if_eq (tgt := 156) rfl (by decide) (fun h94 => absurd h94 (by rw [hd]; decide)) (fun h94 => ?_)
      refine aw_aload_n rfl rfl ?_
      refine pg_39_11 rfl kl_X12_128 ?_
      refine aw_iconst (v := -1) rfl (by decide) ?_
      refine aw_icmp_ne (tgt := 156) rfl (by decide) (fun h102 => absurd (rfl) h102) (fun h102 => ?_)
      refine aw_iload_n rfl rfl ?_
      refine aw_iconst (v := 4) rfl (by decide) ?_
      refine aw_icmp_ne (tgt := 117) rfl (by decide) (fun h107 => absurd (rfl) h107) (fun h107 => ?_)
      refine aw_aload_n rfl rfl ?_
      refine aw_iV (q0 := 39) (ci := 12) rfl cw_X12_134 rfl rfl rfl (c_m_fails) rfl rfl (Nat.le_of_ble_eq_true rfl) (rmF (by omega)) (rmL (by decide) (by omega)) (Nat.zero_le _) (Nat.zero_le _) ?_
      refine aw_pop rfl rfl ?_
      refine aw_iconst (v := 0) rfl (by decide) ?_
      exact aw_nI (p := q) (d := nI w) rfl rfl rfl
  | succ d ih =>
    intro k q v R hk hq hv hR
    simp only [nmD] at hR
    cases hd : dg tx E q with
    | false =>
      rw [if_neg (by rw [hd]; exact Bool.false_ne_true)] at hR
      subst hR
      have hv2 : v ≤ 1000000 := by
        have : 10 ^ k ≤ 10 ^ 4 := Nat.pow_le_pow_right (by decide) (by omega)
        omega
      show aw_W l g mi_X12_atom _ (aw_Z g (PO g s n A false w (rOk q (fun _ => nI v))) 0 0) 0 0 _ _ _ _
      refine aw_aload_n rfl rfl ?_
      refine aw_iV (q0 := 39) (ci := 12) rfl cw_X12_168 rfl rfl rfl (c_m_isDigit hT hq) rfl rfl (Nat.le_of_ble_eq_true rfl) (rmF (by omega)) (rmL (by decide) (by omega)) (Nat.zero_le _) (Nat.zero_le _) ?_
      refine aw_if_eq (tgt := 156) rfl (by decide) (fun h94 => ?_) (fun h94 => absurd (by rw [hd]; rfl) h94)
      refine aw_iload_n rfl rfl ?_
      exact aw_kI rfl rfl rfl (bd_nI hv2) rfl
    | true =>
      rw [if_pos hd] at hR
      have hc := dg_c hd
      have hn8 : n8 (tx q) = nI (tx q) := (n8_c _ (by omega)).2.2.2 (by omega)
      have hv2 : 10 * v + (tx q - 48) < 10 ^ (k + 1) := by rw [Nat.pow_succ]; omega
      refine aw_aload_n rfl rfl ?_
      refine aw_iV (q0 := 39) (ci := 12) rfl cw_X12_168 rfl rfl rfl (c_m_isDigit hT hq) rfl rfl (Nat.le_of_ble_eq_true rfl) (rmF (by omega)) (rmL (by decide) (by omega)) (Nat.zero_le _) (Nat.zero_le _) ?_
      refine aw_if_eq (tgt := 156) rfl (by decide) (fun h94 => absurd h94 (by rw [hd]; decide)) (fun h94 => ?_)
      refine aw_aload_n rfl rfl ?_
      refine pg_39_11 rfl kl_X12_128 ?_
      refine aw_iconst (v := -1) rfl (by decide) ?_
      refine aw_icmp_ne (tgt := 156) rfl (by decide) (fun h102 => absurd (rfl) h102) (fun h102 => ?_)
      refine aw_iload_n rfl rfl ?_
      refine aw_iconst (v := 4) rfl (by decide) ?_
      refine aw_icmp_ne (tgt := 117) rfl (by decide) (fun h107 => ?_) (fun h107 => absurd h107 (fun e => absurd ((nI_eq (b := 4) (by omega) (by decide)).mp e) (by omega)))
      refine aw_bipush (v := 10) rfl (by decide) ?_
      refine aw_iload_n rfl rfl ?_
      refine aw_imul rfl ?_
      refine aw_aload_n rfl rfl ?_
      refine pg_39_5 rfl kl_X12_23 ?_
      refine aw_aload_n rfl rfl ?_
      refine pg_39_8 rfl kl_X12_125 ?_
      refine aw_aload_n rfl rfl ?_
      refine pg_39_10 rfl kl_X12_119 ?_
      refine aw_iadd rfl ?_
      refine pl_T (q := q) rfl (TX_ps hT) (show s 39 8 + nI q = nI (b + q) from by (rw [hT.2.1]; exact nI_add _ _)) (by omega) ?_
      refine aw_iadd rfl ?_
      refine aw_bipush (v := 48) rfl (by decide) ?_
      refine aw_isub rfl ?_
      refine aw_istore_n rfl (by decide) ?_
      refine aw_aload_n rfl rfl ?_
      refine aw_dup rfl rfl ?_
      refine pg_39_10 rfl kl_X12_119 ?_
      refine aw_iconst (v := 1) rfl (by decide) ?_
      refine aw_iadd rfl ?_
      refine pp_39_10 rfl kl_X12_119 ?_
      refine aw_eqs (ws' := hp g (pst s (q + 1) w (-1)) n) ?_ rfl rfl (congrArg (fun z => hp g z n) pst_in)
      refine aw_inc1 rfl rfl (by decide) ?_
      refine aw_goto (tgt := 90) rfl (by decide) ?_
      exact aw_wk (ih (k + 1) (q + 1) (10 * v + (tx q - 48)) R (by omega) (by omega) hv2 hR) (And.intro rfl (And.intro (congrArg (fun x => some (Value.int x)) (show (10 : Int32) * nI v + n8 (tx q) - 48 = nI (10 * v + (tx q - 48)) from by (rw [hn8]; exact nm_ad (by omega)))) (And.intro (congrArg (fun x => some (Value.int x)) (nI_1 k)) True.intro)))
set_option maxRecDepth 4000 in
theorem rm_atN {l : Launch} {g : ag_G} {s : am_S} {n : am_N} {B b E : Nat} {tx : Nat → Nat} {A : Nat → Int32} (hx : aw_hx g) (hT : TX s n B b E tx) (hL : ∀ i, i < 6 → s 43 (asN i) = A i) (hA : ∀ i, i < 6 → bd (A i)) {w : Nat} {p : Nat} {q : Nat} {m0 : Nat} (c1 : xsp 4 (cst tx E p) = none) (c2 : (cst tx E p) ≠ 91) (c3 : dg tx E (skw tx E p) = true) (c4 : nmD tx E 4 (skw tx E p) 0 = (true, q, m0)) (hpE : p ≤ E) (hw : w ≤ 6) : aw_M l g mi_X12_atom (5 + 3 * (6 - w)) 0 0 [.ref (g_ad g 39)] (hp g (pst s p w (-1)) n) (PO g s n A false w (rOk q (fun _ => nI m0))) := by
  have hE := hT.2.2.2.1
  have hk := skw_b (tx := tx) hpE
  refine aw_M_of mo_X12_atom (by decide) (Nat.le_of_ble_eq_true rfl) ?_
  refine aw_aload_n rfl rfl ?_
  refine aw_iV (q0 := 39) (ci := 12) rfl cw_X12_138 rfl rfl rfl (c_m_lookC hT hpE) rfl rfl (Nat.le_of_ble_eq_true rfl) (rmF (by omega)) (rmL (by decide) (by omega)) (Nat.zero_le _) (Nat.zero_le _) ?_
  refine aw_istore_n rfl (by decide) ?_
  refine aw_ldcS rfl (xr_X12_32 hx) ?_
  refine aw_iload_n rfl rfl ?_
  refine aw_iS rfl cw_X12_154 (c_m_isAmong (i := 4) hx (by decide)) rfl rfl (Nat.le_of_ble_eq_true rfl) (rmF (by omega)) (rmL (by decide) (by omega)) (Nat.zero_le _) (Nat.zero_le _) ?_
  refine aw_if_eq (tgt := 31) rfl (by decide) (fun h11 => ?_) (fun h11 => absurd (by rw [c1]; rfl) h11)
  refine aw_iload_n rfl rfl ?_
  refine aw_bipush (v := 91) rfl (by decide) ?_
  refine aw_icmp_ne (tgt := 74) rfl (by decide) (fun h34 => ?_) (fun h34 => absurd h34 (c2))
  refine aw_aload_n rfl rfl ?_
  refine aw_iV (q0 := 39) (ci := 12) rfl cw_X12_168 rfl rfl rfl (c_m_isDigit hT hk.2.1) rfl rfl (Nat.le_of_ble_eq_true rfl) (rmF (by omega)) (rmL (by decide) (by omega)) (Nat.zero_le _) (Nat.zero_le _) ?_
  refine aw_if_ne (tgt := 86) rfl (by decide) (fun h78 => ?_) (fun h78 => absurd h78 (by rw [c3]; decide))
  refine aw_iconst (v := 0) rfl (by decide) ?_
  refine aw_istore_n rfl (by decide) ?_
  refine aw_iconst (v := 0) rfl (by decide) ?_
  refine aw_istore_n rfl (by decide) ?_
  exact aw_wk (rm_num hx hT hL hA hw 4 0 (skw tx E p) 0 (true, q, m0) (by omega) hk.2.1 (by decide) c4) (And.intro rfl (And.intro rfl (And.intro rfl True.intro)))
set_option maxRecDepth 4000 in
theorem rm_atN5 {l : Launch} {g : ag_G} {s : am_S} {n : am_N} {B b E : Nat} {tx : Nat → Nat} {A : Nat → Int32} (hx : aw_hx g) (hT : TX s n B b E tx) (hL : ∀ i, i < 6 → s 43 (asN i) = A i) (hA : ∀ i, i < 6 → bd (A i)) {w : Nat} {p : Nat} {q : Nat} {m0 : Nat} (c1 : xsp 4 (cst tx E p) = none) (c2 : (cst tx E p) ≠ 91) (c3 : dg tx E (skw tx E p) = true) (c4 : nmD tx E 4 (skw tx E p) 0 = (false, q, m0)) (hpE : p ≤ E) (hw : w ≤ 6) : aw_M l g mi_X12_atom (5 + 3 * (6 - w)) 0 0 [.ref (g_ad g 39)] (hp g (pst s p w (-1)) n) (PO g s n A false w (rNo q)) := by
  have hE := hT.2.2.2.1
  have hk := skw_b (tx := tx) hpE
  refine aw_M_of mo_X12_atom (by decide) (Nat.le_of_ble_eq_true rfl) ?_
  refine aw_aload_n rfl rfl ?_
  refine aw_iV (q0 := 39) (ci := 12) rfl cw_X12_138 rfl rfl rfl (c_m_lookC hT hpE) rfl rfl (Nat.le_of_ble_eq_true rfl) (rmF (by omega)) (rmL (by decide) (by omega)) (Nat.zero_le _) (Nat.zero_le _) ?_
  refine aw_istore_n rfl (by decide) ?_
  refine aw_ldcS rfl (xr_X12_32 hx) ?_
  refine aw_iload_n rfl rfl ?_
  refine aw_iS rfl cw_X12_154 (c_m_isAmong (i := 4) hx (by decide)) rfl rfl (Nat.le_of_ble_eq_true rfl) (rmF (by omega)) (rmL (by decide) (by omega)) (Nat.zero_le _) (Nat.zero_le _) ?_
  refine aw_if_eq (tgt := 31) rfl (by decide) (fun h11 => ?_) (fun h11 => absurd (by rw [c1]; rfl) h11)
  refine aw_iload_n rfl rfl ?_
  refine aw_bipush (v := 91) rfl (by decide) ?_
  refine aw_icmp_ne (tgt := 74) rfl (by decide) (fun h34 => ?_) (fun h34 => absurd h34 (c2))
  refine aw_aload_n rfl rfl ?_
  refine aw_iV (q0 := 39) (ci := 12) rfl cw_X12_168 rfl rfl rfl (c_m_isDigit hT hk.2.1) rfl rfl (Nat.le_of_ble_eq_true rfl) (rmF (by omega)) (rmL (by decide) (by omega)) (Nat.zero_le _) (Nat.zero_le _) ?_
  refine aw_if_ne (tgt := 86) rfl (by decide) (fun h78 => ?_) (fun h78 => absurd h78 (by rw [c3]; decide))
  refine aw_iconst (v := 0) rfl (by decide) ?_
  refine aw_istore_n rfl (by decide) ?_
  refine aw_iconst (v := 0) rfl (by decide) ?_
  refine aw_istore_n rfl (by decide) ?_
  exact aw_wk (rm_num hx hT hL hA hw 4 0 (skw tx E p) 0 (false, q, m0) (by omega) hk.2.1 (by decide) c4) (And.intro rfl (And.intro rfl (And.intro rfl True.intro)))
set_option maxRecDepth 4000 in
theorem rm_te {l : Launch} {g : ag_G} {s : am_S} {n : am_N} {B b E : Nat} {tx : Nat → Nat} {A : Nat → Int32} (hx : aw_hx g) (hT : TX s n B b E tx) (hL : ∀ i, i < 6 → s 43 (asN i) = A i) (hA : ∀ i, i < 6 → bd (A i)) {w : Nat} {p : Nat} {p1 : Nat} {a : Ex} {r : Rs} (z1 : PZ tx E nAtom w p (rOk p1 a)) (d1 : p ≤ E → w ≤ 6 → aw_M l g mi_X12_atom (5 + 3 * (6 - w)) 0 0 [.ref (g_ad g 39)] (hp g (pst s p w (-1)) n) (PO g s n A false w (rOk p1 a))) (z2 : PZ tx E (nTl a) w p1 r) (d2 : p1 ≤ E → w ≤ 6 → bd (a A) → aw_W l g mi_X12_term (aw_rm (6 + 3 * (6 - w)) 0 0) (aw_Z g (PO g s n A false w r) 0 0) 0 0 (hp g (pst s p1 w (-1)) n) 5 [some (.ref (g_ad g 39)), some (.int (a A)), none, none, none] []) (hpE : p ≤ E) (hw : w ≤ 6) : aw_M l g mi_X12_term (6 + 3 * (6 - w)) 0 0 [.ref (g_ad g 39)] (hp g (pst s p w (-1)) n) (PO g s n A false w r) := by
  have hE := hT.2.2.2.1
  have hk := skw_b (tx := tx) hpE
  have hp1 : p1 ≤ E := (PZ_pr z1 hpE).2.1
  refine aw_M_of mo_X12_term (by decide) (Nat.le_of_ble_eq_true rfl) ?_
  refine aw_aload_n rfl rfl ?_
  refine aw_pK (q0 := 39) (ci := 12) rfl cw_X12_171 rfl rfl rfl ((d1 hpE hw)) rfl rfl (Nat.le_of_ble_eq_true rfl) (rmF (by omega)) (rmL (by decide) (by omega)) (Nat.zero_le _) (Nat.zero_le _) (fun hb1 => ?_)
  refine aw_istore_n rfl (by decide) ?_
  exact aw_wk (d2 hp1 (by omega) hb1) (And.intro rfl (And.intro rfl True.intro))
set_option maxRecDepth 4000 in
theorem rm_tef {l : Launch} {g : ag_G} {s : am_S} {n : am_N} {B b E : Nat} {tx : Nat → Nat} {A : Nat → Int32} (hx : aw_hx g) (hT : TX s n B b E tx) (hL : ∀ i, i < 6 → s 43 (asN i) = A i) (hA : ∀ i, i < 6 → bd (A i)) {w : Nat} {p : Nat} {f : Nat} (z1 : PZ tx E nAtom w p (rNo f)) (d1 : p ≤ E → w ≤ 6 → aw_M l g mi_X12_atom (5 + 3 * (6 - w)) 0 0 [.ref (g_ad g 39)] (hp g (pst s p w (-1)) n) (PO g s n A false w (rNo f))) (hpE : p ≤ E) (hw : w ≤ 6) : aw_M l g mi_X12_term (6 + 3 * (6 - w)) 0 0 [.ref (g_ad g 39)] (hp g (pst s p w (-1)) n) (PO g s n A false w (rNo f)) := by
  have hE := hT.2.2.2.1
  have hk := skw_b (tx := tx) hpE
  have hfE : f ≤ E := (PZ_pr z1 hpE).2
  have hf24 : ¬ nI f = (-1 : Int32) := nI_nm1 (by omega)
  refine aw_M_of mo_X12_term (by decide) (Nat.le_of_ble_eq_true rfl) ?_
  refine aw_aload_n rfl rfl ?_
  refine aw_pN (q0 := 39) (ci := 12) rfl cw_X12_171 rfl rfl rfl ((d1 hpE hw)) rfl rfl (Nat.le_of_ble_eq_true rfl) (rmF (by omega)) (rmL (by decide) (by omega)) (Nat.zero_le _) (Nat.zero_le _) (fun x2 p2 d2 hb1 => ?_)
  refine aw_istore_n rfl (by decide) ?_
  refine aw_aload_n rfl rfl ?_
  refine pg_39_11 rfl kl_X12_128 ?_
  refine aw_iconst (v := -1) rfl (by decide) ?_
  refine aw_icmp_ne (tgt := 94) rfl (by decide) (fun h10 => ?_) (fun h10 => absurd h10 (hf24))
  refine aw_iload_n rfl rfl ?_
  exact aw_nI rfl rfl rfl
set_option maxRecDepth 4000 in
theorem rm_tlS {l : Launch} {g : ag_G} {s : am_S} {n : am_N} {B b E : Nat} {tx : Nat → Nat} {A : Nat → Int32} (hx : aw_hx g) (hT : TX s n B b E tx) (hL : ∀ i, i < 6 → s 43 (asN i) = A i) (hA : ∀ i, i < 6 → bd (A i)) {w : Nat} {p : Nat} {v : Ex} (c1 : (cst tx E p) ≠ 42) (c2 : (cst tx E p) ≠ 47) (hpE : p ≤ E) (hw : w ≤ 6) : bd (v A) → aw_W l g mi_X12_term (aw_rm (6 + 3 * (6 - w)) 0 0) (aw_Z g (PO g s n A false w (rOk (skw tx E p) v)) 0 0) 0 0 (hp g (pst s p w (-1)) n) 5 [some (.ref (g_ad g 39)), some (.int (v A)), none, none, none] [] := by
  have hE := hT.2.2.2.1
  have hk := skw_b (tx := tx) hpE
  intro hv
  refine aw_aload_n rfl rfl ?_
  refine pg_39_11 rfl kl_X12_128 ?_
  refine aw_iconst (v := -1) rfl (by decide) ?_
  refine aw_icmp_ne (tgt := 94) rfl (by decide) (fun h10 => absurd (rfl) h10) (fun h10 => ?_)
  refine aw_aload_n rfl rfl ?_
  refine aw_iV (q0 := 39) (ci := 12) rfl cw_X12_138 rfl rfl rfl (c_m_lookC hT hpE) rfl rfl (Nat.le_of_ble_eq_true rfl) (rmF (by omega)) (rmL (by decide) (by omega)) (Nat.zero_le _) (Nat.zero_le _) ?_
  refine aw_bipush (v := 42) rfl (by decide) ?_
  refine aw_icmp_eq (tgt := 31) rfl (by decide) (fun h19 => absurd h19 (c1)) (fun h19 => ?_)
  refine aw_aload_n rfl rfl ?_
  refine aw_iV (q0 := 39) (ci := 12) rfl cw_X12_138 rfl rfl rfl (c_m_lookI hT hpE) rfl rfl (Nat.le_of_ble_eq_true rfl) (rmF (by omega)) (rmL (by decide) (by omega)) (Nat.zero_le _) (Nat.zero_le _) ?_
  refine aw_bipush (v := 47) rfl (by decide) ?_
  refine aw_icmp_ne (tgt := 94) rfl (by decide) (fun h28 => ?_) (fun h28 => absurd h28 (c2))
  refine aw_iload_n rfl rfl ?_
  exact aw_kI rfl rfl rfl hv rfl
set_option maxRecDepth 4000 in
theorem rm_tlM {l : Launch} {g : ag_G} {s : am_S} {n : am_N} {B b E : Nat} {tx : Nat → Nat} {A : Nat → Int32} (hx : aw_hx g) (hT : TX s n B b E tx) (hL : ∀ i, i < 6 → s 43 (asN i) = A i) (hA : ∀ i, i < 6 → bd (A i)) {w : Nat} {p : Nat} {p1 : Nat} {v : Ex} {a : Ex} {r : Rs} (c1 : (cst tx E p) = 42) (z1 : PZ tx E nAtom w (skw tx E p + 1) (rOk p1 a)) (d1 : (skw tx E p + 1) ≤ E → w ≤ 6 → aw_M l g mi_X12_atom (5 + 3 * (6 - w)) 0 0 [.ref (g_ad g 39)] (hp g (pst s (skw tx E p + 1) w (-1)) n) (PO g s n A false w (rOk p1 a))) (z2 : PZ tx E (nTl (eMul v a)) w p1 r) (d2 : p1 ≤ E → w ≤ 6 → bd ((eMul v a) A) → aw_W l g mi_X12_term (aw_rm (6 + 3 * (6 - w)) 0 0) (aw_Z g (PO g s n A false w r) 0 0) 0 0 (hp g (pst s p1 w (-1)) n) 5 [some (.ref (g_ad g 39)), some (.int ((eMul v a) A)), none, none, none] []) (hpE : p ≤ E) (hw : w ≤ 6) : bd (v A) → aw_W l g mi_X12_term (aw_rm (6 + 3 * (6 - w)) 0 0) (aw_Z g (PO g s n A false w r) 0 0) 0 0 (hp g (pst s p w (-1)) n) 5 [some (.ref (g_ad g 39)), some (.int (v A)), none, none, none] [] := by
  have hE := hT.2.2.2.1
  have hk := skw_b (tx := tx) hpE
  intro hv
  have hnx : skw tx E p + 1 ≤ E := by (have := cst_lt (tx := tx) (E := E) (p := p) (by rw [c1]; decide); omega)
  have hp1 : p1 ≤ E := (PZ_pr z1 (by omega)).2.1
  refine aw_aload_n rfl rfl ?_
  refine pg_39_11 rfl kl_X12_128 ?_
  refine aw_iconst (v := -1) rfl (by decide) ?_
  refine aw_icmp_ne (tgt := 94) rfl (by decide) (fun h10 => absurd (rfl) h10) (fun h10 => ?_)
  refine aw_aload_n rfl rfl ?_
  refine aw_iV (q0 := 39) (ci := 12) rfl cw_X12_138 rfl rfl rfl (c_m_lookC hT hpE) rfl rfl (Nat.le_of_ble_eq_true rfl) (rmF (by omega)) (rmL (by decide) (by omega)) (Nat.zero_le _) (Nat.zero_le _) ?_
  refine aw_bipush (v := 42) rfl (by decide) ?_
  refine aw_icmp_eq (tgt := 31) rfl (by decide) (fun h19 => ?_) (fun h19 => absurd (c1) h19)
  refine aw_aload_n rfl rfl ?_
  refine aw_iV (q0 := 39) (ci := 12) rfl cw_X12_138 rfl rfl rfl (c_m_lookI hT hpE) rfl rfl (Nat.le_of_ble_eq_true rfl) (rmF (by omega)) (rmL (by decide) (by omega)) (Nat.zero_le _) (Nat.zero_le _) ?_
  refine aw_bipush (v := 42) rfl (by decide) ?_
  refine aw_icmp_ne (tgt := 44) rfl (by decide) (fun h37 => absurd (c1) h37) (fun h37 => ?_)
  refine aw_iconst (v := 1) rfl (by decide) ?_
  refine aw_goto (tgt := 45) rfl (by decide) ?_
  refine aw_istore_n rfl (by decide) ?_
  refine aw_aload_n rfl rfl ?_
  refine aw_dup rfl rfl ?_
  refine pg_39_10 rfl kl_X12_119 ?_
  refine aw_iconst (v := 1) rfl (by decide) ?_
  refine aw_iadd rfl ?_
  refine pp_39_10 rfl kl_X12_119 ?_
  refine aw_eqs (ws' := hp g (pst s ((skw tx E p) + 1) w (-1)) n) ?_ rfl rfl (congrArg (fun z => hp g z n) pst_in)
  refine aw_aload_n rfl rfl ?_
  refine aw_pK (q0 := 39) (ci := 12) rfl cw_X12_171 rfl rfl rfl ((d1 (by omega) hw)) rfl rfl (Nat.le_of_ble_eq_true rfl) (rmF (by omega)) (rmL (by decide) (by omega)) (Nat.zero_le _) (Nat.zero_le _) (fun hb1 => ?_)
  refine aw_i2l rfl ?_
  refine aw_lstore_n rfl (by decide) ?_
  refine aw_iload_n rfl rfl ?_
  refine aw_if_eq (tgt := 73) rfl (by decide) (fun h63 => absurd h63 (by decide)) (fun h63 => ?_)
  refine aw_iload_n rfl rfl ?_
  refine aw_i2l rfl ?_
  refine aw_lload_n rfl rfl ?_
  refine aw_lmul rfl ?_
  refine aw_goto (tgt := 87) rfl (by decide) ?_
  refine aw_iS rfl cw_X12_174 (c_m_within) rfl rfl (Nat.le_of_ble_eq_true rfl) (rmF (by omega)) (rmL (by decide) (by omega)) (Nat.zero_le _) (Nat.zero_le _) ?_
  refine aw_istore_n rfl (by decide) ?_
  refine aw_goto (tgt := 5) rfl (by decide) ?_
  exact aw_wk (d2 hp1 hw (wi_bd _)) (And.intro rfl (And.intro rfl True.intro))
set_option maxRecDepth 4000 in
theorem rm_tlD {l : Launch} {g : ag_G} {s : am_S} {n : am_N} {B b E : Nat} {tx : Nat → Nat} {A : Nat → Int32} (hx : aw_hx g) (hT : TX s n B b E tx) (hL : ∀ i, i < 6 → s 43 (asN i) = A i) (hA : ∀ i, i < 6 → bd (A i)) {w : Nat} {p : Nat} {p1 : Nat} {v : Ex} {a : Ex} {r : Rs} (c1 : (cst tx E p) = 47) (z1 : PZ tx E nAtom w (skw tx E p + 1) (rOk p1 a)) (d1 : (skw tx E p + 1) ≤ E → w ≤ 6 → aw_M l g mi_X12_atom (5 + 3 * (6 - w)) 0 0 [.ref (g_ad g 39)] (hp g (pst s (skw tx E p + 1) w (-1)) n) (PO g s n A false w (rOk p1 a))) (z2 : PZ tx E (nTl (eDiv v a)) w p1 r) (d2 : p1 ≤ E → w ≤ 6 → bd ((eDiv v a) A) → aw_W l g mi_X12_term (aw_rm (6 + 3 * (6 - w)) 0 0) (aw_Z g (PO g s n A false w r) 0 0) 0 0 (hp g (pst s p1 w (-1)) n) 5 [some (.ref (g_ad g 39)), some (.int ((eDiv v a) A)), none, none, none] []) (hpE : p ≤ E) (hw : w ≤ 6) : bd (v A) → aw_W l g mi_X12_term (aw_rm (6 + 3 * (6 - w)) 0 0) (aw_Z g (PO g s n A false w r) 0 0) 0 0 (hp g (pst s p w (-1)) n) 5 [some (.ref (g_ad g 39)), some (.int (v A)), none, none, none] [] := by
  have hE := hT.2.2.2.1
  have hk := skw_b (tx := tx) hpE
  intro hv
  have hnx : skw tx E p + 1 ≤ E := by (have := cst_lt (tx := tx) (E := E) (p := p) (by rw [c1]; decide); omega)
  have hp1 : p1 ≤ E := (PZ_pr z1 (by omega)).2.1
  refine aw_aload_n rfl rfl ?_
  refine pg_39_11 rfl kl_X12_128 ?_
  refine aw_iconst (v := -1) rfl (by decide) ?_
  refine aw_icmp_ne (tgt := 94) rfl (by decide) (fun h10 => absurd (rfl) h10) (fun h10 => ?_)
  refine aw_aload_n rfl rfl ?_
  refine aw_iV (q0 := 39) (ci := 12) rfl cw_X12_138 rfl rfl rfl (c_m_lookC hT hpE) rfl rfl (Nat.le_of_ble_eq_true rfl) (rmF (by omega)) (rmL (by decide) (by omega)) (Nat.zero_le _) (Nat.zero_le _) ?_
  refine aw_bipush (v := 42) rfl (by decide) ?_
  refine aw_icmp_eq (tgt := 31) rfl (by decide) (fun h19 => absurd h19 (by rw [c1]; decide)) (fun h19 => ?_)
  refine aw_aload_n rfl rfl ?_
  refine aw_iV (q0 := 39) (ci := 12) rfl cw_X12_138 rfl rfl rfl (c_m_lookI hT hpE) rfl rfl (Nat.le_of_ble_eq_true rfl) (rmF (by omega)) (rmL (by decide) (by omega)) (Nat.zero_le _) (Nat.zero_le _) ?_
  refine aw_bipush (v := 47) rfl (by decide) ?_
  refine aw_icmp_ne (tgt := 94) rfl (by decide) (fun h28 => absurd (c1) h28) (fun h28 => ?_)
  refine aw_aload_n rfl rfl ?_
  refine aw_iV (q0 := 39) (ci := 12) rfl cw_X12_138 rfl rfl rfl (c_m_lookI hT hpE) rfl rfl (Nat.le_of_ble_eq_true rfl) (rmF (by omega)) (rmL (by decide) (by omega)) (Nat.zero_le _) (Nat.zero_le _) ?_
  refine aw_bipush (v := 42) rfl (by decide) ?_
  refine aw_icmp_ne (tgt := 44) rfl (by decide) (fun h37 => ?_) (fun h37 => absurd h37 (by rw [c1]; decide))
  refine aw_iconst (v := 0) rfl (by decide) ?_
  refine aw_istore_n rfl (by decide) ?_
  refine aw_aload_n rfl rfl ?_
  refine aw_dup rfl rfl ?_
  refine pg_39_10 rfl kl_X12_119 ?_
  refine aw_iconst (v := 1) rfl (by decide) ?_
  refine aw_iadd rfl ?_
  refine pp_39_10 rfl kl_X12_119 ?_
  refine aw_eqs (ws' := hp g (pst s ((skw tx E p) + 1) w (-1)) n) ?_ rfl rfl (congrArg (fun z => hp g z n) pst_in)
  refine aw_aload_n rfl rfl ?_
  refine aw_pK (q0 := 39) (ci := 12) rfl cw_X12_171 rfl rfl rfl ((d1 (by omega) hw)) rfl rfl (Nat.le_of_ble_eq_true rfl) (rmF (by omega)) (rmL (by decide) (by omega)) (Nat.zero_le _) (Nat.zero_le _) (fun hb1 => ?_)
  refine aw_i2l rfl ?_
  refine aw_lstore_n rfl (by decide) ?_
  refine aw_iload_n rfl rfl ?_
  refine aw_if_eq (tgt := 73) rfl (by decide) (fun h63 => ?_) (fun h63 => absurd h63 (by decide))
  refine aw_lload_n rfl rfl ?_
  refine aw_lconst (v := 0) rfl (by decide) ?_
  refine aw_lcmp rfl ?_
  refine aw_if_ne (tgt := 83) rfl (by decide) (fun h76 => ?_) (fun h76 => ?_)
  · refine aw_iload_n rfl rfl ?_
    refine aw_i2l rfl ?_
    refine aw_lload_n rfl rfl ?_
    refine aw_ldiv rfl (fun z => h76 (by rw [z]; rfl)) ?_
    refine aw_iS rfl cw_X12_174 (c_m_within) rfl rfl (Nat.le_of_ble_eq_true rfl) (rmF (by omega)) (rmL (by decide) (by omega)) (Nat.zero_le _) (Nat.zero_le _) ?_
    refine aw_istore_n rfl (by decide) ?_
    refine aw_goto (tgt := 5) rfl (by decide) ?_
    first
    | (have z : a A = 0 := lgc_0.mp h76
       exact aw_wk (d2 hp1 hw (bd_div0 hv)) (And.intro rfl (And.intro (congrArg (fun x => some (Value.int x)) (show wi 0 = eDiv v a A from by (unfold eDiv; rw [if_pos z]; rfl))) True.intro)))
    | (have z : ¬ a A = 0 := fun e => h76 (lgc_0.mpr e)
       exact aw_wk (d2 hp1 hw (bd_div0 hv)) (And.intro rfl (And.intro (congrArg (fun x => some (Value.int x)) (show wi ((v A).toInt64 / (a A).toInt64) = eDiv v a A from by (unfold eDiv; rw [if_neg z]; exact wi_div hv))) True.intro)))
  · refine aw_lconst (v := 0) rfl (by decide) ?_
    refine aw_goto (tgt := 87) rfl (by decide) ?_
    refine aw_iS rfl cw_X12_174 (c_m_within) rfl rfl (Nat.le_of_ble_eq_true rfl) (rmF (by omega)) (rmL (by decide) (by omega)) (Nat.zero_le _) (Nat.zero_le _) ?_
    refine aw_istore_n rfl (by decide) ?_
    refine aw_goto (tgt := 5) rfl (by decide) ?_
    first
    | (have z : a A = 0 := lgc_0.mp h76
       exact aw_wk (d2 hp1 hw (bd_div0 hv)) (And.intro rfl (And.intro (congrArg (fun x => some (Value.int x)) (show wi 0 = eDiv v a A from by (unfold eDiv; rw [if_pos z]; rfl))) True.intro)))
    | (have z : ¬ a A = 0 := fun e => h76 (lgc_0.mpr e)
       exact aw_wk (d2 hp1 hw (bd_div0 hv)) (And.intro rfl (And.intro (congrArg (fun x => some (Value.int x)) (show wi ((v A).toInt64 / (a A).toInt64) = eDiv v a A from by (unfold eDiv; rw [if_neg z]; exact wi_div hv))) True.intro)))
set_option maxRecDepth 4000 in
theorem rm_tlF {l : Launch} {g : ag_G} {s : am_S} {n : am_N} {B b E : Nat} {tx : Nat → Nat} {A : Nat → Int32} (hx : aw_hx g) (hT : TX s n B b E tx) (hL : ∀ i, i < 6 → s 43 (asN i) = A i) (hA : ∀ i, i < 6 → bd (A i)) {w : Nat} {p : Nat} {f : Nat} {v : Ex} (c1 : ((cst tx E p) = 42 ∨ (cst tx E p) = 47)) (z1 : PZ tx E nAtom w (skw tx E p + 1) (rNo f)) (d1 : (skw tx E p + 1) ≤ E → w ≤ 6 → aw_M l g mi_X12_atom (5 + 3 * (6 - w)) 0 0 [.ref (g_ad g 39)] (hp g (pst s (skw tx E p + 1) w (-1)) n) (PO g s n A false w (rNo f))) (hpE : p ≤ E) (hw : w ≤ 6) : bd (v A) → aw_W l g mi_X12_term (aw_rm (6 + 3 * (6 - w)) 0 0) (aw_Z g (PO g s n A false w (rNo f)) 0 0) 0 0 (hp g (pst s p w (-1)) n) 5 [some (.ref (g_ad g 39)), some (.int (v A)), none, none, none] [] := by
  have hE := hT.2.2.2.1
  have hk := skw_b (tx := tx) hpE
  intro hv
  have hnx : skw tx E p + 1 ≤ E := by (have := cst_lt (tx := tx) (E := E) (p := p) (by rcases c1 with h | h <;> (rw [h]; decide)); omega)
  have hfE : f ≤ E := (PZ_pr z1 (by omega)).2
  have hf24 : ¬ nI f = (-1 : Int32) := nI_nm1 (by omega)
  rcases c1 with c1 | c1
  · skip
    refine aw_aload_n rfl rfl ?_
    refine pg_39_11 rfl kl_X12_128 ?_
    refine aw_iconst (v := -1) rfl (by decide) ?_
    refine aw_icmp_ne (tgt := 94) rfl (by decide) (fun h10 => absurd (rfl) h10) (fun h10 => ?_)
    refine aw_aload_n rfl rfl ?_
    refine aw_iV (q0 := 39) (ci := 12) rfl cw_X12_138 rfl rfl rfl (c_m_lookC hT hpE) rfl rfl (Nat.le_of_ble_eq_true rfl) (rmF (by omega)) (rmL (by decide) (by omega)) (Nat.zero_le _) (Nat.zero_le _) ?_
    refine aw_bipush (v := 42) rfl (by decide) ?_
    refine aw_icmp_eq (tgt := 31) rfl (by decide) (fun h19 => ?_) (fun h19 => absurd (c1) h19)
    refine aw_aload_n rfl rfl ?_
    refine aw_iV (q0 := 39) (ci := 12) rfl cw_X12_138 rfl rfl rfl (c_m_lookI hT hpE) rfl rfl (Nat.le_of_ble_eq_true rfl) (rmF (by omega)) (rmL (by decide) (by omega)) (Nat.zero_le _) (Nat.zero_le _) ?_
    refine aw_bipush (v := 42) rfl (by decide) ?_
    refine aw_icmp_ne (tgt := 44) rfl (by decide) (fun h37 => absurd (c1) h37) (fun h37 => ?_)
    refine aw_iconst (v := 1) rfl (by decide) ?_
    refine aw_goto (tgt := 45) rfl (by decide) ?_
    refine aw_istore_n rfl (by decide) ?_
    refine aw_aload_n rfl rfl ?_
    refine aw_dup rfl rfl ?_
    refine pg_39_10 rfl kl_X12_119 ?_
    refine aw_iconst (v := 1) rfl (by decide) ?_
    refine aw_iadd rfl ?_
    refine pp_39_10 rfl kl_X12_119 ?_
    refine aw_eqs (ws' := hp g (pst s ((skw tx E p) + 1) w (-1)) n) ?_ rfl rfl (congrArg (fun z => hp g z n) pst_in)
    refine aw_aload_n rfl rfl ?_
    refine aw_pN (q0 := 39) (ci := 12) rfl cw_X12_171 rfl rfl rfl ((d1 (by omega) hw)) rfl rfl (Nat.le_of_ble_eq_true rfl) (rmF (by omega)) (rmL (by decide) (by omega)) (Nat.zero_le _) (Nat.zero_le _) (fun x2 p2 d2 hb1 => ?_)
    refine aw_i2l rfl ?_
    refine aw_lstore_n rfl (by decide) ?_
    refine aw_iload_n rfl rfl ?_
    refine aw_if_eq (tgt := 73) rfl (by decide) (fun h63 => absurd h63 (by decide)) (fun h63 => ?_)
    refine aw_iload_n rfl rfl ?_
    refine aw_i2l rfl ?_
    refine aw_lload_n rfl rfl ?_
    refine aw_lmul rfl ?_
    refine aw_goto (tgt := 87) rfl (by decide) ?_
    refine aw_iS rfl cw_X12_174 (c_m_within) rfl rfl (Nat.le_of_ble_eq_true rfl) (rmF (by omega)) (rmL (by decide) (by omega)) (Nat.zero_le _) (Nat.zero_le _) ?_
    refine aw_istore_n rfl (by decide) ?_
    refine aw_goto (tgt := 5) rfl (by decide) ?_
    refine aw_aload_n rfl rfl ?_
    refine pg_39_11 rfl kl_X12_128 ?_
    refine aw_iconst (v := -1) rfl (by decide) ?_
    refine aw_icmp_ne (tgt := 94) rfl (by decide) (fun h10 => ?_) (fun h10 => absurd h10 (hf24))
    refine aw_iload_n rfl rfl ?_
    exact aw_nI rfl rfl rfl
  · skip
    refine aw_aload_n rfl rfl ?_
    refine pg_39_11 rfl kl_X12_128 ?_
    refine aw_iconst (v := -1) rfl (by decide) ?_
    refine aw_icmp_ne (tgt := 94) rfl (by decide) (fun h10 => absurd (rfl) h10) (fun h10 => ?_)
    refine aw_aload_n rfl rfl ?_
    refine aw_iV (q0 := 39) (ci := 12) rfl cw_X12_138 rfl rfl rfl (c_m_lookC hT hpE) rfl rfl (Nat.le_of_ble_eq_true rfl) (rmF (by omega)) (rmL (by decide) (by omega)) (Nat.zero_le _) (Nat.zero_le _) ?_
    refine aw_bipush (v := 42) rfl (by decide) ?_
    refine aw_icmp_eq (tgt := 31) rfl (by decide) (fun h19 => absurd h19 (by rw [c1]; decide)) (fun h19 => ?_)
    refine aw_aload_n rfl rfl ?_
    refine aw_iV (q0 := 39) (ci := 12) rfl cw_X12_138 rfl rfl rfl (c_m_lookI hT hpE) rfl rfl (Nat.le_of_ble_eq_true rfl) (rmF (by omega)) (rmL (by decide) (by omega)) (Nat.zero_le _) (Nat.zero_le _) ?_
    refine aw_bipush (v := 47) rfl (by decide) ?_
    refine aw_icmp_ne (tgt := 94) rfl (by decide) (fun h28 => absurd (c1) h28) (fun h28 => ?_)
    refine aw_aload_n rfl rfl ?_
    refine aw_iV (q0 := 39) (ci := 12) rfl cw_X12_138 rfl rfl rfl (c_m_lookI hT hpE) rfl rfl (Nat.le_of_ble_eq_true rfl) (rmF (by omega)) (rmL (by decide) (by omega)) (Nat.zero_le _) (Nat.zero_le _) ?_
    refine aw_bipush (v := 42) rfl (by decide) ?_
    refine aw_icmp_ne (tgt := 44) rfl (by decide) (fun h37 => ?_) (fun h37 => absurd h37 (by rw [c1]; decide))
    refine aw_iconst (v := 0) rfl (by decide) ?_
    refine aw_istore_n rfl (by decide) ?_
    refine aw_aload_n rfl rfl ?_
    refine aw_dup rfl rfl ?_
    refine pg_39_10 rfl kl_X12_119 ?_
    refine aw_iconst (v := 1) rfl (by decide) ?_
    refine aw_iadd rfl ?_
    refine pp_39_10 rfl kl_X12_119 ?_
    refine aw_eqs (ws' := hp g (pst s ((skw tx E p) + 1) w (-1)) n) ?_ rfl rfl (congrArg (fun z => hp g z n) pst_in)
    refine aw_aload_n rfl rfl ?_
    refine aw_pN (q0 := 39) (ci := 12) rfl cw_X12_171 rfl rfl rfl ((d1 (by omega) hw)) rfl rfl (Nat.le_of_ble_eq_true rfl) (rmF (by omega)) (rmL (by decide) (by omega)) (Nat.zero_le _) (Nat.zero_le _) (fun x2 p2 d2 hb1 => ?_)
    refine aw_i2l rfl ?_
    refine aw_lstore_n rfl (by decide) ?_
    refine aw_iload_n rfl rfl ?_
    refine aw_if_eq (tgt := 73) rfl (by decide) (fun h63 => ?_) (fun h63 => absurd h63 (by decide))
    refine aw_lload_n rfl rfl ?_
    refine aw_lconst (v := 0) rfl (by decide) ?_
    refine aw_lcmp rfl ?_
    refine aw_if_ne (tgt := 83) rfl (by decide) (fun h76 => ?_) (fun h76 => ?_)
    · refine aw_iload_n rfl rfl ?_
      refine aw_i2l rfl ?_
      refine aw_lload_n rfl rfl ?_
      refine aw_ldiv rfl (fun z => h76 (by rw [z]; rfl)) ?_
      refine aw_iS rfl cw_X12_174 (c_m_within) rfl rfl (Nat.le_of_ble_eq_true rfl) (rmF (by omega)) (rmL (by decide) (by omega)) (Nat.zero_le _) (Nat.zero_le _) ?_
      refine aw_istore_n rfl (by decide) ?_
      refine aw_goto (tgt := 5) rfl (by decide) ?_
      refine aw_aload_n rfl rfl ?_
      refine pg_39_11 rfl kl_X12_128 ?_
      refine aw_iconst (v := -1) rfl (by decide) ?_
      refine aw_icmp_ne (tgt := 94) rfl (by decide) (fun h10 => ?_) (fun h10 => absurd h10 (hf24))
      refine aw_iload_n rfl rfl ?_
      exact aw_nI rfl rfl rfl
    · refine aw_lconst (v := 0) rfl (by decide) ?_
      refine aw_goto (tgt := 87) rfl (by decide) ?_
      refine aw_iS rfl cw_X12_174 (c_m_within) rfl rfl (Nat.le_of_ble_eq_true rfl) (rmF (by omega)) (rmL (by decide) (by omega)) (Nat.zero_le _) (Nat.zero_le _) ?_
      refine aw_istore_n rfl (by decide) ?_
      refine aw_goto (tgt := 5) rfl (by decide) ?_
      refine aw_aload_n rfl rfl ?_
      refine pg_39_11 rfl kl_X12_128 ?_
      refine aw_iconst (v := -1) rfl (by decide) ?_
      refine aw_icmp_ne (tgt := 94) rfl (by decide) (fun h10 => ?_) (fun h10 => absurd h10 (hf24))
      refine aw_iload_n rfl rfl ?_
      exact aw_nI rfl rfl rfl
set_option maxRecDepth 4000 in
theorem rm_su {l : Launch} {g : ag_G} {s : am_S} {n : am_N} {B b E : Nat} {tx : Nat → Nat} {A : Nat → Int32} (hx : aw_hx g) (hT : TX s n B b E tx) (hL : ∀ i, i < 6 → s 43 (asN i) = A i) (hA : ∀ i, i < 6 → bd (A i)) {w : Nat} {p : Nat} {p1 : Nat} {a : Ex} {r : Rs} (z1 : PZ tx E nTerm w p (rOk p1 a)) (d1 : p ≤ E → w ≤ 6 → aw_M l g mi_X12_term (6 + 3 * (6 - w)) 0 0 [.ref (g_ad g 39)] (hp g (pst s p w (-1)) n) (PO g s n A false w (rOk p1 a))) (z2 : PZ tx E (nSl a) w p1 r) (d2 : p1 ≤ E → w ≤ 6 → bd (a A) → aw_W l g mi_X12_sum (aw_rm (7 + 3 * (6 - w)) 0 0) (aw_Z g (PO g s n A false w r) 0 0) 0 0 (hp g (pst s p1 w (-1)) n) 5 [some (.ref (g_ad g 39)), some (.int (a A)), none, none, none] []) (hpE : p ≤ E) (hw : w ≤ 6) : aw_M l g mi_X12_sum (7 + 3 * (6 - w)) 0 0 [.ref (g_ad g 39)] (hp g (pst s p w (-1)) n) (PO g s n A false w r) := by
  have hE := hT.2.2.2.1
  have hk := skw_b (tx := tx) hpE
  have hp1 : p1 ≤ E := (PZ_pr z1 hpE).2.1
  refine aw_M_of mo_X12_sum (by decide) (Nat.le_of_ble_eq_true rfl) ?_
  refine aw_aload_n rfl rfl ?_
  refine aw_pK (q0 := 39) (ci := 12) rfl cw_X12_178 rfl rfl rfl ((d1 hpE hw)) rfl rfl (Nat.le_of_ble_eq_true rfl) (rmF (by omega)) (rmL (by decide) (by omega)) (Nat.zero_le _) (Nat.zero_le _) (fun hb1 => ?_)
  refine aw_istore_n rfl (by decide) ?_
  exact aw_wk (d2 hp1 (by omega) hb1) (And.intro rfl (And.intro rfl True.intro))
set_option maxRecDepth 4000 in
theorem rm_suf {l : Launch} {g : ag_G} {s : am_S} {n : am_N} {B b E : Nat} {tx : Nat → Nat} {A : Nat → Int32} (hx : aw_hx g) (hT : TX s n B b E tx) (hL : ∀ i, i < 6 → s 43 (asN i) = A i) (hA : ∀ i, i < 6 → bd (A i)) {w : Nat} {p : Nat} {f : Nat} (z1 : PZ tx E nTerm w p (rNo f)) (d1 : p ≤ E → w ≤ 6 → aw_M l g mi_X12_term (6 + 3 * (6 - w)) 0 0 [.ref (g_ad g 39)] (hp g (pst s p w (-1)) n) (PO g s n A false w (rNo f))) (hpE : p ≤ E) (hw : w ≤ 6) : aw_M l g mi_X12_sum (7 + 3 * (6 - w)) 0 0 [.ref (g_ad g 39)] (hp g (pst s p w (-1)) n) (PO g s n A false w (rNo f)) := by
  have hE := hT.2.2.2.1
  have hk := skw_b (tx := tx) hpE
  have hfE : f ≤ E := (PZ_pr z1 hpE).2
  have hf24 : ¬ nI f = (-1 : Int32) := nI_nm1 (by omega)
  refine aw_M_of mo_X12_sum (by decide) (Nat.le_of_ble_eq_true rfl) ?_
  refine aw_aload_n rfl rfl ?_
  refine aw_pN (q0 := 39) (ci := 12) rfl cw_X12_178 rfl rfl rfl ((d1 hpE hw)) rfl rfl (Nat.le_of_ble_eq_true rfl) (rmF (by omega)) (rmL (by decide) (by omega)) (Nat.zero_le _) (Nat.zero_le _) (fun x2 p2 d2 hb1 => ?_)
  refine aw_istore_n rfl (by decide) ?_
  refine aw_aload_n rfl rfl ?_
  refine pg_39_11 rfl kl_X12_128 ?_
  refine aw_iconst (v := -1) rfl (by decide) ?_
  refine aw_icmp_ne (tgt := 84) rfl (by decide) (fun h10 => ?_) (fun h10 => absurd h10 (hf24))
  refine aw_iload_n rfl rfl ?_
  exact aw_nI rfl rfl rfl
set_option maxRecDepth 4000 in
theorem rm_slS {l : Launch} {g : ag_G} {s : am_S} {n : am_N} {B b E : Nat} {tx : Nat → Nat} {A : Nat → Int32} (hx : aw_hx g) (hT : TX s n B b E tx) (hL : ∀ i, i < 6 → s 43 (asN i) = A i) (hA : ∀ i, i < 6 → bd (A i)) {w : Nat} {p : Nat} {v : Ex} (c1 : (cst tx E p) ≠ 43) (c2 : (cst tx E p) ≠ 45) (hpE : p ≤ E) (hw : w ≤ 6) : bd (v A) → aw_W l g mi_X12_sum (aw_rm (7 + 3 * (6 - w)) 0 0) (aw_Z g (PO g s n A false w (rOk (skw tx E p) v)) 0 0) 0 0 (hp g (pst s p w (-1)) n) 5 [some (.ref (g_ad g 39)), some (.int (v A)), none, none, none] [] := by
  have hE := hT.2.2.2.1
  have hk := skw_b (tx := tx) hpE
  intro hv
  refine aw_aload_n rfl rfl ?_
  refine pg_39_11 rfl kl_X12_128 ?_
  refine aw_iconst (v := -1) rfl (by decide) ?_
  refine aw_icmp_ne (tgt := 84) rfl (by decide) (fun h10 => absurd (rfl) h10) (fun h10 => ?_)
  refine aw_aload_n rfl rfl ?_
  refine aw_iV (q0 := 39) (ci := 12) rfl cw_X12_138 rfl rfl rfl (c_m_lookC hT hpE) rfl rfl (Nat.le_of_ble_eq_true rfl) (rmF (by omega)) (rmL (by decide) (by omega)) (Nat.zero_le _) (Nat.zero_le _) ?_
  refine aw_bipush (v := 43) rfl (by decide) ?_
  refine aw_icmp_eq (tgt := 31) rfl (by decide) (fun h19 => absurd h19 (c1)) (fun h19 => ?_)
  refine aw_aload_n rfl rfl ?_
  refine aw_iV (q0 := 39) (ci := 12) rfl cw_X12_138 rfl rfl rfl (c_m_lookI hT hpE) rfl rfl (Nat.le_of_ble_eq_true rfl) (rmF (by omega)) (rmL (by decide) (by omega)) (Nat.zero_le _) (Nat.zero_le _) ?_
  refine aw_bipush (v := 45) rfl (by decide) ?_
  refine aw_icmp_ne (tgt := 84) rfl (by decide) (fun h28 => ?_) (fun h28 => absurd h28 (c2))
  refine aw_iload_n rfl rfl ?_
  exact aw_kI rfl rfl rfl hv rfl
set_option maxRecDepth 4000 in
theorem rm_slM {l : Launch} {g : ag_G} {s : am_S} {n : am_N} {B b E : Nat} {tx : Nat → Nat} {A : Nat → Int32} (hx : aw_hx g) (hT : TX s n B b E tx) (hL : ∀ i, i < 6 → s 43 (asN i) = A i) (hA : ∀ i, i < 6 → bd (A i)) {w : Nat} {p : Nat} {p1 : Nat} {v : Ex} {a : Ex} {r : Rs} (c1 : (cst tx E p) = 43) (z1 : PZ tx E nTerm w (skw tx E p + 1) (rOk p1 a)) (d1 : (skw tx E p + 1) ≤ E → w ≤ 6 → aw_M l g mi_X12_term (6 + 3 * (6 - w)) 0 0 [.ref (g_ad g 39)] (hp g (pst s (skw tx E p + 1) w (-1)) n) (PO g s n A false w (rOk p1 a))) (z2 : PZ tx E (nSl (eAdd v a)) w p1 r) (d2 : p1 ≤ E → w ≤ 6 → bd ((eAdd v a) A) → aw_W l g mi_X12_sum (aw_rm (7 + 3 * (6 - w)) 0 0) (aw_Z g (PO g s n A false w r) 0 0) 0 0 (hp g (pst s p1 w (-1)) n) 5 [some (.ref (g_ad g 39)), some (.int ((eAdd v a) A)), none, none, none] []) (hpE : p ≤ E) (hw : w ≤ 6) : bd (v A) → aw_W l g mi_X12_sum (aw_rm (7 + 3 * (6 - w)) 0 0) (aw_Z g (PO g s n A false w r) 0 0) 0 0 (hp g (pst s p w (-1)) n) 5 [some (.ref (g_ad g 39)), some (.int (v A)), none, none, none] [] := by
  have hE := hT.2.2.2.1
  have hk := skw_b (tx := tx) hpE
  intro hv
  have hnx : skw tx E p + 1 ≤ E := by (have := cst_lt (tx := tx) (E := E) (p := p) (by rw [c1]; decide); omega)
  have hp1 : p1 ≤ E := (PZ_pr z1 (by omega)).2.1
  refine aw_aload_n rfl rfl ?_
  refine pg_39_11 rfl kl_X12_128 ?_
  refine aw_iconst (v := -1) rfl (by decide) ?_
  refine aw_icmp_ne (tgt := 84) rfl (by decide) (fun h10 => absurd (rfl) h10) (fun h10 => ?_)
  refine aw_aload_n rfl rfl ?_
  refine aw_iV (q0 := 39) (ci := 12) rfl cw_X12_138 rfl rfl rfl (c_m_lookC hT hpE) rfl rfl (Nat.le_of_ble_eq_true rfl) (rmF (by omega)) (rmL (by decide) (by omega)) (Nat.zero_le _) (Nat.zero_le _) ?_
  refine aw_bipush (v := 43) rfl (by decide) ?_
  refine aw_icmp_eq (tgt := 31) rfl (by decide) (fun h19 => ?_) (fun h19 => absurd (c1) h19)
  refine aw_aload_n rfl rfl ?_
  refine aw_iV (q0 := 39) (ci := 12) rfl cw_X12_138 rfl rfl rfl (c_m_lookI hT hpE) rfl rfl (Nat.le_of_ble_eq_true rfl) (rmF (by omega)) (rmL (by decide) (by omega)) (Nat.zero_le _) (Nat.zero_le _) ?_
  refine aw_bipush (v := 43) rfl (by decide) ?_
  refine aw_icmp_ne (tgt := 44) rfl (by decide) (fun h37 => absurd (c1) h37) (fun h37 => ?_)
  refine aw_iconst (v := 1) rfl (by decide) ?_
  refine aw_goto (tgt := 45) rfl (by decide) ?_
  refine aw_istore_n rfl (by decide) ?_
  refine aw_aload_n rfl rfl ?_
  refine aw_dup rfl rfl ?_
  refine pg_39_10 rfl kl_X12_119 ?_
  refine aw_iconst (v := 1) rfl (by decide) ?_
  refine aw_iadd rfl ?_
  refine pp_39_10 rfl kl_X12_119 ?_
  refine aw_eqs (ws' := hp g (pst s ((skw tx E p) + 1) w (-1)) n) ?_ rfl rfl (congrArg (fun z => hp g z n) pst_in)
  refine aw_aload_n rfl rfl ?_
  refine aw_pK (q0 := 39) (ci := 12) rfl cw_X12_178 rfl rfl rfl ((d1 (by omega) hw)) rfl rfl (Nat.le_of_ble_eq_true rfl) (rmF (by omega)) (rmL (by decide) (by omega)) (Nat.zero_le _) (Nat.zero_le _) (fun hb1 => ?_)
  refine aw_i2l rfl ?_
  refine aw_lstore_n rfl (by decide) ?_
  refine aw_iload_n rfl rfl ?_
  refine aw_if_eq (tgt := 73) rfl (by decide) (fun h63 => absurd h63 (by decide)) (fun h63 => ?_)
  refine aw_iload_n rfl rfl ?_
  refine aw_i2l rfl ?_
  refine aw_lload_n rfl rfl ?_
  refine aw_ladd rfl ?_
  refine aw_goto (tgt := 77) rfl (by decide) ?_
  refine aw_iS rfl cw_X12_174 (c_m_within) rfl rfl (Nat.le_of_ble_eq_true rfl) (rmF (by omega)) (rmL (by decide) (by omega)) (Nat.zero_le _) (Nat.zero_le _) ?_
  refine aw_istore_n rfl (by decide) ?_
  refine aw_goto (tgt := 5) rfl (by decide) ?_
  exact aw_wk (d2 hp1 hw (wi_bd _)) (And.intro rfl (And.intro rfl True.intro))
set_option maxRecDepth 4000 in
theorem rm_slD {l : Launch} {g : ag_G} {s : am_S} {n : am_N} {B b E : Nat} {tx : Nat → Nat} {A : Nat → Int32} (hx : aw_hx g) (hT : TX s n B b E tx) (hL : ∀ i, i < 6 → s 43 (asN i) = A i) (hA : ∀ i, i < 6 → bd (A i)) {w : Nat} {p : Nat} {p1 : Nat} {v : Ex} {a : Ex} {r : Rs} (c1 : (cst tx E p) = 45) (z1 : PZ tx E nTerm w (skw tx E p + 1) (rOk p1 a)) (d1 : (skw tx E p + 1) ≤ E → w ≤ 6 → aw_M l g mi_X12_term (6 + 3 * (6 - w)) 0 0 [.ref (g_ad g 39)] (hp g (pst s (skw tx E p + 1) w (-1)) n) (PO g s n A false w (rOk p1 a))) (z2 : PZ tx E (nSl (eSub v a)) w p1 r) (d2 : p1 ≤ E → w ≤ 6 → bd ((eSub v a) A) → aw_W l g mi_X12_sum (aw_rm (7 + 3 * (6 - w)) 0 0) (aw_Z g (PO g s n A false w r) 0 0) 0 0 (hp g (pst s p1 w (-1)) n) 5 [some (.ref (g_ad g 39)), some (.int ((eSub v a) A)), none, none, none] []) (hpE : p ≤ E) (hw : w ≤ 6) : bd (v A) → aw_W l g mi_X12_sum (aw_rm (7 + 3 * (6 - w)) 0 0) (aw_Z g (PO g s n A false w r) 0 0) 0 0 (hp g (pst s p w (-1)) n) 5 [some (.ref (g_ad g 39)), some (.int (v A)), none, none, none] [] := by
  have hE := hT.2.2.2.1
  have hk := skw_b (tx := tx) hpE
  intro hv
  have hnx : skw tx E p + 1 ≤ E := by (have := cst_lt (tx := tx) (E := E) (p := p) (by rw [c1]; decide); omega)
  have hp1 : p1 ≤ E := (PZ_pr z1 (by omega)).2.1
  refine aw_aload_n rfl rfl ?_
  refine pg_39_11 rfl kl_X12_128 ?_
  refine aw_iconst (v := -1) rfl (by decide) ?_
  refine aw_icmp_ne (tgt := 84) rfl (by decide) (fun h10 => absurd (rfl) h10) (fun h10 => ?_)
  refine aw_aload_n rfl rfl ?_
  refine aw_iV (q0 := 39) (ci := 12) rfl cw_X12_138 rfl rfl rfl (c_m_lookC hT hpE) rfl rfl (Nat.le_of_ble_eq_true rfl) (rmF (by omega)) (rmL (by decide) (by omega)) (Nat.zero_le _) (Nat.zero_le _) ?_
  refine aw_bipush (v := 43) rfl (by decide) ?_
  refine aw_icmp_eq (tgt := 31) rfl (by decide) (fun h19 => absurd h19 (by rw [c1]; decide)) (fun h19 => ?_)
  refine aw_aload_n rfl rfl ?_
  refine aw_iV (q0 := 39) (ci := 12) rfl cw_X12_138 rfl rfl rfl (c_m_lookI hT hpE) rfl rfl (Nat.le_of_ble_eq_true rfl) (rmF (by omega)) (rmL (by decide) (by omega)) (Nat.zero_le _) (Nat.zero_le _) ?_
  refine aw_bipush (v := 45) rfl (by decide) ?_
  refine aw_icmp_ne (tgt := 84) rfl (by decide) (fun h28 => absurd (c1) h28) (fun h28 => ?_)
  refine aw_aload_n rfl rfl ?_
  refine aw_iV (q0 := 39) (ci := 12) rfl cw_X12_138 rfl rfl rfl (c_m_lookI hT hpE) rfl rfl (Nat.le_of_ble_eq_true rfl) (rmF (by omega)) (rmL (by decide) (by omega)) (Nat.zero_le _) (Nat.zero_le _) ?_
  refine aw_bipush (v := 43) rfl (by decide) ?_
  refine aw_icmp_ne (tgt := 44) rfl (by decide) (fun h37 => ?_) (fun h37 => absurd h37 (by rw [c1]; decide))
  refine aw_iconst (v := 0) rfl (by decide) ?_
  refine aw_istore_n rfl (by decide) ?_
  refine aw_aload_n rfl rfl ?_
  refine aw_dup rfl rfl ?_
  refine pg_39_10 rfl kl_X12_119 ?_
  refine aw_iconst (v := 1) rfl (by decide) ?_
  refine aw_iadd rfl ?_
  refine pp_39_10 rfl kl_X12_119 ?_
  refine aw_eqs (ws' := hp g (pst s ((skw tx E p) + 1) w (-1)) n) ?_ rfl rfl (congrArg (fun z => hp g z n) pst_in)
  refine aw_aload_n rfl rfl ?_
  refine aw_pK (q0 := 39) (ci := 12) rfl cw_X12_178 rfl rfl rfl ((d1 (by omega) hw)) rfl rfl (Nat.le_of_ble_eq_true rfl) (rmF (by omega)) (rmL (by decide) (by omega)) (Nat.zero_le _) (Nat.zero_le _) (fun hb1 => ?_)
  refine aw_i2l rfl ?_
  refine aw_lstore_n rfl (by decide) ?_
  refine aw_iload_n rfl rfl ?_
  refine aw_if_eq (tgt := 73) rfl (by decide) (fun h63 => ?_) (fun h63 => absurd h63 (by decide))
  refine aw_iload_n rfl rfl ?_
  refine aw_i2l rfl ?_
  refine aw_lload_n rfl rfl ?_
  refine aw_lsub rfl ?_
  refine aw_iS rfl cw_X12_174 (c_m_within) rfl rfl (Nat.le_of_ble_eq_true rfl) (rmF (by omega)) (rmL (by decide) (by omega)) (Nat.zero_le _) (Nat.zero_le _) ?_
  refine aw_istore_n rfl (by decide) ?_
  refine aw_goto (tgt := 5) rfl (by decide) ?_
  exact aw_wk (d2 hp1 hw (wi_bd _)) (And.intro rfl (And.intro rfl True.intro))
set_option maxRecDepth 4000 in
theorem rm_slF {l : Launch} {g : ag_G} {s : am_S} {n : am_N} {B b E : Nat} {tx : Nat → Nat} {A : Nat → Int32} (hx : aw_hx g) (hT : TX s n B b E tx) (hL : ∀ i, i < 6 → s 43 (asN i) = A i) (hA : ∀ i, i < 6 → bd (A i)) {w : Nat} {p : Nat} {f : Nat} {v : Ex} (c1 : ((cst tx E p) = 43 ∨ (cst tx E p) = 45)) (z1 : PZ tx E nTerm w (skw tx E p + 1) (rNo f)) (d1 : (skw tx E p + 1) ≤ E → w ≤ 6 → aw_M l g mi_X12_term (6 + 3 * (6 - w)) 0 0 [.ref (g_ad g 39)] (hp g (pst s (skw tx E p + 1) w (-1)) n) (PO g s n A false w (rNo f))) (hpE : p ≤ E) (hw : w ≤ 6) : bd (v A) → aw_W l g mi_X12_sum (aw_rm (7 + 3 * (6 - w)) 0 0) (aw_Z g (PO g s n A false w (rNo f)) 0 0) 0 0 (hp g (pst s p w (-1)) n) 5 [some (.ref (g_ad g 39)), some (.int (v A)), none, none, none] [] := by
  have hE := hT.2.2.2.1
  have hk := skw_b (tx := tx) hpE
  intro hv
  have hnx : skw tx E p + 1 ≤ E := by (have := cst_lt (tx := tx) (E := E) (p := p) (by rcases c1 with h | h <;> (rw [h]; decide)); omega)
  have hfE : f ≤ E := (PZ_pr z1 (by omega)).2
  have hf24 : ¬ nI f = (-1 : Int32) := nI_nm1 (by omega)
  rcases c1 with c1 | c1
  · skip
    refine aw_aload_n rfl rfl ?_
    refine pg_39_11 rfl kl_X12_128 ?_
    refine aw_iconst (v := -1) rfl (by decide) ?_
    refine aw_icmp_ne (tgt := 84) rfl (by decide) (fun h10 => absurd (rfl) h10) (fun h10 => ?_)
    refine aw_aload_n rfl rfl ?_
    refine aw_iV (q0 := 39) (ci := 12) rfl cw_X12_138 rfl rfl rfl (c_m_lookC hT hpE) rfl rfl (Nat.le_of_ble_eq_true rfl) (rmF (by omega)) (rmL (by decide) (by omega)) (Nat.zero_le _) (Nat.zero_le _) ?_
    refine aw_bipush (v := 43) rfl (by decide) ?_
    refine aw_icmp_eq (tgt := 31) rfl (by decide) (fun h19 => ?_) (fun h19 => absurd (c1) h19)
    refine aw_aload_n rfl rfl ?_
    refine aw_iV (q0 := 39) (ci := 12) rfl cw_X12_138 rfl rfl rfl (c_m_lookI hT hpE) rfl rfl (Nat.le_of_ble_eq_true rfl) (rmF (by omega)) (rmL (by decide) (by omega)) (Nat.zero_le _) (Nat.zero_le _) ?_
    refine aw_bipush (v := 43) rfl (by decide) ?_
    refine aw_icmp_ne (tgt := 44) rfl (by decide) (fun h37 => absurd (c1) h37) (fun h37 => ?_)
    refine aw_iconst (v := 1) rfl (by decide) ?_
    refine aw_goto (tgt := 45) rfl (by decide) ?_
    refine aw_istore_n rfl (by decide) ?_
    refine aw_aload_n rfl rfl ?_
    refine aw_dup rfl rfl ?_
    refine pg_39_10 rfl kl_X12_119 ?_
    refine aw_iconst (v := 1) rfl (by decide) ?_
    refine aw_iadd rfl ?_
    refine pp_39_10 rfl kl_X12_119 ?_
    refine aw_eqs (ws' := hp g (pst s ((skw tx E p) + 1) w (-1)) n) ?_ rfl rfl (congrArg (fun z => hp g z n) pst_in)
    refine aw_aload_n rfl rfl ?_
    refine aw_pN (q0 := 39) (ci := 12) rfl cw_X12_178 rfl rfl rfl ((d1 (by omega) hw)) rfl rfl (Nat.le_of_ble_eq_true rfl) (rmF (by omega)) (rmL (by decide) (by omega)) (Nat.zero_le _) (Nat.zero_le _) (fun x2 p2 d2 hb1 => ?_)
    refine aw_i2l rfl ?_
    refine aw_lstore_n rfl (by decide) ?_
    refine aw_iload_n rfl rfl ?_
    refine aw_if_eq (tgt := 73) rfl (by decide) (fun h63 => absurd h63 (by decide)) (fun h63 => ?_)
    refine aw_iload_n rfl rfl ?_
    refine aw_i2l rfl ?_
    refine aw_lload_n rfl rfl ?_
    refine aw_ladd rfl ?_
    refine aw_goto (tgt := 77) rfl (by decide) ?_
    refine aw_iS rfl cw_X12_174 (c_m_within) rfl rfl (Nat.le_of_ble_eq_true rfl) (rmF (by omega)) (rmL (by decide) (by omega)) (Nat.zero_le _) (Nat.zero_le _) ?_
    refine aw_istore_n rfl (by decide) ?_
    refine aw_goto (tgt := 5) rfl (by decide) ?_
    refine aw_aload_n rfl rfl ?_
    refine pg_39_11 rfl kl_X12_128 ?_
    refine aw_iconst (v := -1) rfl (by decide) ?_
    refine aw_icmp_ne (tgt := 84) rfl (by decide) (fun h10 => ?_) (fun h10 => absurd h10 (hf24))
    refine aw_iload_n rfl rfl ?_
    exact aw_nI rfl rfl rfl
  · skip
    refine aw_aload_n rfl rfl ?_
    refine pg_39_11 rfl kl_X12_128 ?_
    refine aw_iconst (v := -1) rfl (by decide) ?_
    refine aw_icmp_ne (tgt := 84) rfl (by decide) (fun h10 => absurd (rfl) h10) (fun h10 => ?_)
    refine aw_aload_n rfl rfl ?_
    refine aw_iV (q0 := 39) (ci := 12) rfl cw_X12_138 rfl rfl rfl (c_m_lookC hT hpE) rfl rfl (Nat.le_of_ble_eq_true rfl) (rmF (by omega)) (rmL (by decide) (by omega)) (Nat.zero_le _) (Nat.zero_le _) ?_
    refine aw_bipush (v := 43) rfl (by decide) ?_
    refine aw_icmp_eq (tgt := 31) rfl (by decide) (fun h19 => absurd h19 (by rw [c1]; decide)) (fun h19 => ?_)
    refine aw_aload_n rfl rfl ?_
    refine aw_iV (q0 := 39) (ci := 12) rfl cw_X12_138 rfl rfl rfl (c_m_lookI hT hpE) rfl rfl (Nat.le_of_ble_eq_true rfl) (rmF (by omega)) (rmL (by decide) (by omega)) (Nat.zero_le _) (Nat.zero_le _) ?_
    refine aw_bipush (v := 45) rfl (by decide) ?_
    refine aw_icmp_ne (tgt := 84) rfl (by decide) (fun h28 => absurd (c1) h28) (fun h28 => ?_)
    refine aw_aload_n rfl rfl ?_
    refine aw_iV (q0 := 39) (ci := 12) rfl cw_X12_138 rfl rfl rfl (c_m_lookI hT hpE) rfl rfl (Nat.le_of_ble_eq_true rfl) (rmF (by omega)) (rmL (by decide) (by omega)) (Nat.zero_le _) (Nat.zero_le _) ?_
    refine aw_bipush (v := 43) rfl (by decide) ?_
    refine aw_icmp_ne (tgt := 44) rfl (by decide) (fun h37 => ?_) (fun h37 => absurd h37 (by rw [c1]; decide))
    refine aw_iconst (v := 0) rfl (by decide) ?_
    refine aw_istore_n rfl (by decide) ?_
    refine aw_aload_n rfl rfl ?_
    refine aw_dup rfl rfl ?_
    refine pg_39_10 rfl kl_X12_119 ?_
    refine aw_iconst (v := 1) rfl (by decide) ?_
    refine aw_iadd rfl ?_
    refine pp_39_10 rfl kl_X12_119 ?_
    refine aw_eqs (ws' := hp g (pst s ((skw tx E p) + 1) w (-1)) n) ?_ rfl rfl (congrArg (fun z => hp g z n) pst_in)
    refine aw_aload_n rfl rfl ?_
    refine aw_pN (q0 := 39) (ci := 12) rfl cw_X12_178 rfl rfl rfl ((d1 (by omega) hw)) rfl rfl (Nat.le_of_ble_eq_true rfl) (rmF (by omega)) (rmL (by decide) (by omega)) (Nat.zero_le _) (Nat.zero_le _) (fun x2 p2 d2 hb1 => ?_)
    refine aw_i2l rfl ?_
    refine aw_lstore_n rfl (by decide) ?_
    refine aw_iload_n rfl rfl ?_
    refine aw_if_eq (tgt := 73) rfl (by decide) (fun h63 => ?_) (fun h63 => absurd h63 (by decide))
    refine aw_iload_n rfl rfl ?_
    refine aw_i2l rfl ?_
    refine aw_lload_n rfl rfl ?_
    refine aw_lsub rfl ?_
    refine aw_iS rfl cw_X12_174 (c_m_within) rfl rfl (Nat.le_of_ble_eq_true rfl) (rmF (by omega)) (rmL (by decide) (by omega)) (Nat.zero_le _) (Nat.zero_le _) ?_
    refine aw_istore_n rfl (by decide) ?_
    refine aw_goto (tgt := 5) rfl (by decide) ?_
    refine aw_aload_n rfl rfl ?_
    refine pg_39_11 rfl kl_X12_128 ?_
    refine aw_iconst (v := -1) rfl (by decide) ?_
    refine aw_icmp_ne (tgt := 84) rfl (by decide) (fun h10 => ?_) (fun h10 => absurd h10 (hf24))
    refine aw_iload_n rfl rfl ?_
    exact aw_nI rfl rfl rfl
set_option maxRecDepth 4000 in
theorem rm_cmN {l : Launch} {g : ag_G} {s : am_S} {n : am_N} {B b E : Nat} {tx : Nat → Nat} {A : Nat → Int32} (hx : aw_hx g) (hT : TX s n B b E tx) (hL : ∀ i, i < 6 → s 43 (asN i) = A i) (hA : ∀ i, i < 6 → bd (A i)) {w : Nat} {p : Nat} {v : Ex} (c1 : sgC (cst tx E p) = false) (hpE : p ≤ E) (hw : w ≤ 6) : bd (v A) → aw_W l g mi_X12_compares (aw_rm (8 + 3 * (6 - w)) 0 0) (aw_Z g (PO g s n A true w (rNo (skw tx E p))) 0 0) 0 0 (hp g (pst s p w (-1)) n) 13 [some (.ref (g_ad g 39)), none, none, some (.int (v A)), none, none] [] := by
  have hE := hT.2.2.2.1
  have hk := skw_b (tx := tx) hpE
  intro hv
  refine aw_aload_n rfl rfl ?_
  refine pg_39_11 rfl kl_X12_128 ?_
  refine aw_iconst (v := -1) rfl (by decide) ?_
  refine aw_icmp_eq (tgt := 23) rfl (by decide) (fun h18 => ?_) (fun h18 => absurd (rfl) h18)
  refine aw_aload_n rfl rfl ?_
  refine aw_iV (q0 := 39) (ci := 12) rfl cw_X12_138 rfl rfl rfl (c_m_lookC hT hpE) rfl rfl (Nat.le_of_ble_eq_true rfl) (rmF (by omega)) (rmL (by decide) (by omega)) (Nat.zero_le _) (Nat.zero_le _) ?_
  refine aw_istore rfl (by decide) ?_
  refine aw_iload rfl rfl ?_
  refine aw_iS rfl cw_X12_181 (c_m_isSign) rfl rfl (Nat.le_of_ble_eq_true rfl) (rmF (by omega)) (rmL (by decide) (by omega)) (Nat.zero_le _) (Nat.zero_le _) ?_
  refine aw_if_ne (tgt := 42) rfl (by decide) (fun h34 => absurd (by rw [c1]; rfl) h34) (fun h34 => ?_)
  refine aw_aload_n rfl rfl ?_
  refine aw_iV (q0 := 39) (ci := 12) rfl cw_X12_134 rfl rfl rfl (c_m_fails) rfl rfl (Nat.le_of_ble_eq_true rfl) (rmF (by omega)) (rmL (by decide) (by omega)) (Nat.zero_le _) (Nat.zero_le _) ?_
  exact aw_nZ (p := skw tx E p) (d := nI w) rfl rfl (Or.inl rfl) rfl
set_option maxRecDepth 4000 in
theorem rm_cmO {l : Launch} {g : ag_G} {s : am_S} {n : am_N} {B b E : Nat} {tx : Nat → Nat} {A : Nat → Int32} (hx : aw_hx g) (hT : TX s n B b E tx) (hL : ∀ i, i < 6 → s 43 (asN i) = A i) (hA : ∀ i, i < 6 → bd (A i)) {w : Nat} {p : Nat} {p1 : Nat} {v : Ex} {a : Ex} (c1 : sgC (cst tx E p) = true) (z1 : PZ tx E nSum w (skw tx E p + 1) (rOk p1 a)) (d1 : (skw tx E p + 1) ≤ E → w ≤ 6 → aw_M l g mi_X12_sum (7 + 3 * (6 - w)) 0 0 [.ref (g_ad g 39)] (hp g (pst s (skw tx E p + 1) w (-1)) n) (PO g s n A false w (rOk p1 a))) (hpE : p ≤ E) (hw : w ≤ 6) : bd (v A) → aw_W l g mi_X12_compares (aw_rm (8 + 3 * (6 - w)) 0 0) (aw_Z g (PO g s n A true w (rOk p1 (eCmp (cst tx E p) v a))) 0 0) 0 0 (hp g (pst s p w (-1)) n) 13 [some (.ref (g_ad g 39)), none, none, some (.int (v A)), none, none] [] := by
  have hE := hT.2.2.2.1
  have hk := skw_b (tx := tx) hpE
  intro hv
  have hnx : skw tx E p + 1 ≤ E := by (have := cst_lt (tx := tx) (E := E) (p := p) (by intro e; rw [e] at c1; exact absurd c1 (by decide)); omega)
  have hp1 : p1 ≤ E := (PZ_pr z1 (by omega)).2.1
  refine aw_aload_n rfl rfl ?_
  refine pg_39_11 rfl kl_X12_128 ?_
  refine aw_iconst (v := -1) rfl (by decide) ?_
  refine aw_icmp_eq (tgt := 23) rfl (by decide) (fun h18 => ?_) (fun h18 => absurd (rfl) h18)
  refine aw_aload_n rfl rfl ?_
  refine aw_iV (q0 := 39) (ci := 12) rfl cw_X12_138 rfl rfl rfl (c_m_lookC hT hpE) rfl rfl (Nat.le_of_ble_eq_true rfl) (rmF (by omega)) (rmL (by decide) (by omega)) (Nat.zero_le _) (Nat.zero_le _) ?_
  refine aw_istore rfl (by decide) ?_
  refine aw_iload rfl rfl ?_
  refine aw_iS rfl cw_X12_181 (c_m_isSign) rfl rfl (Nat.le_of_ble_eq_true rfl) (rmF (by omega)) (rmL (by decide) (by omega)) (Nat.zero_le _) (Nat.zero_le _) ?_
  refine aw_if_ne (tgt := 42) rfl (by decide) (fun h34 => ?_) (fun h34 => absurd h34 (by rw [c1]; decide))
  refine aw_aload_n rfl rfl ?_
  refine aw_dup rfl rfl ?_
  refine pg_39_10 rfl kl_X12_119 ?_
  refine aw_iconst (v := 1) rfl (by decide) ?_
  refine aw_iadd rfl ?_
  refine pp_39_10 rfl kl_X12_119 ?_
  refine aw_eqs (ws' := hp g (pst s ((skw tx E p) + 1) w (-1)) n) ?_ rfl rfl (congrArg (fun z => hp g z n) pst_in)
  refine aw_aload_n rfl rfl ?_
  refine aw_pK (q0 := 39) (ci := 12) rfl cw_X12_161 rfl rfl rfl ((d1 (by omega) hw)) rfl rfl (Nat.le_of_ble_eq_true rfl) (rmF (by omega)) (rmL (by decide) (by omega)) (Nat.zero_le _) (Nat.zero_le _) (fun hb1 => ?_)
  refine aw_istore rfl (by decide) ?_
  refine aw_iload rfl rfl ?_
  refine aw_bipush (v := 61) rfl (by decide) ?_
  refine aw_icmp_ne (tgt := 79) rfl (by decide) (fun h62 => ?_) (fun h62 => ?_)
  · refine aw_iload rfl rfl ?_
    refine aw_bipush (v := 60) rfl (by decide) ?_
    refine aw_icmp_ne (tgt := 100) rfl (by decide) (fun h83 => ?_) (fun h83 => ?_)
    · refine aw_iload_n rfl rfl ?_
      refine aw_iload rfl rfl ?_
      refine aw_icmp_le (tgt := 110) rfl (by decide) (fun h103 => ?_) (fun h103 => ?_)
      · refine aw_iconst (v := 0) rfl (by decide) ?_
        exact aw_kZ rfl rfl (by unfold eCmp; first | (rw [if_pos h62, if_neg h68]; done) | (rw [if_pos h62, if_pos h68]; done) | (rw [if_neg h62, if_pos h83, if_neg (Int32.not_lt.mpr h89)]; done) | (rw [if_neg h62, if_pos h83, if_pos (Int32.not_le.mp h89)]; done) | (rw [if_neg h62, if_neg h83, if_neg (Int32.not_lt.mpr h103)]; done) | (rw [if_neg h62, if_neg h83, if_pos (Int32.not_le.mp h103)]; done) | fail "x") bb_cmp rfl
      · refine aw_iconst (v := 1) rfl (by decide) ?_
        refine aw_goto (tgt := 111) rfl (by decide) ?_
        exact aw_kZ rfl rfl (by unfold eCmp; first | (rw [if_pos h62, if_neg h68]; done) | (rw [if_pos h62, if_pos h68]; done) | (rw [if_neg h62, if_pos h83, if_neg (Int32.not_lt.mpr h89)]; done) | (rw [if_neg h62, if_pos h83, if_pos (Int32.not_le.mp h89)]; done) | (rw [if_neg h62, if_neg h83, if_neg (Int32.not_lt.mpr h103)]; done) | (rw [if_neg h62, if_neg h83, if_pos (Int32.not_le.mp h103)]; done) | fail "x") bb_cmp rfl
    · refine aw_iload_n rfl rfl ?_
      refine aw_iload rfl rfl ?_
      refine aw_icmp_ge (tgt := 96) rfl (by decide) (fun h89 => ?_) (fun h89 => ?_)
      · refine aw_iconst (v := 0) rfl (by decide) ?_
        refine aw_goto (tgt := 111) rfl (by decide) ?_
        exact aw_kZ rfl rfl (by unfold eCmp; first | (rw [if_pos h62, if_neg h68]; done) | (rw [if_pos h62, if_pos h68]; done) | (rw [if_neg h62, if_pos h83, if_neg (Int32.not_lt.mpr h89)]; done) | (rw [if_neg h62, if_pos h83, if_pos (Int32.not_le.mp h89)]; done) | (rw [if_neg h62, if_neg h83, if_neg (Int32.not_lt.mpr h103)]; done) | (rw [if_neg h62, if_neg h83, if_pos (Int32.not_le.mp h103)]; done) | fail "x") bb_cmp rfl
      · refine aw_iconst (v := 1) rfl (by decide) ?_
        refine aw_goto (tgt := 111) rfl (by decide) ?_
        exact aw_kZ rfl rfl (by unfold eCmp; first | (rw [if_pos h62, if_neg h68]; done) | (rw [if_pos h62, if_pos h68]; done) | (rw [if_neg h62, if_pos h83, if_neg (Int32.not_lt.mpr h89)]; done) | (rw [if_neg h62, if_pos h83, if_pos (Int32.not_le.mp h89)]; done) | (rw [if_neg h62, if_neg h83, if_neg (Int32.not_lt.mpr h103)]; done) | (rw [if_neg h62, if_neg h83, if_pos (Int32.not_le.mp h103)]; done) | fail "x") bb_cmp rfl
  · refine aw_iload_n rfl rfl ?_
    refine aw_iload rfl rfl ?_
    refine aw_icmp_ne (tgt := 75) rfl (by decide) (fun h68 => ?_) (fun h68 => ?_)
    · refine aw_iconst (v := 0) rfl (by decide) ?_
      refine aw_goto (tgt := 111) rfl (by decide) ?_
      exact aw_kZ rfl rfl (by unfold eCmp; first | (rw [if_pos h62, if_neg h68]; done) | (rw [if_pos h62, if_pos h68]; done) | (rw [if_neg h62, if_pos h83, if_neg (Int32.not_lt.mpr h89)]; done) | (rw [if_neg h62, if_pos h83, if_pos (Int32.not_le.mp h89)]; done) | (rw [if_neg h62, if_neg h83, if_neg (Int32.not_lt.mpr h103)]; done) | (rw [if_neg h62, if_neg h83, if_pos (Int32.not_le.mp h103)]; done) | fail "x") bb_cmp rfl
    · refine aw_iconst (v := 1) rfl (by decide) ?_
      refine aw_goto (tgt := 111) rfl (by decide) ?_
      exact aw_kZ rfl rfl (by unfold eCmp; first | (rw [if_pos h62, if_neg h68]; done) | (rw [if_pos h62, if_pos h68]; done) | (rw [if_neg h62, if_pos h83, if_neg (Int32.not_lt.mpr h89)]; done) | (rw [if_neg h62, if_pos h83, if_pos (Int32.not_le.mp h89)]; done) | (rw [if_neg h62, if_neg h83, if_neg (Int32.not_lt.mpr h103)]; done) | (rw [if_neg h62, if_neg h83, if_pos (Int32.not_le.mp h103)]; done) | fail "x") bb_cmp rfl
set_option maxRecDepth 4000 in
theorem rm_cmF {l : Launch} {g : ag_G} {s : am_S} {n : am_N} {B b E : Nat} {tx : Nat → Nat} {A : Nat → Int32} (hx : aw_hx g) (hT : TX s n B b E tx) (hL : ∀ i, i < 6 → s 43 (asN i) = A i) (hA : ∀ i, i < 6 → bd (A i)) {w : Nat} {p : Nat} {f : Nat} {v : Ex} (c1 : sgC (cst tx E p) = true) (z1 : PZ tx E nSum w (skw tx E p + 1) (rNo f)) (d1 : (skw tx E p + 1) ≤ E → w ≤ 6 → aw_M l g mi_X12_sum (7 + 3 * (6 - w)) 0 0 [.ref (g_ad g 39)] (hp g (pst s (skw tx E p + 1) w (-1)) n) (PO g s n A false w (rNo f))) (hpE : p ≤ E) (hw : w ≤ 6) : bd (v A) → aw_W l g mi_X12_compares (aw_rm (8 + 3 * (6 - w)) 0 0) (aw_Z g (PO g s n A true w (rNo f)) 0 0) 0 0 (hp g (pst s p w (-1)) n) 13 [some (.ref (g_ad g 39)), none, none, some (.int (v A)), none, none] [] := by
  have hE := hT.2.2.2.1
  have hk := skw_b (tx := tx) hpE
  intro hv
  have hnx : skw tx E p + 1 ≤ E := by (have := cst_lt (tx := tx) (E := E) (p := p) (by intro e; rw [e] at c1; exact absurd c1 (by decide)); omega)
  have hfE : f ≤ E := (PZ_pr z1 (by omega)).2
  refine aw_aload_n rfl rfl ?_
  refine pg_39_11 rfl kl_X12_128 ?_
  refine aw_iconst (v := -1) rfl (by decide) ?_
  refine aw_icmp_eq (tgt := 23) rfl (by decide) (fun h18 => ?_) (fun h18 => absurd (rfl) h18)
  refine aw_aload_n rfl rfl ?_
  refine aw_iV (q0 := 39) (ci := 12) rfl cw_X12_138 rfl rfl rfl (c_m_lookC hT hpE) rfl rfl (Nat.le_of_ble_eq_true rfl) (rmF (by omega)) (rmL (by decide) (by omega)) (Nat.zero_le _) (Nat.zero_le _) ?_
  refine aw_istore rfl (by decide) ?_
  refine aw_iload rfl rfl ?_
  refine aw_iS rfl cw_X12_181 (c_m_isSign) rfl rfl (Nat.le_of_ble_eq_true rfl) (rmF (by omega)) (rmL (by decide) (by omega)) (Nat.zero_le _) (Nat.zero_le _) ?_
  refine aw_if_ne (tgt := 42) rfl (by decide) (fun h34 => ?_) (fun h34 => absurd h34 (by rw [c1]; decide))
  refine aw_aload_n rfl rfl ?_
  refine aw_dup rfl rfl ?_
  refine pg_39_10 rfl kl_X12_119 ?_
  refine aw_iconst (v := 1) rfl (by decide) ?_
  refine aw_iadd rfl ?_
  refine pp_39_10 rfl kl_X12_119 ?_
  refine aw_eqs (ws' := hp g (pst s ((skw tx E p) + 1) w (-1)) n) ?_ rfl rfl (congrArg (fun z => hp g z n) pst_in)
  refine aw_aload_n rfl rfl ?_
  refine aw_pN (q0 := 39) (ci := 12) rfl cw_X12_161 rfl rfl rfl ((d1 (by omega) hw)) rfl rfl (Nat.le_of_ble_eq_true rfl) (rmF (by omega)) (rmL (by decide) (by omega)) (Nat.zero_le _) (Nat.zero_le _) (fun x2 p2 d2 hb1 => ?_)
  refine aw_istore rfl (by decide) ?_
  refine aw_iload rfl rfl ?_
  refine aw_bipush (v := 61) rfl (by decide) ?_
  refine aw_icmp_ne (tgt := 79) rfl (by decide) (fun h62 => ?_) (fun h62 => ?_)
  · refine aw_iload rfl rfl ?_
    refine aw_bipush (v := 60) rfl (by decide) ?_
    refine aw_icmp_ne (tgt := 100) rfl (by decide) (fun h83 => ?_) (fun h83 => ?_)
    · refine aw_iload_n rfl rfl ?_
      refine aw_iload rfl rfl ?_
      refine aw_icmp_le (tgt := 110) rfl (by decide) (fun h103 => ?_) (fun h103 => ?_)
      · refine aw_iconst (v := 0) rfl (by decide) ?_
        exact aw_nZ rfl rfl (by first | exact Or.inl rfl | exact Or.inr rfl) rfl
      · refine aw_iconst (v := 1) rfl (by decide) ?_
        refine aw_goto (tgt := 111) rfl (by decide) ?_
        exact aw_nZ rfl rfl (by first | exact Or.inl rfl | exact Or.inr rfl) rfl
    · refine aw_iload_n rfl rfl ?_
      refine aw_iload rfl rfl ?_
      refine aw_icmp_ge (tgt := 96) rfl (by decide) (fun h89 => ?_) (fun h89 => ?_)
      · refine aw_iconst (v := 0) rfl (by decide) ?_
        refine aw_goto (tgt := 111) rfl (by decide) ?_
        exact aw_nZ rfl rfl (by first | exact Or.inl rfl | exact Or.inr rfl) rfl
      · refine aw_iconst (v := 1) rfl (by decide) ?_
        refine aw_goto (tgt := 111) rfl (by decide) ?_
        exact aw_nZ rfl rfl (by first | exact Or.inl rfl | exact Or.inr rfl) rfl
  · refine aw_iload_n rfl rfl ?_
    refine aw_iload rfl rfl ?_
    refine aw_icmp_ne (tgt := 75) rfl (by decide) (fun h68 => ?_) (fun h68 => ?_)
    · refine aw_iconst (v := 0) rfl (by decide) ?_
      refine aw_goto (tgt := 111) rfl (by decide) ?_
      exact aw_nZ rfl rfl (by first | exact Or.inl rfl | exact Or.inr rfl) rfl
    · refine aw_iconst (v := 1) rfl (by decide) ?_
      refine aw_goto (tgt := 111) rfl (by decide) ?_
      exact aw_nZ rfl rfl (by first | exact Or.inl rfl | exact Or.inr rfl) rfl
set_option maxRecDepth 4000 in
theorem rm_unN {l : Launch} {g : ag_G} {s : am_S} {n : am_N} {B b E : Nat} {tx : Nat → Nat} {A : Nat → Int32} (hx : aw_hx g) (hT : TX s n B b E tx) (hL : ∀ i, i < 6 → s 43 (asN i) = A i) (hA : ∀ i, i < 6 → bd (A i)) {w : Nat} {p : Nat} {p1 : Nat} {a : Ex} (c1 : (cst tx E p) = 33) (c2 : w < 6) (z1 : PZ tx E nUnit (w + 1) (skw tx E p + 1) (rOk p1 a)) (d1 : (skw tx E p + 1) ≤ E → (w + 1) ≤ 6 → aw_M l g mi_X12_unit (9 + 3 * (6 - (w + 1))) 0 0 [.ref (g_ad g 39)] (hp g (pst s (skw tx E p + 1) (w + 1) (-1)) n) (PO g s n A true (w + 1) (rOk p1 a))) (hpE : p ≤ E) (hw : w ≤ 6) : aw_M l g mi_X12_unit (9 + 3 * (6 - w)) 0 0 [.ref (g_ad g 39)] (hp g (pst s p w (-1)) n) (PO g s n A true w (rOk p1 (eNot a))) := by
  have hE := hT.2.2.2.1
  have hk := skw_b (tx := tx) hpE
  have hnx : skw tx E p + 1 ≤ E := by (have := cst_lt (tx := tx) (E := E) (p := p) (by rw [c1]; decide); omega)
  refine aw_M_of mo_X12_unit (by decide) (Nat.le_of_ble_eq_true rfl) ?_
  refine aw_aload_n rfl rfl ?_
  refine aw_iV (q0 := 39) (ci := 12) rfl cw_X12_138 rfl rfl rfl (c_m_lookC hT hpE) rfl rfl (Nat.le_of_ble_eq_true rfl) (rmF (by omega)) (rmL (by decide) (by omega)) (Nat.zero_le _) (Nat.zero_le _) ?_
  refine aw_istore_n rfl (by decide) ?_
  refine aw_iload_n rfl rfl ?_
  refine aw_bipush (v := 33) rfl (by decide) ?_
  refine aw_icmp_ne (tgt := 45) rfl (by decide) (fun h8 => absurd (c1) h8) (fun h8 => ?_)
  refine aw_aload_n rfl rfl ?_
  refine aw_iV (q0 := 39) (ci := 12) rfl cw_X12_158 rfl rfl rfl (c_m_goesIn c2) rfl rfl (Nat.le_of_ble_eq_true rfl) (rmF (by omega)) (rmL (by decide) (by omega)) (Nat.zero_le _) (Nat.zero_le _) ?_
  refine aw_if_ne (tgt := 20) rfl (by decide) (fun h15 => ?_) (fun h15 => absurd h15 (by decide))
  refine aw_aload_n rfl rfl ?_
  refine aw_pK (q0 := 39) (ci := 12) rfl cw_X12_184 rfl rfl rfl ((d1 (by omega) (by omega))) rfl rfl (Nat.le_of_ble_eq_true rfl) (rmF (by omega)) (rmL (by decide) (by omega)) (Nat.zero_le _) (Nat.zero_le _) (fun hb1 => ?_)
  refine aw_istore_n rfl (by decide) ?_
  refine aw_aload_n rfl rfl ?_
  refine aw_dup rfl rfl ?_
  refine pg_39_12 rfl kl_X12_131 ?_
  refine aw_iconst (v := 1) rfl (by decide) ?_
  refine aw_isub rfl ?_
  refine pp_39_12 rfl kl_X12_131 ?_
  refine aw_eqs (ws' := hp g (pst s p1 w (-1)) n) ?_ rfl rfl (congrArg (fun z => hp g z n) pst_out)
  refine aw_iload_n rfl rfl ?_
  refine aw_if_ne (tgt := 43) rfl (by decide) (fun h36 => ?_) (fun h36 => ?_)
  · refine aw_iconst (v := 0) rfl (by decide) ?_
    first
    | exact aw_kZ rfl rfl ((bb_not hb1).2.2 h36).symm (bb_not hb1).1 rfl
    | exact aw_kZ rfl rfl ((bb_not hb1).2.1 h36).symm (bb_not hb1).1 rfl
  · refine aw_iconst (v := 1) rfl (by decide) ?_
    refine aw_goto (tgt := 44) rfl (by decide) ?_
    first
    | exact aw_kZ rfl rfl ((bb_not hb1).2.2 h36).symm (bb_not hb1).1 rfl
    | exact aw_kZ rfl rfl ((bb_not hb1).2.1 h36).symm (bb_not hb1).1 rfl
set_option maxRecDepth 4000 in
theorem rm_unNf {l : Launch} {g : ag_G} {s : am_S} {n : am_N} {B b E : Nat} {tx : Nat → Nat} {A : Nat → Int32} (hx : aw_hx g) (hT : TX s n B b E tx) (hL : ∀ i, i < 6 → s 43 (asN i) = A i) (hA : ∀ i, i < 6 → bd (A i)) {w : Nat} {p : Nat} {f : Nat} (c1 : (cst tx E p) = 33) (c2 : w < 6) (z1 : PZ tx E nUnit (w + 1) (skw tx E p + 1) (rNo f)) (d1 : (skw tx E p + 1) ≤ E → (w + 1) ≤ 6 → aw_M l g mi_X12_unit (9 + 3 * (6 - (w + 1))) 0 0 [.ref (g_ad g 39)] (hp g (pst s (skw tx E p + 1) (w + 1) (-1)) n) (PO g s n A true (w + 1) (rNo f))) (hpE : p ≤ E) (hw : w ≤ 6) : aw_M l g mi_X12_unit (9 + 3 * (6 - w)) 0 0 [.ref (g_ad g 39)] (hp g (pst s p w (-1)) n) (PO g s n A true w (rNo f)) := by
  have hE := hT.2.2.2.1
  have hk := skw_b (tx := tx) hpE
  have hnx : skw tx E p + 1 ≤ E := by (have := cst_lt (tx := tx) (E := E) (p := p) (by rw [c1]; decide); omega)
  have hfE : f ≤ E := (PZ_pr z1 (by omega)).2
  refine aw_M_of mo_X12_unit (by decide) (Nat.le_of_ble_eq_true rfl) ?_
  refine aw_aload_n rfl rfl ?_
  refine aw_iV (q0 := 39) (ci := 12) rfl cw_X12_138 rfl rfl rfl (c_m_lookC hT hpE) rfl rfl (Nat.le_of_ble_eq_true rfl) (rmF (by omega)) (rmL (by decide) (by omega)) (Nat.zero_le _) (Nat.zero_le _) ?_
  refine aw_istore_n rfl (by decide) ?_
  refine aw_iload_n rfl rfl ?_
  refine aw_bipush (v := 33) rfl (by decide) ?_
  refine aw_icmp_ne (tgt := 45) rfl (by decide) (fun h8 => absurd (c1) h8) (fun h8 => ?_)
  refine aw_aload_n rfl rfl ?_
  refine aw_iV (q0 := 39) (ci := 12) rfl cw_X12_158 rfl rfl rfl (c_m_goesIn c2) rfl rfl (Nat.le_of_ble_eq_true rfl) (rmF (by omega)) (rmL (by decide) (by omega)) (Nat.zero_le _) (Nat.zero_le _) ?_
  refine aw_if_ne (tgt := 20) rfl (by decide) (fun h15 => ?_) (fun h15 => absurd h15 (by decide))
  refine aw_aload_n rfl rfl ?_
  refine aw_pN (q0 := 39) (ci := 12) rfl cw_X12_184 rfl rfl rfl ((d1 (by omega) (by omega))) rfl rfl (Nat.le_of_ble_eq_true rfl) (rmF (by omega)) (rmL (by decide) (by omega)) (Nat.zero_le _) (Nat.zero_le _) (fun x2 p2 d2 hb1 => ?_)
  refine aw_istore_n rfl (by decide) ?_
  refine aw_aload_n rfl rfl ?_
  refine aw_dup rfl rfl ?_
  refine pg_39_12 rfl kl_X12_131 ?_
  refine aw_iconst (v := 1) rfl (by decide) ?_
  refine aw_isub rfl ?_
  refine pp_39_12 rfl kl_X12_131 ?_
  refine aw_eqs (ws' := hp g (pfl s p2 (d2 - 1) f) n) ?_ rfl rfl (congrArg (fun z => hp g z n) pfl_12)
  refine aw_iload_n rfl rfl ?_
  refine aw_if_ne (tgt := 43) rfl (by decide) (fun h36 => ?_) (fun h36 => ?_)
  · refine aw_iconst (v := 0) rfl (by decide) ?_
    exact aw_nZ rfl rfl (by first | exact Or.inl rfl | exact Or.inr rfl) rfl
  · refine aw_iconst (v := 1) rfl (by decide) ?_
    refine aw_goto (tgt := 44) rfl (by decide) ?_
    exact aw_nZ rfl rfl (by first | exact Or.inl rfl | exact Or.inr rfl) rfl
set_option maxRecDepth 4000 in
theorem rm_unN6 {l : Launch} {g : ag_G} {s : am_S} {n : am_N} {B b E : Nat} {tx : Nat → Nat} {A : Nat → Int32} (hx : aw_hx g) (hT : TX s n B b E tx) (hL : ∀ i, i < 6 → s 43 (asN i) = A i) (hA : ∀ i, i < 6 → bd (A i)) {p : Nat} (c1 : (cst tx E p) = 33) (hpE : p ≤ E) (hw : 6 ≤ 6) : aw_M l g mi_X12_unit (9 + 3 * (6 - 6)) 0 0 [.ref (g_ad g 39)] (hp g (pst s p 6 (-1)) n) (PO g s n A true 6 (rNo (skw tx E p))) := by
  have hE := hT.2.2.2.1
  have hk := skw_b (tx := tx) hpE
  refine aw_M_of mo_X12_unit (by decide) (Nat.le_of_ble_eq_true rfl) ?_
  refine aw_aload_n rfl rfl ?_
  refine aw_iV (q0 := 39) (ci := 12) rfl cw_X12_138 rfl rfl rfl (c_m_lookC hT hpE) rfl rfl (Nat.le_of_ble_eq_true rfl) (rmF (by omega)) (rmL (by decide) (by omega)) (Nat.zero_le _) (Nat.zero_le _) ?_
  refine aw_istore_n rfl (by decide) ?_
  refine aw_iload_n rfl rfl ?_
  refine aw_bipush (v := 33) rfl (by decide) ?_
  refine aw_icmp_ne (tgt := 45) rfl (by decide) (fun h8 => absurd (c1) h8) (fun h8 => ?_)
  refine aw_aload_n rfl rfl ?_
  refine aw_iV (q0 := 39) (ci := 12) rfl cw_X12_158 rfl rfl rfl (c_m_goesIn6) rfl rfl (Nat.le_of_ble_eq_true rfl) (rmF (by omega)) (rmL (by decide) (by omega)) (Nat.zero_le _) (Nat.zero_le _) ?_
  refine aw_if_ne (tgt := 20) rfl (by decide) (fun h15 => absurd (rfl) h15) (fun h15 => ?_)
  refine aw_iconst (v := 0) rfl (by decide) ?_
  exact aw_nZ (p := skw tx E p) (d := nI 6) rfl rfl (Or.inl rfl) rfl
set_option maxRecDepth 4000 in
theorem rm_unP {l : Launch} {g : ag_G} {s : am_S} {n : am_N} {B b E : Nat} {tx : Nat → Nat} {A : Nat → Int32} (hx : aw_hx g) (hT : TX s n B b E tx) (hL : ∀ i, i < 6 → s 43 (asN i) = A i) (hA : ∀ i, i < 6 → bd (A i)) {w : Nat} {p : Nat} {p1 : Nat} {a : Ex} (c1 : (cst tx E p) = 40) (c2 : w < 6) (z1 : PZ tx E nCond (w + 1) (skw tx E p + 1) (rOk p1 a)) (d1 : (skw tx E p + 1) ≤ E → (w + 1) ≤ 6 → aw_M l g mi_X12_condition (11 + 3 * (6 - (w + 1))) 0 0 [.ref (g_ad g 39), .int 0, .int 0] (hp g (pst s (skw tx E p + 1) (w + 1) (-1)) n) (PO g s n A true (w + 1) (rOk p1 a))) (c3 : (cst tx E p1) = 41) (hpE : p ≤ E) (hw : w ≤ 6) : aw_M l g mi_X12_unit (9 + 3 * (6 - w)) 0 0 [.ref (g_ad g 39)] (hp g (pst s p w (-1)) n) (PO g s n A true w (rOk (skw tx E p1 + 1) a)) := by
  have hE := hT.2.2.2.1
  have hk := skw_b (tx := tx) hpE
  have hnx : skw tx E p + 1 ≤ E := by (have := cst_lt (tx := tx) (E := E) (p := p) (by rw [c1]; decide); omega)
  have hp1 : p1 ≤ E := (PZ_pr z1 (by omega)).2.1
  refine aw_M_of mo_X12_unit (by decide) (Nat.le_of_ble_eq_true rfl) ?_
  refine aw_aload_n rfl rfl ?_
  refine aw_iV (q0 := 39) (ci := 12) rfl cw_X12_138 rfl rfl rfl (c_m_lookC hT hpE) rfl rfl (Nat.le_of_ble_eq_true rfl) (rmF (by omega)) (rmL (by decide) (by omega)) (Nat.zero_le _) (Nat.zero_le _) ?_
  refine aw_istore_n rfl (by decide) ?_
  refine aw_iload_n rfl rfl ?_
  refine aw_bipush (v := 33) rfl (by decide) ?_
  refine aw_icmp_ne (tgt := 45) rfl (by decide) (fun h8 => ?_) (fun h8 => absurd h8 (by rw [c1]; decide))
  refine aw_iload_n rfl rfl ?_
  refine aw_bipush (v := 40) rfl (by decide) ?_
  refine aw_icmp_ne (tgt := 90) rfl (by decide) (fun h48 => absurd (c1) h48) (fun h48 => ?_)
  refine aw_aload_n rfl rfl ?_
  refine aw_iV (q0 := 39) (ci := 12) rfl cw_X12_158 rfl rfl rfl (c_m_goesIn c2) rfl rfl (Nat.le_of_ble_eq_true rfl) (rmF (by omega)) (rmL (by decide) (by omega)) (Nat.zero_le _) (Nat.zero_le _) ?_
  refine aw_if_ne (tgt := 60) rfl (by decide) (fun h55 => ?_) (fun h55 => absurd h55 (by decide))
  refine aw_aload_n rfl rfl ?_
  refine aw_iconst (v := 0) rfl (by decide) ?_
  refine aw_iconst (v := 0) rfl (by decide) ?_
  refine aw_pK (q0 := 39) (ci := 12) rfl cw_X12_187 rfl rfl rfl ((d1 (by omega) (by omega))) rfl rfl (Nat.le_of_ble_eq_true rfl) (rmF (by omega)) (rmL (by decide) (by omega)) (Nat.zero_le _) (Nat.zero_le _) (fun hb1 => ?_)
  refine aw_istore_n rfl (by decide) ?_
  refine aw_aload_n rfl rfl ?_
  refine aw_bipush (v := 41) rfl (by decide) ?_
  refine aw_iV (q0 := 39) (ci := 12) rfl cw_X12_164 rfl rfl rfl (c_m_takesY hT hp1 c3) rfl rfl (Nat.le_of_ble_eq_true rfl) (rmF (by omega)) (rmL (by decide) (by omega)) (Nat.zero_le _) (Nat.zero_le _) ?_
  refine aw_if_ne (tgt := 78) rfl (by decide) (fun h73 => ?_) (fun h73 => absurd h73 (by decide))
  refine aw_aload_n rfl rfl ?_
  refine aw_dup rfl rfl ?_
  refine pg_39_12 rfl kl_X12_131 ?_
  refine aw_iconst (v := 1) rfl (by decide) ?_
  refine aw_isub rfl ?_
  refine pp_39_12 rfl kl_X12_131 ?_
  refine aw_eqs (ws' := hp g (pst s (skw tx E p1 + 1) w (-1)) n) ?_ rfl rfl (congrArg (fun z => hp g z n) pst_out)
  refine aw_iload_n rfl rfl ?_
  exact aw_kZ rfl rfl rfl hb1 rfl
set_option maxRecDepth 4000 in
theorem rm_unPc {l : Launch} {g : ag_G} {s : am_S} {n : am_N} {B b E : Nat} {tx : Nat → Nat} {A : Nat → Int32} (hx : aw_hx g) (hT : TX s n B b E tx) (hL : ∀ i, i < 6 → s 43 (asN i) = A i) (hA : ∀ i, i < 6 → bd (A i)) {w : Nat} {p : Nat} {p1 : Nat} {a : Ex} (c1 : (cst tx E p) = 40) (c2 : w < 6) (z1 : PZ tx E nCond (w + 1) (skw tx E p + 1) (rOk p1 a)) (d1 : (skw tx E p + 1) ≤ E → (w + 1) ≤ 6 → aw_M l g mi_X12_condition (11 + 3 * (6 - (w + 1))) 0 0 [.ref (g_ad g 39), .int 0, .int 0] (hp g (pst s (skw tx E p + 1) (w + 1) (-1)) n) (PO g s n A true (w + 1) (rOk p1 a))) (c3 : (cst tx E p1) ≠ 41) (hpE : p ≤ E) (hw : w ≤ 6) : aw_M l g mi_X12_unit (9 + 3 * (6 - w)) 0 0 [.ref (g_ad g 39)] (hp g (pst s p w (-1)) n) (PO g s n A true w (rNo (skw tx E p1))) := by
  have hE := hT.2.2.2.1
  have hk := skw_b (tx := tx) hpE
  have hnx : skw tx E p + 1 ≤ E := by (have := cst_lt (tx := tx) (E := E) (p := p) (by rw [c1]; decide); omega)
  have hp1 : p1 ≤ E := (PZ_pr z1 (by omega)).2.1
  refine aw_M_of mo_X12_unit (by decide) (Nat.le_of_ble_eq_true rfl) ?_
  refine aw_aload_n rfl rfl ?_
  refine aw_iV (q0 := 39) (ci := 12) rfl cw_X12_138 rfl rfl rfl (c_m_lookC hT hpE) rfl rfl (Nat.le_of_ble_eq_true rfl) (rmF (by omega)) (rmL (by decide) (by omega)) (Nat.zero_le _) (Nat.zero_le _) ?_
  refine aw_istore_n rfl (by decide) ?_
  refine aw_iload_n rfl rfl ?_
  refine aw_bipush (v := 33) rfl (by decide) ?_
  refine aw_icmp_ne (tgt := 45) rfl (by decide) (fun h8 => ?_) (fun h8 => absurd h8 (by rw [c1]; decide))
  refine aw_iload_n rfl rfl ?_
  refine aw_bipush (v := 40) rfl (by decide) ?_
  refine aw_icmp_ne (tgt := 90) rfl (by decide) (fun h48 => absurd (c1) h48) (fun h48 => ?_)
  refine aw_aload_n rfl rfl ?_
  refine aw_iV (q0 := 39) (ci := 12) rfl cw_X12_158 rfl rfl rfl (c_m_goesIn c2) rfl rfl (Nat.le_of_ble_eq_true rfl) (rmF (by omega)) (rmL (by decide) (by omega)) (Nat.zero_le _) (Nat.zero_le _) ?_
  refine aw_if_ne (tgt := 60) rfl (by decide) (fun h55 => ?_) (fun h55 => absurd h55 (by decide))
  refine aw_aload_n rfl rfl ?_
  refine aw_iconst (v := 0) rfl (by decide) ?_
  refine aw_iconst (v := 0) rfl (by decide) ?_
  refine aw_pK (q0 := 39) (ci := 12) rfl cw_X12_187 rfl rfl rfl ((d1 (by omega) (by omega))) rfl rfl (Nat.le_of_ble_eq_true rfl) (rmF (by omega)) (rmL (by decide) (by omega)) (Nat.zero_le _) (Nat.zero_le _) (fun hb1 => ?_)
  refine aw_istore_n rfl (by decide) ?_
  refine aw_aload_n rfl rfl ?_
  refine aw_bipush (v := 41) rfl (by decide) ?_
  refine aw_iV (q0 := 39) (ci := 12) rfl cw_X12_164 rfl rfl rfl (c_m_takesX hT hp1 c3) rfl rfl (Nat.le_of_ble_eq_true rfl) (rmF (by omega)) (rmL (by decide) (by omega)) (Nat.zero_le _) (Nat.zero_le _) ?_
  refine aw_if_ne (tgt := 78) rfl (by decide) (fun h73 => absurd (rfl) h73) (fun h73 => ?_)
  refine aw_iconst (v := 0) rfl (by decide) ?_
  exact aw_nZ (p := skw tx E p1) (d := nI (w + 1)) rfl rfl (Or.inl rfl) rfl
set_option maxRecDepth 4000 in
theorem rm_unPf {l : Launch} {g : ag_G} {s : am_S} {n : am_N} {B b E : Nat} {tx : Nat → Nat} {A : Nat → Int32} (hx : aw_hx g) (hT : TX s n B b E tx) (hL : ∀ i, i < 6 → s 43 (asN i) = A i) (hA : ∀ i, i < 6 → bd (A i)) {w : Nat} {p : Nat} {f : Nat} (c1 : (cst tx E p) = 40) (c2 : w < 6) (z1 : PZ tx E nCond (w + 1) (skw tx E p + 1) (rNo f)) (d1 : (skw tx E p + 1) ≤ E → (w + 1) ≤ 6 → aw_M l g mi_X12_condition (11 + 3 * (6 - (w + 1))) 0 0 [.ref (g_ad g 39), .int 0, .int 0] (hp g (pst s (skw tx E p + 1) (w + 1) (-1)) n) (PO g s n A true (w + 1) (rNo f))) (hpE : p ≤ E) (hw : w ≤ 6) : aw_M l g mi_X12_unit (9 + 3 * (6 - w)) 0 0 [.ref (g_ad g 39)] (hp g (pst s p w (-1)) n) (PO g s n A true w (rNo f)) := by
  have hE := hT.2.2.2.1
  have hk := skw_b (tx := tx) hpE
  have hnx : skw tx E p + 1 ≤ E := by (have := cst_lt (tx := tx) (E := E) (p := p) (by rw [c1]; decide); omega)
  have hfE : f ≤ E := (PZ_pr z1 (by omega)).2
  have hf24 : ¬ nI f = (-1 : Int32) := nI_nm1 (by omega)
  refine aw_M_of mo_X12_unit (by decide) (Nat.le_of_ble_eq_true rfl) ?_
  refine aw_aload_n rfl rfl ?_
  refine aw_iV (q0 := 39) (ci := 12) rfl cw_X12_138 rfl rfl rfl (c_m_lookC hT hpE) rfl rfl (Nat.le_of_ble_eq_true rfl) (rmF (by omega)) (rmL (by decide) (by omega)) (Nat.zero_le _) (Nat.zero_le _) ?_
  refine aw_istore_n rfl (by decide) ?_
  refine aw_iload_n rfl rfl ?_
  refine aw_bipush (v := 33) rfl (by decide) ?_
  refine aw_icmp_ne (tgt := 45) rfl (by decide) (fun h8 => ?_) (fun h8 => absurd h8 (by rw [c1]; decide))
  refine aw_iload_n rfl rfl ?_
  refine aw_bipush (v := 40) rfl (by decide) ?_
  refine aw_icmp_ne (tgt := 90) rfl (by decide) (fun h48 => absurd (c1) h48) (fun h48 => ?_)
  refine aw_aload_n rfl rfl ?_
  refine aw_iV (q0 := 39) (ci := 12) rfl cw_X12_158 rfl rfl rfl (c_m_goesIn c2) rfl rfl (Nat.le_of_ble_eq_true rfl) (rmF (by omega)) (rmL (by decide) (by omega)) (Nat.zero_le _) (Nat.zero_le _) ?_
  refine aw_if_ne (tgt := 60) rfl (by decide) (fun h55 => ?_) (fun h55 => absurd h55 (by decide))
  refine aw_aload_n rfl rfl ?_
  refine aw_iconst (v := 0) rfl (by decide) ?_
  refine aw_iconst (v := 0) rfl (by decide) ?_
  refine aw_pN (q0 := 39) (ci := 12) rfl cw_X12_187 rfl rfl rfl ((d1 (by omega) (by omega))) rfl rfl (Nat.le_of_ble_eq_true rfl) (rmF (by omega)) (rmL (by decide) (by omega)) (Nat.zero_le _) (Nat.zero_le _) (fun x2 p2 d2 hb1 => ?_)
  refine aw_istore_n rfl (by decide) ?_
  refine aw_aload_n rfl rfl ?_
  refine aw_bipush (v := 41) rfl (by decide) ?_
  refine aw_iV (q0 := 39) (ci := 12) rfl cw_X12_164 rfl rfl rfl (c_m_takesF hf24) rfl rfl (Nat.le_of_ble_eq_true rfl) (rmF (by omega)) (rmL (by decide) (by omega)) (Nat.zero_le _) (Nat.zero_le _) ?_
  refine aw_if_ne (tgt := 78) rfl (by decide) (fun h73 => absurd (rfl) h73) (fun h73 => ?_)
  refine aw_iconst (v := 0) rfl (by decide) ?_
  exact aw_nZ rfl rfl (Or.inl rfl) rfl
set_option maxRecDepth 4000 in
theorem rm_unP6 {l : Launch} {g : ag_G} {s : am_S} {n : am_N} {B b E : Nat} {tx : Nat → Nat} {A : Nat → Int32} (hx : aw_hx g) (hT : TX s n B b E tx) (hL : ∀ i, i < 6 → s 43 (asN i) = A i) (hA : ∀ i, i < 6 → bd (A i)) {p : Nat} (c1 : (cst tx E p) = 40) (hpE : p ≤ E) (hw : 6 ≤ 6) : aw_M l g mi_X12_unit (9 + 3 * (6 - 6)) 0 0 [.ref (g_ad g 39)] (hp g (pst s p 6 (-1)) n) (PO g s n A true 6 (rNo (skw tx E p))) := by
  have hE := hT.2.2.2.1
  have hk := skw_b (tx := tx) hpE
  refine aw_M_of mo_X12_unit (by decide) (Nat.le_of_ble_eq_true rfl) ?_
  refine aw_aload_n rfl rfl ?_
  refine aw_iV (q0 := 39) (ci := 12) rfl cw_X12_138 rfl rfl rfl (c_m_lookC hT hpE) rfl rfl (Nat.le_of_ble_eq_true rfl) (rmF (by omega)) (rmL (by decide) (by omega)) (Nat.zero_le _) (Nat.zero_le _) ?_
  refine aw_istore_n rfl (by decide) ?_
  refine aw_iload_n rfl rfl ?_
  refine aw_bipush (v := 33) rfl (by decide) ?_
  refine aw_icmp_ne (tgt := 45) rfl (by decide) (fun h8 => ?_) (fun h8 => absurd h8 (by rw [c1]; decide))
  refine aw_iload_n rfl rfl ?_
  refine aw_bipush (v := 40) rfl (by decide) ?_
  refine aw_icmp_ne (tgt := 90) rfl (by decide) (fun h48 => absurd (c1) h48) (fun h48 => ?_)
  refine aw_aload_n rfl rfl ?_
  refine aw_iV (q0 := 39) (ci := 12) rfl cw_X12_158 rfl rfl rfl (c_m_goesIn6) rfl rfl (Nat.le_of_ble_eq_true rfl) (rmF (by omega)) (rmL (by decide) (by omega)) (Nat.zero_le _) (Nat.zero_le _) ?_
  refine aw_if_ne (tgt := 60) rfl (by decide) (fun h55 => absurd (rfl) h55) (fun h55 => ?_)
  refine aw_iconst (v := 0) rfl (by decide) ?_
  exact aw_nZ (p := skw tx E p) (d := nI 6) rfl rfl (Or.inl rfl) rfl
set_option maxRecDepth 4000 in
theorem rm_unC {l : Launch} {g : ag_G} {s : am_S} {n : am_N} {B b E : Nat} {tx : Nat → Nat} {A : Nat → Int32} (hx : aw_hx g) (hT : TX s n B b E tx) (hL : ∀ i, i < 6 → s 43 (asN i) = A i) (hA : ∀ i, i < 6 → bd (A i)) {w : Nat} {p : Nat} {p1 : Nat} {a : Ex} {r : Rs} (c1 : (cst tx E p) ≠ 33) (c2 : (cst tx E p) ≠ 40) (z1 : PZ tx E nSum w (skw tx E p) (rOk p1 a)) (d1 : (skw tx E p) ≤ E → w ≤ 6 → aw_M l g mi_X12_sum (7 + 3 * (6 - w)) 0 0 [.ref (g_ad g 39)] (hp g (pst s (skw tx E p) w (-1)) n) (PO g s n A false w (rOk p1 a))) (z2 : PZ tx E (nCmp a) w p1 r) (d2 : p1 ≤ E → w ≤ 6 → bd (a A) → aw_W l g mi_X12_compares (aw_rm (8 + 3 * (6 - w)) 0 0) (aw_Z g (PO g s n A true w r) 0 0) 0 0 (hp g (pst s p1 w (-1)) n) 13 [some (.ref (g_ad g 39)), none, none, some (.int (a A)), none, none] []) (hpE : p ≤ E) (hw : w ≤ 6) : aw_M l g mi_X12_unit (9 + 3 * (6 - w)) 0 0 [.ref (g_ad g 39)] (hp g (pst s p w (-1)) n) (PO g s n A true w r) := by
  have hE := hT.2.2.2.1
  have hk := skw_b (tx := tx) hpE
  have hp1 : p1 ≤ E := (PZ_pr z1 hk.2.1).2.1
  have hcm : aw_M l g mi_X12_compares (8 + 3 * (6 - w)) 0 0 [.ref (g_ad g 39), .int 0, .int 0] (hp g (pst s (skw tx E p) w (-1)) n) (PO g s n A true w r) := by
    refine aw_M_of mo_X12_compares (by decide) (Nat.le_of_ble_eq_true rfl) ?_
    refine aw_iload_n rfl rfl ?_
    refine aw_if_eq (tgt := 8) rfl (by decide) (fun h1 => ?_) (fun h1 => absurd (rfl) h1)
    refine aw_aload_n rfl rfl ?_
    refine aw_pK (q0 := 39) (ci := 12) rfl cw_X12_161 rfl rfl rfl ((d1 hk.2.1 hw)) rfl rfl (Nat.le_of_ble_eq_true rfl) (rmF (by omega)) (rmL (by decide) (by omega)) (Nat.zero_le _) (Nat.zero_le _) (fun hb1 => ?_)
    refine aw_istore_n rfl (by decide) ?_
    exact aw_wk (d2 hp1 hw hb1) (And.intro rfl (And.intro rfl True.intro))
  refine aw_M_of mo_X12_unit (by decide) (Nat.le_of_ble_eq_true rfl) ?_
  cases r with
  | ok z =>
    refine aw_aload_n rfl rfl ?_
    refine aw_iV (q0 := 39) (ci := 12) rfl cw_X12_138 rfl rfl rfl (c_m_lookC hT hpE) rfl rfl (Nat.le_of_ble_eq_true rfl) (rmF (by omega)) (rmL (by decide) (by omega)) (Nat.zero_le _) (Nat.zero_le _) ?_
    refine aw_istore_n rfl (by decide) ?_
    refine aw_iload_n rfl rfl ?_
    refine aw_bipush (v := 33) rfl (by decide) ?_
    refine aw_icmp_ne (tgt := 45) rfl (by decide) (fun h8 => ?_) (fun h8 => absurd h8 (c1))
    refine aw_iload_n rfl rfl ?_
    refine aw_bipush (v := 40) rfl (by decide) ?_
    refine aw_icmp_ne (tgt := 90) rfl (by decide) (fun h48 => ?_) (fun h48 => absurd h48 (c2))
    refine aw_aload_n rfl rfl ?_
    refine aw_iconst (v := 0) rfl (by decide) ?_
    refine aw_iconst (v := 0) rfl (by decide) ?_
    refine aw_pK (q0 := 39) (ci := 12) rfl cw_X12_191 rfl rfl rfl (hcm) rfl rfl (Nat.le_of_ble_eq_true rfl) (rmF (by omega)) (rmL (by decide) (by omega)) (Nat.zero_le _) (Nat.zero_le _) (fun hb1 => ?_)
    exact aw_kZ rfl rfl rfl hb1 rfl
  | error f =>
    refine aw_aload_n rfl rfl ?_
    refine aw_iV (q0 := 39) (ci := 12) rfl cw_X12_138 rfl rfl rfl (c_m_lookC hT hpE) rfl rfl (Nat.le_of_ble_eq_true rfl) (rmF (by omega)) (rmL (by decide) (by omega)) (Nat.zero_le _) (Nat.zero_le _) ?_
    refine aw_istore_n rfl (by decide) ?_
    refine aw_iload_n rfl rfl ?_
    refine aw_bipush (v := 33) rfl (by decide) ?_
    refine aw_icmp_ne (tgt := 45) rfl (by decide) (fun h8 => ?_) (fun h8 => absurd h8 (c1))
    refine aw_iload_n rfl rfl ?_
    refine aw_bipush (v := 40) rfl (by decide) ?_
    refine aw_icmp_ne (tgt := 90) rfl (by decide) (fun h48 => ?_) (fun h48 => absurd h48 (c2))
    refine aw_aload_n rfl rfl ?_
    refine aw_iconst (v := 0) rfl (by decide) ?_
    refine aw_iconst (v := 0) rfl (by decide) ?_
    refine aw_pN (q0 := 39) (ci := 12) rfl cw_X12_191 rfl rfl rfl (hcm) rfl rfl (Nat.le_of_ble_eq_true rfl) (rmF (by omega)) (rmL (by decide) (by omega)) (Nat.zero_le _) (Nat.zero_le _) (fun x2 p2 d2 hb1 => ?_)
    exact aw_nZ rfl rfl (hb1 rfl) rfl
set_option maxRecDepth 4000 in
theorem rm_unCf {l : Launch} {g : ag_G} {s : am_S} {n : am_N} {B b E : Nat} {tx : Nat → Nat} {A : Nat → Int32} (hx : aw_hx g) (hT : TX s n B b E tx) (hL : ∀ i, i < 6 → s 43 (asN i) = A i) (hA : ∀ i, i < 6 → bd (A i)) {w : Nat} {p : Nat} {f : Nat} (c1 : (cst tx E p) ≠ 33) (c2 : (cst tx E p) ≠ 40) (z1 : PZ tx E nSum w (skw tx E p) (rNo f)) (d1 : (skw tx E p) ≤ E → w ≤ 6 → aw_M l g mi_X12_sum (7 + 3 * (6 - w)) 0 0 [.ref (g_ad g 39)] (hp g (pst s (skw tx E p) w (-1)) n) (PO g s n A false w (rNo f))) (hpE : p ≤ E) (hw : w ≤ 6) : aw_M l g mi_X12_unit (9 + 3 * (6 - w)) 0 0 [.ref (g_ad g 39)] (hp g (pst s p w (-1)) n) (PO g s n A true w (rNo f)) := by
  have hE := hT.2.2.2.1
  have hk := skw_b (tx := tx) hpE
  have hfE : f ≤ E := (PZ_pr z1 hk.2.1).2
  have hf24 : ¬ nI f = (-1 : Int32) := nI_nm1 (by omega)
  have hcm : aw_M l g mi_X12_compares (8 + 3 * (6 - w)) 0 0 [.ref (g_ad g 39), .int 0, .int 0] (hp g (pst s (skw tx E p) w (-1)) n) (PO g s n A true w (rNo f)) := by
    refine aw_M_of mo_X12_compares (by decide) (Nat.le_of_ble_eq_true rfl) ?_
    refine aw_iload_n rfl rfl ?_
    refine aw_if_eq (tgt := 8) rfl (by decide) (fun h1 => ?_) (fun h1 => absurd (rfl) h1)
    refine aw_aload_n rfl rfl ?_
    refine aw_pN (q0 := 39) (ci := 12) rfl cw_X12_161 rfl rfl rfl ((d1 hk.2.1 hw)) rfl rfl (Nat.le_of_ble_eq_true rfl) (rmF (by omega)) (rmL (by decide) (by omega)) (Nat.zero_le _) (Nat.zero_le _) (fun x2 p2 d2 hb1 => ?_)
    refine aw_istore_n rfl (by decide) ?_
    refine aw_aload_n rfl rfl ?_
    refine pg_39_11 rfl kl_X12_128 ?_
    refine aw_iconst (v := -1) rfl (by decide) ?_
    refine aw_icmp_eq (tgt := 23) rfl (by decide) (fun h18 => absurd h18 (hf24)) (fun h18 => ?_)
    refine aw_iconst (v := 0) rfl (by decide) ?_
    exact aw_nZ rfl rfl (Or.inl rfl) rfl
  refine aw_M_of mo_X12_unit (by decide) (Nat.le_of_ble_eq_true rfl) ?_
  refine aw_aload_n rfl rfl ?_
  refine aw_iV (q0 := 39) (ci := 12) rfl cw_X12_138 rfl rfl rfl (c_m_lookC hT hpE) rfl rfl (Nat.le_of_ble_eq_true rfl) (rmF (by omega)) (rmL (by decide) (by omega)) (Nat.zero_le _) (Nat.zero_le _) ?_
  refine aw_istore_n rfl (by decide) ?_
  refine aw_iload_n rfl rfl ?_
  refine aw_bipush (v := 33) rfl (by decide) ?_
  refine aw_icmp_ne (tgt := 45) rfl (by decide) (fun h8 => ?_) (fun h8 => absurd h8 (c1))
  refine aw_iload_n rfl rfl ?_
  refine aw_bipush (v := 40) rfl (by decide) ?_
  refine aw_icmp_ne (tgt := 90) rfl (by decide) (fun h48 => ?_) (fun h48 => absurd h48 (c2))
  refine aw_aload_n rfl rfl ?_
  refine aw_iconst (v := 0) rfl (by decide) ?_
  refine aw_iconst (v := 0) rfl (by decide) ?_
  refine aw_pN (q0 := 39) (ci := 12) rfl cw_X12_191 rfl rfl rfl (hcm) rfl rfl (Nat.le_of_ble_eq_true rfl) (rmF (by omega)) (rmL (by decide) (by omega)) (Nat.zero_le _) (Nat.zero_le _) (fun x2 p2 d2 hb1 => ?_)
  exact aw_nZ rfl rfl (hb1 rfl) rfl
set_option maxRecDepth 4000 in
theorem rm_pa {l : Launch} {g : ag_G} {s : am_S} {n : am_N} {B b E : Nat} {tx : Nat → Nat} {A : Nat → Int32} (hx : aw_hx g) (hT : TX s n B b E tx) (hL : ∀ i, i < 6 → s 43 (asN i) = A i) (hA : ∀ i, i < 6 → bd (A i)) {w : Nat} {p : Nat} {p1 : Nat} {a : Ex} {r : Rs} (z1 : PZ tx E nUnit w p (rOk p1 a)) (d1 : p ≤ E → w ≤ 6 → aw_M l g mi_X12_unit (9 + 3 * (6 - w)) 0 0 [.ref (g_ad g 39)] (hp g (pst s p w (-1)) n) (PO g s n A true w (rOk p1 a))) (z2 : PZ tx E (nPl a) w p1 r) (d2 : p1 ≤ E → w ≤ 6 → bb (a A) → aw_W l g mi_X12_part (aw_rm (10 + 3 * (6 - w)) 0 0) (aw_Z g (PO g s n A true w r) 0 0) 0 0 (hp g (pst s p1 w (-1)) n) 18 [some (.ref (g_ad g 39)), none, none, some (.int (a A)), none] []) (hpE : p ≤ E) (hw : w ≤ 6) : aw_M l g mi_X12_part (10 + 3 * (6 - w)) 0 0 [.ref (g_ad g 39), .int 0, .int 0] (hp g (pst s p w (-1)) n) (PO g s n A true w r) := by
  have hE := hT.2.2.2.1
  have hk := skw_b (tx := tx) hpE
  have hp1 : p1 ≤ E := (PZ_pr z1 hpE).2.1
  refine aw_M_of mo_X12_part (by decide) (Nat.le_of_ble_eq_true rfl) ?_
  refine aw_iload_n rfl rfl ?_
  refine aw_if_eq (tgt := 13) rfl (by decide) (fun h1 => ?_) (fun h1 => absurd (rfl) h1)
  refine aw_aload_n rfl rfl ?_
  refine aw_pK (q0 := 39) (ci := 12) rfl cw_X12_184 rfl rfl rfl ((d1 hpE hw)) rfl rfl (Nat.le_of_ble_eq_true rfl) (rmF (by omega)) (rmL (by decide) (by omega)) (Nat.zero_le _) (Nat.zero_le _) (fun hb1 => ?_)
  refine aw_istore_n rfl (by decide) ?_
  exact aw_wk (d2 hp1 hw hb1) (And.intro rfl (And.intro rfl True.intro))
set_option maxRecDepth 4000 in
theorem rm_paf {l : Launch} {g : ag_G} {s : am_S} {n : am_N} {B b E : Nat} {tx : Nat → Nat} {A : Nat → Int32} (hx : aw_hx g) (hT : TX s n B b E tx) (hL : ∀ i, i < 6 → s 43 (asN i) = A i) (hA : ∀ i, i < 6 → bd (A i)) {w : Nat} {p : Nat} {f : Nat} (z1 : PZ tx E nUnit w p (rNo f)) (d1 : p ≤ E → w ≤ 6 → aw_M l g mi_X12_unit (9 + 3 * (6 - w)) 0 0 [.ref (g_ad g 39)] (hp g (pst s p w (-1)) n) (PO g s n A true w (rNo f))) (hpE : p ≤ E) (hw : w ≤ 6) : aw_M l g mi_X12_part (10 + 3 * (6 - w)) 0 0 [.ref (g_ad g 39), .int 0, .int 0] (hp g (pst s p w (-1)) n) (PO g s n A true w (rNo f)) := by
  have hE := hT.2.2.2.1
  have hk := skw_b (tx := tx) hpE
  have hfE : f ≤ E := (PZ_pr z1 hpE).2
  have hf24 : ¬ nI f = (-1 : Int32) := nI_nm1 (by omega)
  refine aw_M_of mo_X12_part (by decide) (Nat.le_of_ble_eq_true rfl) ?_
  refine aw_iload_n rfl rfl ?_
  refine aw_if_eq (tgt := 13) rfl (by decide) (fun h1 => ?_) (fun h1 => absurd (rfl) h1)
  refine aw_aload_n rfl rfl ?_
  refine aw_pN (q0 := 39) (ci := 12) rfl cw_X12_184 rfl rfl rfl ((d1 hpE hw)) rfl rfl (Nat.le_of_ble_eq_true rfl) (rmF (by omega)) (rmL (by decide) (by omega)) (Nat.zero_le _) (Nat.zero_le _) (fun x2 p2 d2 hb1 => ?_)
  refine aw_istore_n rfl (by decide) ?_
  refine aw_aload_n rfl rfl ?_
  refine pg_39_11 rfl kl_X12_128 ?_
  refine aw_iconst (v := -1) rfl (by decide) ?_
  refine aw_icmp_ne (tgt := 69) rfl (by decide) (fun h23 => ?_) (fun h23 => absurd h23 (hf24))
  refine aw_iload_n rfl rfl ?_
  exact aw_nZ rfl rfl (hb1 rfl) rfl
set_option maxRecDepth 4000 in
theorem rm_pb {l : Launch} {g : ag_G} {s : am_S} {n : am_N} {B b E : Nat} {tx : Nat → Nat} {A : Nat → Int32} (hx : aw_hx g) (hT : TX s n B b E tx) (hL : ∀ i, i < 6 → s 43 (asN i) = A i) (hA : ∀ i, i < 6 → bd (A i)) {w : Nat} {p : Nat} {p1 : Nat} {v : Ex} {a : Ex} {r : Rs} (z1 : PZ tx E (nCmp v) w p (rOk p1 a)) (d1 : p ≤ E → w ≤ 6 → bd (v A) → aw_W l g mi_X12_compares (aw_rm (8 + 3 * (6 - w)) 0 0) (aw_Z g (PO g s n A true w (rOk p1 a)) 0 0) 0 0 (hp g (pst s p w (-1)) n) 13 [some (.ref (g_ad g 39)), none, none, some (.int (v A)), none, none] []) (z2 : PZ tx E (nPl a) w p1 r) (d2 : p1 ≤ E → w ≤ 6 → bb (a A) → aw_W l g mi_X12_part (aw_rm (10 + 3 * (6 - w)) 0 0) (aw_Z g (PO g s n A true w r) 0 0) 0 0 (hp g (pst s p1 w (-1)) n) 18 [some (.ref (g_ad g 39)), none, none, some (.int (a A)), none] []) (hpE : p ≤ E) (hw : w ≤ 6) : bd (v A) → aw_M l g mi_X12_part (10 + 3 * (6 - w)) 0 0 [.ref (g_ad g 39), .int 1, .int (v A)] (hp g (pst s p w (-1)) n) (PO g s n A true w r) := by
  have hE := hT.2.2.2.1
  have hk := skw_b (tx := tx) hpE
  intro hv
  have hp1 : p1 ≤ E := (PZ_pr z1 hpE).2.1
  have hcm : aw_M l g mi_X12_compares (8 + 3 * (6 - w)) 0 0 [.ref (g_ad g 39), .int 1, .int (v A)] (hp g (pst s p w (-1)) n) (PO g s n A true w (rOk p1 a)) := by
    refine aw_M_of mo_X12_compares (by decide) (Nat.le_of_ble_eq_true rfl) ?_
    refine aw_iload_n rfl rfl ?_
    refine aw_if_eq (tgt := 8) rfl (by decide) (fun h1 => absurd h1 (by decide)) (fun h1 => ?_)
    refine aw_iload_n rfl rfl ?_
    refine aw_goto (tgt := 12) rfl (by decide) ?_
    refine aw_istore_n rfl (by decide) ?_
    exact aw_wk (d1 hpE hw hv) (And.intro rfl (And.intro rfl True.intro))
  refine aw_M_of mo_X12_part (by decide) (Nat.le_of_ble_eq_true rfl) ?_
  refine aw_iload_n rfl rfl ?_
  refine aw_if_eq (tgt := 13) rfl (by decide) (fun h1 => absurd h1 (by decide)) (fun h1 => ?_)
  refine aw_aload_n rfl rfl ?_
  refine aw_iconst (v := 1) rfl (by decide) ?_
  refine aw_iload_n rfl rfl ?_
  refine aw_pK (q0 := 39) (ci := 12) rfl cw_X12_191 rfl rfl rfl (hcm) rfl rfl (Nat.le_of_ble_eq_true rfl) (rmF (by omega)) (rmL (by decide) (by omega)) (Nat.zero_le _) (Nat.zero_le _) (fun hb1 => ?_)
  refine aw_goto (tgt := 17) rfl (by decide) ?_
  refine aw_istore_n rfl (by decide) ?_
  exact aw_wk (d2 hp1 hw hb1) (And.intro rfl (And.intro rfl True.intro))
set_option maxRecDepth 4000 in
theorem rm_pbf {l : Launch} {g : ag_G} {s : am_S} {n : am_N} {B b E : Nat} {tx : Nat → Nat} {A : Nat → Int32} (hx : aw_hx g) (hT : TX s n B b E tx) (hL : ∀ i, i < 6 → s 43 (asN i) = A i) (hA : ∀ i, i < 6 → bd (A i)) {w : Nat} {p : Nat} {f : Nat} {v : Ex} (z1 : PZ tx E (nCmp v) w p (rNo f)) (d1 : p ≤ E → w ≤ 6 → bd (v A) → aw_W l g mi_X12_compares (aw_rm (8 + 3 * (6 - w)) 0 0) (aw_Z g (PO g s n A true w (rNo f)) 0 0) 0 0 (hp g (pst s p w (-1)) n) 13 [some (.ref (g_ad g 39)), none, none, some (.int (v A)), none, none] []) (hpE : p ≤ E) (hw : w ≤ 6) : bd (v A) → aw_M l g mi_X12_part (10 + 3 * (6 - w)) 0 0 [.ref (g_ad g 39), .int 1, .int (v A)] (hp g (pst s p w (-1)) n) (PO g s n A true w (rNo f)) := by
  have hE := hT.2.2.2.1
  have hk := skw_b (tx := tx) hpE
  intro hv
  have hfE : f ≤ E := (PZ_pr z1 hpE).2
  have hf24 : ¬ nI f = (-1 : Int32) := nI_nm1 (by omega)
  have hcm : aw_M l g mi_X12_compares (8 + 3 * (6 - w)) 0 0 [.ref (g_ad g 39), .int 1, .int (v A)] (hp g (pst s p w (-1)) n) (PO g s n A true w (rNo f)) := by
    refine aw_M_of mo_X12_compares (by decide) (Nat.le_of_ble_eq_true rfl) ?_
    refine aw_iload_n rfl rfl ?_
    refine aw_if_eq (tgt := 8) rfl (by decide) (fun h1 => absurd h1 (by decide)) (fun h1 => ?_)
    refine aw_iload_n rfl rfl ?_
    refine aw_goto (tgt := 12) rfl (by decide) ?_
    refine aw_istore_n rfl (by decide) ?_
    exact aw_wk (d1 hpE hw hv) (And.intro rfl (And.intro rfl True.intro))
  refine aw_M_of mo_X12_part (by decide) (Nat.le_of_ble_eq_true rfl) ?_
  refine aw_iload_n rfl rfl ?_
  refine aw_if_eq (tgt := 13) rfl (by decide) (fun h1 => absurd h1 (by decide)) (fun h1 => ?_)
  refine aw_aload_n rfl rfl ?_
  refine aw_iconst (v := 1) rfl (by decide) ?_
  refine aw_iload_n rfl rfl ?_
  refine aw_pN (q0 := 39) (ci := 12) rfl cw_X12_191 rfl rfl rfl (hcm) rfl rfl (Nat.le_of_ble_eq_true rfl) (rmF (by omega)) (rmL (by decide) (by omega)) (Nat.zero_le _) (Nat.zero_le _) (fun x2 p2 d2 hb1 => ?_)
  refine aw_goto (tgt := 17) rfl (by decide) ?_
  refine aw_istore_n rfl (by decide) ?_
  refine aw_aload_n rfl rfl ?_
  refine pg_39_11 rfl kl_X12_128 ?_
  refine aw_iconst (v := -1) rfl (by decide) ?_
  refine aw_icmp_ne (tgt := 69) rfl (by decide) (fun h23 => ?_) (fun h23 => absurd h23 (hf24))
  refine aw_iload_n rfl rfl ?_
  exact aw_nZ rfl rfl (hb1 rfl) rfl
set_option maxRecDepth 4000 in
theorem rm_plS {l : Launch} {g : ag_G} {s : am_S} {n : am_N} {B b E : Nat} {tx : Nat → Nat} {A : Nat → Int32} (hx : aw_hx g) (hT : TX s n B b E tx) (hL : ∀ i, i < 6 → s 43 (asN i) = A i) (hA : ∀ i, i < 6 → bd (A i)) {w : Nat} {p : Nat} {v : Ex} (c1 : (cst tx E p) ≠ 38) (hpE : p ≤ E) (hw : w ≤ 6) : bb (v A) → aw_W l g mi_X12_part (aw_rm (10 + 3 * (6 - w)) 0 0) (aw_Z g (PO g s n A true w (rOk (skw tx E p) v)) 0 0) 0 0 (hp g (pst s p w (-1)) n) 18 [some (.ref (g_ad g 39)), none, none, some (.int (v A)), none] [] := by
  have hE := hT.2.2.2.1
  have hk := skw_b (tx := tx) hpE
  intro hv
  refine aw_aload_n rfl rfl ?_
  refine pg_39_11 rfl kl_X12_128 ?_
  refine aw_iconst (v := -1) rfl (by decide) ?_
  refine aw_icmp_ne (tgt := 69) rfl (by decide) (fun h23 => absurd (rfl) h23) (fun h23 => ?_)
  refine aw_aload_n rfl rfl ?_
  refine aw_iV (q0 := 39) (ci := 12) rfl cw_X12_138 rfl rfl rfl (c_m_lookC hT hpE) rfl rfl (Nat.le_of_ble_eq_true rfl) (rmF (by omega)) (rmL (by decide) (by omega)) (Nat.zero_le _) (Nat.zero_le _) ?_
  refine aw_bipush (v := 38) rfl (by decide) ?_
  refine aw_icmp_ne (tgt := 69) rfl (by decide) (fun h32 => ?_) (fun h32 => absurd h32 (c1))
  refine aw_iload_n rfl rfl ?_
  exact aw_kZ rfl rfl rfl hv rfl
set_option maxRecDepth 4000 in
theorem rm_plA {l : Launch} {g : ag_G} {s : am_S} {n : am_N} {B b E : Nat} {tx : Nat → Nat} {A : Nat → Int32} (hx : aw_hx g) (hT : TX s n B b E tx) (hL : ∀ i, i < 6 → s 43 (asN i) = A i) (hA : ∀ i, i < 6 → bd (A i)) {w : Nat} {p : Nat} {p1 : Nat} {v : Ex} {a : Ex} {r : Rs} (c1 : (cst tx E p) = 38) (z1 : PZ tx E nUnit w (skw tx E p + 1) (rOk p1 a)) (d1 : (skw tx E p + 1) ≤ E → w ≤ 6 → aw_M l g mi_X12_unit (9 + 3 * (6 - w)) 0 0 [.ref (g_ad g 39)] (hp g (pst s (skw tx E p + 1) w (-1)) n) (PO g s n A true w (rOk p1 a))) (z2 : PZ tx E (nPl (eAnd v a)) w p1 r) (d2 : p1 ≤ E → w ≤ 6 → bb ((eAnd v a) A) → aw_W l g mi_X12_part (aw_rm (10 + 3 * (6 - w)) 0 0) (aw_Z g (PO g s n A true w r) 0 0) 0 0 (hp g (pst s p1 w (-1)) n) 18 [some (.ref (g_ad g 39)), none, none, some (.int ((eAnd v a) A)), none] []) (hpE : p ≤ E) (hw : w ≤ 6) : bb (v A) → aw_W l g mi_X12_part (aw_rm (10 + 3 * (6 - w)) 0 0) (aw_Z g (PO g s n A true w r) 0 0) 0 0 (hp g (pst s p w (-1)) n) 18 [some (.ref (g_ad g 39)), none, none, some (.int (v A)), none] [] := by
  have hE := hT.2.2.2.1
  have hk := skw_b (tx := tx) hpE
  intro hv
  have hnx : skw tx E p + 1 ≤ E := by (have := cst_lt (tx := tx) (E := E) (p := p) (by rw [c1]; decide); omega)
  have hp1 : p1 ≤ E := (PZ_pr z1 (by omega)).2.1
  refine aw_aload_n rfl rfl ?_
  refine pg_39_11 rfl kl_X12_128 ?_
  refine aw_iconst (v := -1) rfl (by decide) ?_
  refine aw_icmp_ne (tgt := 69) rfl (by decide) (fun h23 => absurd (rfl) h23) (fun h23 => ?_)
  refine aw_aload_n rfl rfl ?_
  refine aw_iV (q0 := 39) (ci := 12) rfl cw_X12_138 rfl rfl rfl (c_m_lookC hT hpE) rfl rfl (Nat.le_of_ble_eq_true rfl) (rmF (by omega)) (rmL (by decide) (by omega)) (Nat.zero_le _) (Nat.zero_le _) ?_
  refine aw_bipush (v := 38) rfl (by decide) ?_
  refine aw_icmp_ne (tgt := 69) rfl (by decide) (fun h32 => absurd (c1) h32) (fun h32 => ?_)
  refine aw_aload_n rfl rfl ?_
  refine aw_dup rfl rfl ?_
  refine pg_39_10 rfl kl_X12_119 ?_
  refine aw_iconst (v := 1) rfl (by decide) ?_
  refine aw_iadd rfl ?_
  refine pp_39_10 rfl kl_X12_119 ?_
  refine aw_eqs (ws' := hp g (pst s ((skw tx E p) + 1) w (-1)) n) ?_ rfl rfl (congrArg (fun z => hp g z n) pst_in)
  refine aw_aload_n rfl rfl ?_
  refine aw_pK (q0 := 39) (ci := 12) rfl cw_X12_184 rfl rfl rfl ((d1 (by omega) hw)) rfl rfl (Nat.le_of_ble_eq_true rfl) (rmF (by omega)) (rmL (by decide) (by omega)) (Nat.zero_le _) (Nat.zero_le _) (fun hb1 => ?_)
  refine aw_istore rfl (by decide) ?_
  refine aw_iload_n rfl rfl ?_
  refine aw_if_eq (tgt := 64) rfl (by decide) (fun h52 => ?_) (fun h52 => ?_)
  · refine aw_iconst (v := 0) rfl (by decide) ?_
    refine aw_istore_n rfl (by decide) ?_
    refine aw_goto (tgt := 18) rfl (by decide) ?_
    have z := bb_and hv hb1
    first
    | exact aw_wk (d2 hp1 hw z.1) (And.intro rfl (And.intro (congrArg (fun x => some (Value.int x)) ((z.2.1 h52).symm)) True.intro))
    | exact aw_wk (d2 hp1 hw z.1) (And.intro rfl (And.intro (congrArg (fun x => some (Value.int x)) ((z.2.2.1 h57).symm)) True.intro))
    | exact aw_wk (d2 hp1 hw z.1) (And.intro rfl (And.intro (congrArg (fun x => some (Value.int x)) ((z.2.2.2 h52 h57).symm)) True.intro))
  · refine aw_iload rfl rfl ?_
    refine aw_if_eq (tgt := 64) rfl (by decide) (fun h57 => ?_) (fun h57 => ?_)
    · refine aw_iconst (v := 0) rfl (by decide) ?_
      refine aw_istore_n rfl (by decide) ?_
      refine aw_goto (tgt := 18) rfl (by decide) ?_
      have z := bb_and hv hb1
      first
      | exact aw_wk (d2 hp1 hw z.1) (And.intro rfl (And.intro (congrArg (fun x => some (Value.int x)) ((z.2.1 h52).symm)) True.intro))
      | exact aw_wk (d2 hp1 hw z.1) (And.intro rfl (And.intro (congrArg (fun x => some (Value.int x)) ((z.2.2.1 h57).symm)) True.intro))
      | exact aw_wk (d2 hp1 hw z.1) (And.intro rfl (And.intro (congrArg (fun x => some (Value.int x)) ((z.2.2.2 h52 h57).symm)) True.intro))
    · refine aw_iconst (v := 1) rfl (by decide) ?_
      refine aw_goto (tgt := 65) rfl (by decide) ?_
      refine aw_istore_n rfl (by decide) ?_
      refine aw_goto (tgt := 18) rfl (by decide) ?_
      have z := bb_and hv hb1
      first
      | exact aw_wk (d2 hp1 hw z.1) (And.intro rfl (And.intro (congrArg (fun x => some (Value.int x)) ((z.2.1 h52).symm)) True.intro))
      | exact aw_wk (d2 hp1 hw z.1) (And.intro rfl (And.intro (congrArg (fun x => some (Value.int x)) ((z.2.2.1 h57).symm)) True.intro))
      | exact aw_wk (d2 hp1 hw z.1) (And.intro rfl (And.intro (congrArg (fun x => some (Value.int x)) ((z.2.2.2 h52 h57).symm)) True.intro))
set_option maxRecDepth 4000 in
theorem rm_plF {l : Launch} {g : ag_G} {s : am_S} {n : am_N} {B b E : Nat} {tx : Nat → Nat} {A : Nat → Int32} (hx : aw_hx g) (hT : TX s n B b E tx) (hL : ∀ i, i < 6 → s 43 (asN i) = A i) (hA : ∀ i, i < 6 → bd (A i)) {w : Nat} {p : Nat} {f : Nat} {v : Ex} (c1 : (cst tx E p) = 38) (z1 : PZ tx E nUnit w (skw tx E p + 1) (rNo f)) (d1 : (skw tx E p + 1) ≤ E → w ≤ 6 → aw_M l g mi_X12_unit (9 + 3 * (6 - w)) 0 0 [.ref (g_ad g 39)] (hp g (pst s (skw tx E p + 1) w (-1)) n) (PO g s n A true w (rNo f))) (hpE : p ≤ E) (hw : w ≤ 6) : bb (v A) → aw_W l g mi_X12_part (aw_rm (10 + 3 * (6 - w)) 0 0) (aw_Z g (PO g s n A true w (rNo f)) 0 0) 0 0 (hp g (pst s p w (-1)) n) 18 [some (.ref (g_ad g 39)), none, none, some (.int (v A)), none] [] := by
  have hE := hT.2.2.2.1
  have hk := skw_b (tx := tx) hpE
  intro hv
  have hnx : skw tx E p + 1 ≤ E := by (have := cst_lt (tx := tx) (E := E) (p := p) (by rw [c1]; decide); omega)
  have hfE : f ≤ E := (PZ_pr z1 (by omega)).2
  have hf24 : ¬ nI f = (-1 : Int32) := nI_nm1 (by omega)
  refine aw_aload_n rfl rfl ?_
  refine pg_39_11 rfl kl_X12_128 ?_
  refine aw_iconst (v := -1) rfl (by decide) ?_
  refine aw_icmp_ne (tgt := 69) rfl (by decide) (fun h23 => absurd (rfl) h23) (fun h23 => ?_)
  refine aw_aload_n rfl rfl ?_
  refine aw_iV (q0 := 39) (ci := 12) rfl cw_X12_138 rfl rfl rfl (c_m_lookC hT hpE) rfl rfl (Nat.le_of_ble_eq_true rfl) (rmF (by omega)) (rmL (by decide) (by omega)) (Nat.zero_le _) (Nat.zero_le _) ?_
  refine aw_bipush (v := 38) rfl (by decide) ?_
  refine aw_icmp_ne (tgt := 69) rfl (by decide) (fun h32 => absurd (c1) h32) (fun h32 => ?_)
  refine aw_aload_n rfl rfl ?_
  refine aw_dup rfl rfl ?_
  refine pg_39_10 rfl kl_X12_119 ?_
  refine aw_iconst (v := 1) rfl (by decide) ?_
  refine aw_iadd rfl ?_
  refine pp_39_10 rfl kl_X12_119 ?_
  refine aw_eqs (ws' := hp g (pst s ((skw tx E p) + 1) w (-1)) n) ?_ rfl rfl (congrArg (fun z => hp g z n) pst_in)
  refine aw_aload_n rfl rfl ?_
  refine aw_pN (q0 := 39) (ci := 12) rfl cw_X12_184 rfl rfl rfl ((d1 (by omega) hw)) rfl rfl (Nat.le_of_ble_eq_true rfl) (rmF (by omega)) (rmL (by decide) (by omega)) (Nat.zero_le _) (Nat.zero_le _) (fun x2 p2 d2 hb1 => ?_)
  refine aw_istore rfl (by decide) ?_
  refine aw_iload_n rfl rfl ?_
  refine aw_if_eq (tgt := 64) rfl (by decide) (fun h52 => ?_) (fun h52 => ?_)
  · refine aw_iconst (v := 0) rfl (by decide) ?_
    refine aw_istore_n rfl (by decide) ?_
    refine aw_goto (tgt := 18) rfl (by decide) ?_
    refine aw_aload_n rfl rfl ?_
    refine pg_39_11 rfl kl_X12_128 ?_
    refine aw_iconst (v := -1) rfl (by decide) ?_
    refine aw_icmp_ne (tgt := 69) rfl (by decide) (fun h23 => ?_) (fun h23 => absurd h23 (hf24))
    refine aw_iload_n rfl rfl ?_
    exact aw_nZ rfl rfl (by first | exact Or.inl rfl | exact Or.inr rfl) rfl
  · refine aw_iload rfl rfl ?_
    refine aw_if_eq (tgt := 64) rfl (by decide) (fun h57 => ?_) (fun h57 => ?_)
    · refine aw_iconst (v := 0) rfl (by decide) ?_
      refine aw_istore_n rfl (by decide) ?_
      refine aw_goto (tgt := 18) rfl (by decide) ?_
      refine aw_aload_n rfl rfl ?_
      refine pg_39_11 rfl kl_X12_128 ?_
      refine aw_iconst (v := -1) rfl (by decide) ?_
      refine aw_icmp_ne (tgt := 69) rfl (by decide) (fun h23 => ?_) (fun h23 => absurd h23 (hf24))
      refine aw_iload_n rfl rfl ?_
      exact aw_nZ rfl rfl (by first | exact Or.inl rfl | exact Or.inr rfl) rfl
    · refine aw_iconst (v := 1) rfl (by decide) ?_
      refine aw_goto (tgt := 65) rfl (by decide) ?_
      refine aw_istore_n rfl (by decide) ?_
      refine aw_goto (tgt := 18) rfl (by decide) ?_
      refine aw_aload_n rfl rfl ?_
      refine pg_39_11 rfl kl_X12_128 ?_
      refine aw_iconst (v := -1) rfl (by decide) ?_
      refine aw_icmp_ne (tgt := 69) rfl (by decide) (fun h23 => ?_) (fun h23 => absurd h23 (hf24))
      refine aw_iload_n rfl rfl ?_
      exact aw_nZ rfl rfl (by first | exact Or.inl rfl | exact Or.inr rfl) rfl
set_option maxRecDepth 4000 in
theorem rm_co {l : Launch} {g : ag_G} {s : am_S} {n : am_N} {B b E : Nat} {tx : Nat → Nat} {A : Nat → Int32} (hx : aw_hx g) (hT : TX s n B b E tx) (hL : ∀ i, i < 6 → s 43 (asN i) = A i) (hA : ∀ i, i < 6 → bd (A i)) {w : Nat} {p : Nat} {p1 : Nat} {a : Ex} {r : Rs} (z1 : PZ tx E nPart w p (rOk p1 a)) (d1 : p ≤ E → w ≤ 6 → aw_M l g mi_X12_part (10 + 3 * (6 - w)) 0 0 [.ref (g_ad g 39), .int 0, .int 0] (hp g (pst s p w (-1)) n) (PO g s n A true w (rOk p1 a))) (z2 : PZ tx E (nQl a) w p1 r) (d2 : p1 ≤ E → w ≤ 6 → bb (a A) → aw_W l g mi_X12_condition (aw_rm (11 + 3 * (6 - w)) 0 0) (aw_Z g (PO g s n A true w r) 0 0) 0 0 (hp g (pst s p1 w (-1)) n) 7 [some (.ref (g_ad g 39)), none, none, some (.int (a A)), none] []) (hpE : p ≤ E) (hw : w ≤ 6) : aw_M l g mi_X12_condition (11 + 3 * (6 - w)) 0 0 [.ref (g_ad g 39), .int 0, .int 0] (hp g (pst s p w (-1)) n) (PO g s n A true w r) := by
  have hE := hT.2.2.2.1
  have hk := skw_b (tx := tx) hpE
  have hp1 : p1 ≤ E := (PZ_pr z1 hpE).2.1
  refine aw_M_of mo_X12_condition (by decide) (Nat.le_of_ble_eq_true rfl) ?_
  refine aw_aload_n rfl rfl ?_
  refine aw_iload_n rfl rfl ?_
  refine aw_iload_n rfl rfl ?_
  refine aw_pK (q0 := 39) (ci := 12) rfl cw_X12_194 rfl rfl rfl ((d1 hpE hw)) rfl rfl (Nat.le_of_ble_eq_true rfl) (rmF (by omega)) (rmL (by decide) (by omega)) (Nat.zero_le _) (Nat.zero_le _) (fun hb1 => ?_)
  refine aw_istore_n rfl (by decide) ?_
  exact aw_wk (d2 hp1 hw hb1) (And.intro rfl (And.intro rfl True.intro))
set_option maxRecDepth 4000 in
theorem rm_cof {l : Launch} {g : ag_G} {s : am_S} {n : am_N} {B b E : Nat} {tx : Nat → Nat} {A : Nat → Int32} (hx : aw_hx g) (hT : TX s n B b E tx) (hL : ∀ i, i < 6 → s 43 (asN i) = A i) (hA : ∀ i, i < 6 → bd (A i)) {w : Nat} {p : Nat} {f : Nat} (z1 : PZ tx E nPart w p (rNo f)) (d1 : p ≤ E → w ≤ 6 → aw_M l g mi_X12_part (10 + 3 * (6 - w)) 0 0 [.ref (g_ad g 39), .int 0, .int 0] (hp g (pst s p w (-1)) n) (PO g s n A true w (rNo f))) (hpE : p ≤ E) (hw : w ≤ 6) : aw_M l g mi_X12_condition (11 + 3 * (6 - w)) 0 0 [.ref (g_ad g 39), .int 0, .int 0] (hp g (pst s p w (-1)) n) (PO g s n A true w (rNo f)) := by
  have hE := hT.2.2.2.1
  have hk := skw_b (tx := tx) hpE
  have hfE : f ≤ E := (PZ_pr z1 hpE).2
  have hf24 : ¬ nI f = (-1 : Int32) := nI_nm1 (by omega)
  refine aw_M_of mo_X12_condition (by decide) (Nat.le_of_ble_eq_true rfl) ?_
  refine aw_aload_n rfl rfl ?_
  refine aw_iload_n rfl rfl ?_
  refine aw_iload_n rfl rfl ?_
  refine aw_pN (q0 := 39) (ci := 12) rfl cw_X12_194 rfl rfl rfl ((d1 hpE hw)) rfl rfl (Nat.le_of_ble_eq_true rfl) (rmF (by omega)) (rmL (by decide) (by omega)) (Nat.zero_le _) (Nat.zero_le _) (fun x2 p2 d2 hb1 => ?_)
  refine aw_istore_n rfl (by decide) ?_
  refine aw_aload_n rfl rfl ?_
  refine pg_39_11 rfl kl_X12_128 ?_
  refine aw_iconst (v := -1) rfl (by decide) ?_
  refine aw_icmp_ne (tgt := 60) rfl (by decide) (fun h12 => ?_) (fun h12 => absurd h12 (hf24))
  refine aw_iload_n rfl rfl ?_
  exact aw_nZ rfl rfl (hb1 rfl) rfl
set_option maxRecDepth 4000 in
theorem rm_cp {l : Launch} {g : ag_G} {s : am_S} {n : am_N} {B b E : Nat} {tx : Nat → Nat} {A : Nat → Int32} (hx : aw_hx g) (hT : TX s n B b E tx) (hL : ∀ i, i < 6 → s 43 (asN i) = A i) (hA : ∀ i, i < 6 → bd (A i)) {w : Nat} {p : Nat} {p1 : Nat} {v : Ex} {a : Ex} {r : Rs} (z1 : PZ tx E (nPart1 v) w p (rOk p1 a)) (d1 : p ≤ E → w ≤ 6 → bd (v A) → aw_M l g mi_X12_part (10 + 3 * (6 - w)) 0 0 [.ref (g_ad g 39), .int 1, .int (v A)] (hp g (pst s p w (-1)) n) (PO g s n A true w (rOk p1 a))) (z2 : PZ tx E (nQl a) w p1 r) (d2 : p1 ≤ E → w ≤ 6 → bb (a A) → aw_W l g mi_X12_condition (aw_rm (11 + 3 * (6 - w)) 0 0) (aw_Z g (PO g s n A true w r) 0 0) 0 0 (hp g (pst s p1 w (-1)) n) 7 [some (.ref (g_ad g 39)), none, none, some (.int (a A)), none] []) (hpE : p ≤ E) (hw : w ≤ 6) : bd (v A) → aw_M l g mi_X12_condition (11 + 3 * (6 - w)) 0 0 [.ref (g_ad g 39), .int 1, .int (v A)] (hp g (pst s p w (-1)) n) (PO g s n A true w r) := by
  have hE := hT.2.2.2.1
  have hk := skw_b (tx := tx) hpE
  intro hv
  have hp1 : p1 ≤ E := (PZ_pr z1 hpE).2.1
  refine aw_M_of mo_X12_condition (by decide) (Nat.le_of_ble_eq_true rfl) ?_
  refine aw_aload_n rfl rfl ?_
  refine aw_iload_n rfl rfl ?_
  refine aw_iload_n rfl rfl ?_
  refine aw_pK (q0 := 39) (ci := 12) rfl cw_X12_194 rfl rfl rfl ((d1 hpE hw hv)) rfl rfl (Nat.le_of_ble_eq_true rfl) (rmF (by omega)) (rmL (by decide) (by omega)) (Nat.zero_le _) (Nat.zero_le _) (fun hb1 => ?_)
  refine aw_istore_n rfl (by decide) ?_
  exact aw_wk (d2 hp1 hw hb1) (And.intro rfl (And.intro rfl True.intro))
set_option maxRecDepth 4000 in
theorem rm_cpf {l : Launch} {g : ag_G} {s : am_S} {n : am_N} {B b E : Nat} {tx : Nat → Nat} {A : Nat → Int32} (hx : aw_hx g) (hT : TX s n B b E tx) (hL : ∀ i, i < 6 → s 43 (asN i) = A i) (hA : ∀ i, i < 6 → bd (A i)) {w : Nat} {p : Nat} {f : Nat} {v : Ex} (z1 : PZ tx E (nPart1 v) w p (rNo f)) (d1 : p ≤ E → w ≤ 6 → bd (v A) → aw_M l g mi_X12_part (10 + 3 * (6 - w)) 0 0 [.ref (g_ad g 39), .int 1, .int (v A)] (hp g (pst s p w (-1)) n) (PO g s n A true w (rNo f))) (hpE : p ≤ E) (hw : w ≤ 6) : bd (v A) → aw_M l g mi_X12_condition (11 + 3 * (6 - w)) 0 0 [.ref (g_ad g 39), .int 1, .int (v A)] (hp g (pst s p w (-1)) n) (PO g s n A true w (rNo f)) := by
  have hE := hT.2.2.2.1
  have hk := skw_b (tx := tx) hpE
  intro hv
  have hfE : f ≤ E := (PZ_pr z1 hpE).2
  have hf24 : ¬ nI f = (-1 : Int32) := nI_nm1 (by omega)
  refine aw_M_of mo_X12_condition (by decide) (Nat.le_of_ble_eq_true rfl) ?_
  refine aw_aload_n rfl rfl ?_
  refine aw_iload_n rfl rfl ?_
  refine aw_iload_n rfl rfl ?_
  refine aw_pN (q0 := 39) (ci := 12) rfl cw_X12_194 rfl rfl rfl ((d1 hpE hw hv)) rfl rfl (Nat.le_of_ble_eq_true rfl) (rmF (by omega)) (rmL (by decide) (by omega)) (Nat.zero_le _) (Nat.zero_le _) (fun x2 p2 d2 hb1 => ?_)
  refine aw_istore_n rfl (by decide) ?_
  refine aw_aload_n rfl rfl ?_
  refine pg_39_11 rfl kl_X12_128 ?_
  refine aw_iconst (v := -1) rfl (by decide) ?_
  refine aw_icmp_ne (tgt := 60) rfl (by decide) (fun h12 => ?_) (fun h12 => absurd h12 (hf24))
  refine aw_iload_n rfl rfl ?_
  exact aw_nZ rfl rfl (hb1 rfl) rfl
set_option maxRecDepth 4000 in
theorem rm_qlS {l : Launch} {g : ag_G} {s : am_S} {n : am_N} {B b E : Nat} {tx : Nat → Nat} {A : Nat → Int32} (hx : aw_hx g) (hT : TX s n B b E tx) (hL : ∀ i, i < 6 → s 43 (asN i) = A i) (hA : ∀ i, i < 6 → bd (A i)) {w : Nat} {p : Nat} {v : Ex} (c1 : (cst tx E p) ≠ 124) (hpE : p ≤ E) (hw : w ≤ 6) : bb (v A) → aw_W l g mi_X12_condition (aw_rm (11 + 3 * (6 - w)) 0 0) (aw_Z g (PO g s n A true w (rOk (skw tx E p) v)) 0 0) 0 0 (hp g (pst s p w (-1)) n) 7 [some (.ref (g_ad g 39)), none, none, some (.int (v A)), none] [] := by
  have hE := hT.2.2.2.1
  have hk := skw_b (tx := tx) hpE
  intro hv
  refine aw_aload_n rfl rfl ?_
  refine pg_39_11 rfl kl_X12_128 ?_
  refine aw_iconst (v := -1) rfl (by decide) ?_
  refine aw_icmp_ne (tgt := 60) rfl (by decide) (fun h12 => absurd (rfl) h12) (fun h12 => ?_)
  refine aw_aload_n rfl rfl ?_
  refine aw_iV (q0 := 39) (ci := 12) rfl cw_X12_138 rfl rfl rfl (c_m_lookC hT hpE) rfl rfl (Nat.le_of_ble_eq_true rfl) (rmF (by omega)) (rmL (by decide) (by omega)) (Nat.zero_le _) (Nat.zero_le _) ?_
  refine aw_bipush (v := 124) rfl (by decide) ?_
  refine aw_icmp_ne (tgt := 60) rfl (by decide) (fun h21 => ?_) (fun h21 => absurd h21 (c1))
  refine aw_iload_n rfl rfl ?_
  exact aw_kZ rfl rfl rfl hv rfl
set_option maxRecDepth 4000 in
theorem rm_qlO {l : Launch} {g : ag_G} {s : am_S} {n : am_N} {B b E : Nat} {tx : Nat → Nat} {A : Nat → Int32} (hx : aw_hx g) (hT : TX s n B b E tx) (hL : ∀ i, i < 6 → s 43 (asN i) = A i) (hA : ∀ i, i < 6 → bd (A i)) {w : Nat} {p : Nat} {p1 : Nat} {v : Ex} {a : Ex} {r : Rs} (c1 : (cst tx E p) = 124) (z1 : PZ tx E nPart w (skw tx E p + 1) (rOk p1 a)) (d1 : (skw tx E p + 1) ≤ E → w ≤ 6 → aw_M l g mi_X12_part (10 + 3 * (6 - w)) 0 0 [.ref (g_ad g 39), .int 0, .int 0] (hp g (pst s (skw tx E p + 1) w (-1)) n) (PO g s n A true w (rOk p1 a))) (z2 : PZ tx E (nQl (eOr v a)) w p1 r) (d2 : p1 ≤ E → w ≤ 6 → bb ((eOr v a) A) → aw_W l g mi_X12_condition (aw_rm (11 + 3 * (6 - w)) 0 0) (aw_Z g (PO g s n A true w r) 0 0) 0 0 (hp g (pst s p1 w (-1)) n) 7 [some (.ref (g_ad g 39)), none, none, some (.int ((eOr v a) A)), none] []) (hpE : p ≤ E) (hw : w ≤ 6) : bb (v A) → aw_W l g mi_X12_condition (aw_rm (11 + 3 * (6 - w)) 0 0) (aw_Z g (PO g s n A true w r) 0 0) 0 0 (hp g (pst s p w (-1)) n) 7 [some (.ref (g_ad g 39)), none, none, some (.int (v A)), none] [] := by
  have hE := hT.2.2.2.1
  have hk := skw_b (tx := tx) hpE
  intro hv
  have hnx : skw tx E p + 1 ≤ E := by (have := cst_lt (tx := tx) (E := E) (p := p) (by rw [c1]; decide); omega)
  have hp1 : p1 ≤ E := (PZ_pr z1 (by omega)).2.1
  refine aw_aload_n rfl rfl ?_
  refine pg_39_11 rfl kl_X12_128 ?_
  refine aw_iconst (v := -1) rfl (by decide) ?_
  refine aw_icmp_ne (tgt := 60) rfl (by decide) (fun h12 => absurd (rfl) h12) (fun h12 => ?_)
  refine aw_aload_n rfl rfl ?_
  refine aw_iV (q0 := 39) (ci := 12) rfl cw_X12_138 rfl rfl rfl (c_m_lookC hT hpE) rfl rfl (Nat.le_of_ble_eq_true rfl) (rmF (by omega)) (rmL (by decide) (by omega)) (Nat.zero_le _) (Nat.zero_le _) ?_
  refine aw_bipush (v := 124) rfl (by decide) ?_
  refine aw_icmp_ne (tgt := 60) rfl (by decide) (fun h21 => absurd (c1) h21) (fun h21 => ?_)
  refine aw_aload_n rfl rfl ?_
  refine aw_dup rfl rfl ?_
  refine pg_39_10 rfl kl_X12_119 ?_
  refine aw_iconst (v := 1) rfl (by decide) ?_
  refine aw_iadd rfl ?_
  refine pp_39_10 rfl kl_X12_119 ?_
  refine aw_eqs (ws' := hp g (pst s ((skw tx E p) + 1) w (-1)) n) ?_ rfl rfl (congrArg (fun z => hp g z n) pst_in)
  refine aw_aload_n rfl rfl ?_
  refine aw_iconst (v := 0) rfl (by decide) ?_
  refine aw_iconst (v := 0) rfl (by decide) ?_
  refine aw_pK (q0 := 39) (ci := 12) rfl cw_X12_194 rfl rfl rfl ((d1 (by omega) hw)) rfl rfl (Nat.le_of_ble_eq_true rfl) (rmF (by omega)) (rmL (by decide) (by omega)) (Nat.zero_le _) (Nat.zero_le _) (fun hb1 => ?_)
  refine aw_istore rfl (by decide) ?_
  refine aw_iload_n rfl rfl ?_
  refine aw_if_ne (tgt := 51) rfl (by decide) (fun h43 => ?_) (fun h43 => ?_)
  · refine aw_iconst (v := 1) rfl (by decide) ?_
    refine aw_goto (tgt := 56) rfl (by decide) ?_
    refine aw_istore_n rfl (by decide) ?_
    refine aw_goto (tgt := 7) rfl (by decide) ?_
    have z := bb_or hv hb1
    first
    | exact aw_wk (d2 hp1 hw z.1) (And.intro rfl (And.intro (congrArg (fun x => some (Value.int x)) ((z.2.1 h43).symm)) True.intro))
    | exact aw_wk (d2 hp1 hw z.1) (And.intro rfl (And.intro (congrArg (fun x => some (Value.int x)) ((z.2.2.1 h48).symm)) True.intro))
    | exact aw_wk (d2 hp1 hw z.1) (And.intro rfl (And.intro (congrArg (fun x => some (Value.int x)) ((z.2.2.2 h43 h48).symm)) True.intro))
  · refine aw_iload rfl rfl ?_
    refine aw_if_eq (tgt := 55) rfl (by decide) (fun h48 => ?_) (fun h48 => ?_)
    · refine aw_iconst (v := 0) rfl (by decide) ?_
      refine aw_istore_n rfl (by decide) ?_
      refine aw_goto (tgt := 7) rfl (by decide) ?_
      have z := bb_or hv hb1
      first
      | exact aw_wk (d2 hp1 hw z.1) (And.intro rfl (And.intro (congrArg (fun x => some (Value.int x)) ((z.2.1 h43).symm)) True.intro))
      | exact aw_wk (d2 hp1 hw z.1) (And.intro rfl (And.intro (congrArg (fun x => some (Value.int x)) ((z.2.2.1 h48).symm)) True.intro))
      | exact aw_wk (d2 hp1 hw z.1) (And.intro rfl (And.intro (congrArg (fun x => some (Value.int x)) ((z.2.2.2 h43 h48).symm)) True.intro))
    · refine aw_iconst (v := 1) rfl (by decide) ?_
      refine aw_goto (tgt := 56) rfl (by decide) ?_
      refine aw_istore_n rfl (by decide) ?_
      refine aw_goto (tgt := 7) rfl (by decide) ?_
      have z := bb_or hv hb1
      first
      | exact aw_wk (d2 hp1 hw z.1) (And.intro rfl (And.intro (congrArg (fun x => some (Value.int x)) ((z.2.1 h43).symm)) True.intro))
      | exact aw_wk (d2 hp1 hw z.1) (And.intro rfl (And.intro (congrArg (fun x => some (Value.int x)) ((z.2.2.1 h48).symm)) True.intro))
      | exact aw_wk (d2 hp1 hw z.1) (And.intro rfl (And.intro (congrArg (fun x => some (Value.int x)) ((z.2.2.2 h43 h48).symm)) True.intro))
set_option maxRecDepth 4000 in
theorem rm_qlF {l : Launch} {g : ag_G} {s : am_S} {n : am_N} {B b E : Nat} {tx : Nat → Nat} {A : Nat → Int32} (hx : aw_hx g) (hT : TX s n B b E tx) (hL : ∀ i, i < 6 → s 43 (asN i) = A i) (hA : ∀ i, i < 6 → bd (A i)) {w : Nat} {p : Nat} {f : Nat} {v : Ex} (c1 : (cst tx E p) = 124) (z1 : PZ tx E nPart w (skw tx E p + 1) (rNo f)) (d1 : (skw tx E p + 1) ≤ E → w ≤ 6 → aw_M l g mi_X12_part (10 + 3 * (6 - w)) 0 0 [.ref (g_ad g 39), .int 0, .int 0] (hp g (pst s (skw tx E p + 1) w (-1)) n) (PO g s n A true w (rNo f))) (hpE : p ≤ E) (hw : w ≤ 6) : bb (v A) → aw_W l g mi_X12_condition (aw_rm (11 + 3 * (6 - w)) 0 0) (aw_Z g (PO g s n A true w (rNo f)) 0 0) 0 0 (hp g (pst s p w (-1)) n) 7 [some (.ref (g_ad g 39)), none, none, some (.int (v A)), none] [] := by
  have hE := hT.2.2.2.1
  have hk := skw_b (tx := tx) hpE
  intro hv
  have hnx : skw tx E p + 1 ≤ E := by (have := cst_lt (tx := tx) (E := E) (p := p) (by rw [c1]; decide); omega)
  have hfE : f ≤ E := (PZ_pr z1 (by omega)).2
  have hf24 : ¬ nI f = (-1 : Int32) := nI_nm1 (by omega)
  refine aw_aload_n rfl rfl ?_
  refine pg_39_11 rfl kl_X12_128 ?_
  refine aw_iconst (v := -1) rfl (by decide) ?_
  refine aw_icmp_ne (tgt := 60) rfl (by decide) (fun h12 => absurd (rfl) h12) (fun h12 => ?_)
  refine aw_aload_n rfl rfl ?_
  refine aw_iV (q0 := 39) (ci := 12) rfl cw_X12_138 rfl rfl rfl (c_m_lookC hT hpE) rfl rfl (Nat.le_of_ble_eq_true rfl) (rmF (by omega)) (rmL (by decide) (by omega)) (Nat.zero_le _) (Nat.zero_le _) ?_
  refine aw_bipush (v := 124) rfl (by decide) ?_
  refine aw_icmp_ne (tgt := 60) rfl (by decide) (fun h21 => absurd (c1) h21) (fun h21 => ?_)
  refine aw_aload_n rfl rfl ?_
  refine aw_dup rfl rfl ?_
  refine pg_39_10 rfl kl_X12_119 ?_
  refine aw_iconst (v := 1) rfl (by decide) ?_
  refine aw_iadd rfl ?_
  refine pp_39_10 rfl kl_X12_119 ?_
  refine aw_eqs (ws' := hp g (pst s ((skw tx E p) + 1) w (-1)) n) ?_ rfl rfl (congrArg (fun z => hp g z n) pst_in)
  refine aw_aload_n rfl rfl ?_
  refine aw_iconst (v := 0) rfl (by decide) ?_
  refine aw_iconst (v := 0) rfl (by decide) ?_
  refine aw_pN (q0 := 39) (ci := 12) rfl cw_X12_194 rfl rfl rfl ((d1 (by omega) hw)) rfl rfl (Nat.le_of_ble_eq_true rfl) (rmF (by omega)) (rmL (by decide) (by omega)) (Nat.zero_le _) (Nat.zero_le _) (fun x2 p2 d2 hb1 => ?_)
  refine aw_istore rfl (by decide) ?_
  refine aw_iload_n rfl rfl ?_
  refine aw_if_ne (tgt := 51) rfl (by decide) (fun h43 => ?_) (fun h43 => ?_)
  · refine aw_iconst (v := 1) rfl (by decide) ?_
    refine aw_goto (tgt := 56) rfl (by decide) ?_
    refine aw_istore_n rfl (by decide) ?_
    refine aw_goto (tgt := 7) rfl (by decide) ?_
    refine aw_aload_n rfl rfl ?_
    refine pg_39_11 rfl kl_X12_128 ?_
    refine aw_iconst (v := -1) rfl (by decide) ?_
    refine aw_icmp_ne (tgt := 60) rfl (by decide) (fun h12 => ?_) (fun h12 => absurd h12 (hf24))
    refine aw_iload_n rfl rfl ?_
    exact aw_nZ rfl rfl (by first | exact Or.inl rfl | exact Or.inr rfl) rfl
  · refine aw_iload rfl rfl ?_
    refine aw_if_eq (tgt := 55) rfl (by decide) (fun h48 => ?_) (fun h48 => ?_)
    · refine aw_iconst (v := 0) rfl (by decide) ?_
      refine aw_istore_n rfl (by decide) ?_
      refine aw_goto (tgt := 7) rfl (by decide) ?_
      refine aw_aload_n rfl rfl ?_
      refine pg_39_11 rfl kl_X12_128 ?_
      refine aw_iconst (v := -1) rfl (by decide) ?_
      refine aw_icmp_ne (tgt := 60) rfl (by decide) (fun h12 => ?_) (fun h12 => absurd h12 (hf24))
      refine aw_iload_n rfl rfl ?_
      exact aw_nZ rfl rfl (by first | exact Or.inl rfl | exact Or.inr rfl) rfl
    · refine aw_iconst (v := 1) rfl (by decide) ?_
      refine aw_goto (tgt := 56) rfl (by decide) ?_
      refine aw_istore_n rfl (by decide) ?_
      refine aw_goto (tgt := 7) rfl (by decide) ?_
      refine aw_aload_n rfl rfl ?_
      refine pg_39_11 rfl kl_X12_128 ?_
      refine aw_iconst (v := -1) rfl (by decide) ?_
      refine aw_icmp_ne (tgt := 60) rfl (by decide) (fun h12 => ?_) (fun h12 => absurd h12 (hf24))
      refine aw_iload_n rfl rfl ?_
      exact aw_nZ rfl rfl (by first | exact Or.inl rfl | exact Or.inr rfl) rfl
theorem rm_all {l : Launch} {g : ag_G} {s : am_S} {n : am_N} {B b E : Nat} {tx : Nat → Nat} {A : Nat → Int32} (hx : aw_hx g) (hT : TX s n B b E tx) (hL : ∀ i, i < 6 → s 43 (asN i) = A i) (hA : ∀ i, i < 6 → bd (A i)) {nt : Nt} {w p : Nat} {r : Rs} (h : PZ tx E nt w p r) (hpE : p ≤ E) (hw : w ≤ 6) : RM l g s n A nt w p r := by
  refine (h (fun nt w p r => PZ tx E nt w p r ∧ (p ≤ E → w ≤ 6 → RM l g s n A nt w p r)) ⟨?_, ?_, ?_, ?_, ?_, ?_, ?_, ?_, ?_, ?_, ?_, ?_, ?_, ?_, ?_, ?_, ?_, ?_, ?_, ?_, ?_, ?_, ?_, ?_, ?_, ?_, ?_, ?_, ?_, ?_, ?_, ?_, ?_, ?_, ?_, ?_, ?_, ?_, ?_, ?_, ?_, ?_, ?_, ?_, ?_, ?_⟩).2 hpE hw
  · intro w p i c1; exact ⟨z_atL c1, fun hpE hw => rm_atL hx hT hL hA c1 hpE hw⟩
  · intro w p p1 e c1 c2 c3 d1 c4; exact ⟨z_atB c1 c2 c3 d1.1 c4, fun hpE hw => rm_atB hx hT hL hA c1 c2 c3 d1.1 d1.2 c4 hpE hw⟩
  · intro w p p1 e c1 c2 c3 d1 c4; exact ⟨z_atBc c1 c2 c3 d1.1 c4, fun hpE hw => rm_atBc hx hT hL hA c1 c2 c3 d1.1 d1.2 c4 hpE hw⟩
  · intro w p f c1 c2 c3 d1; exact ⟨z_atBf c1 c2 c3 d1.1, fun hpE hw => rm_atBf hx hT hL hA c1 c2 c3 d1.1 d1.2 hpE hw⟩
  · intro p c1 c2; exact ⟨z_atB6 c1 c2, fun hpE hw => rm_atB6 hx hT hL hA c1 c2 hpE hw⟩
  · intro w p q m0 c1 c2 c3 c4; exact ⟨z_atN c1 c2 c3 c4, fun hpE hw => rm_atN hx hT hL hA c1 c2 c3 c4 hpE hw⟩
  · intro w p q m0 c1 c2 c3 c4; exact ⟨z_atN5 c1 c2 c3 c4, fun hpE hw => rm_atN5 hx hT hL hA c1 c2 c3 c4 hpE hw⟩
  · intro w p c1 c2 c3; exact ⟨z_atN0 c1 c2 c3, fun hpE hw => rm_atN0 hx hT hL hA c1 c2 c3 hpE hw⟩
  · intro w p p1 a r d1 d2; exact ⟨z_te d1.1 d2.1, fun hpE hw => rm_te hx hT hL hA d1.1 d1.2 d2.1 d2.2 hpE hw⟩
  · intro w p f d1; exact ⟨z_tef d1.1, fun hpE hw => rm_tef hx hT hL hA d1.1 d1.2 hpE hw⟩
  · intro w p v c1 c2; exact ⟨z_tlS c1 c2, fun hpE hw => rm_tlS hx hT hL hA c1 c2 hpE hw⟩
  · intro w p p1 v a r c1 d1 d2; exact ⟨z_tlM c1 d1.1 d2.1, fun hpE hw => rm_tlM hx hT hL hA c1 d1.1 d1.2 d2.1 d2.2 hpE hw⟩
  · intro w p p1 v a r c1 d1 d2; exact ⟨z_tlD c1 d1.1 d2.1, fun hpE hw => rm_tlD hx hT hL hA c1 d1.1 d1.2 d2.1 d2.2 hpE hw⟩
  · intro w p f v c1 d1; exact ⟨z_tlF c1 d1.1, fun hpE hw => rm_tlF hx hT hL hA c1 d1.1 d1.2 hpE hw⟩
  · intro w p p1 a r d1 d2; exact ⟨z_su d1.1 d2.1, fun hpE hw => rm_su hx hT hL hA d1.1 d1.2 d2.1 d2.2 hpE hw⟩
  · intro w p f d1; exact ⟨z_suf d1.1, fun hpE hw => rm_suf hx hT hL hA d1.1 d1.2 hpE hw⟩
  · intro w p v c1 c2; exact ⟨z_slS c1 c2, fun hpE hw => rm_slS hx hT hL hA c1 c2 hpE hw⟩
  · intro w p p1 v a r c1 d1 d2; exact ⟨z_slM c1 d1.1 d2.1, fun hpE hw => rm_slM hx hT hL hA c1 d1.1 d1.2 d2.1 d2.2 hpE hw⟩
  · intro w p p1 v a r c1 d1 d2; exact ⟨z_slD c1 d1.1 d2.1, fun hpE hw => rm_slD hx hT hL hA c1 d1.1 d1.2 d2.1 d2.2 hpE hw⟩
  · intro w p f v c1 d1; exact ⟨z_slF c1 d1.1, fun hpE hw => rm_slF hx hT hL hA c1 d1.1 d1.2 hpE hw⟩
  · intro w p v c1; exact ⟨z_cmN c1, fun hpE hw => rm_cmN hx hT hL hA c1 hpE hw⟩
  · intro w p p1 v a c1 d1; exact ⟨z_cmO c1 d1.1, fun hpE hw => rm_cmO hx hT hL hA c1 d1.1 d1.2 hpE hw⟩
  · intro w p f v c1 d1; exact ⟨z_cmF c1 d1.1, fun hpE hw => rm_cmF hx hT hL hA c1 d1.1 d1.2 hpE hw⟩
  · intro w p p1 a c1 c2 d1; exact ⟨z_unN c1 c2 d1.1, fun hpE hw => rm_unN hx hT hL hA c1 c2 d1.1 d1.2 hpE hw⟩
  · intro w p f c1 c2 d1; exact ⟨z_unNf c1 c2 d1.1, fun hpE hw => rm_unNf hx hT hL hA c1 c2 d1.1 d1.2 hpE hw⟩
  · intro p c1; exact ⟨z_unN6 c1, fun hpE hw => rm_unN6 hx hT hL hA c1 hpE hw⟩
  · intro w p p1 a c1 c2 d1 c3; exact ⟨z_unP c1 c2 d1.1 c3, fun hpE hw => rm_unP hx hT hL hA c1 c2 d1.1 d1.2 c3 hpE hw⟩
  · intro w p p1 a c1 c2 d1 c3; exact ⟨z_unPc c1 c2 d1.1 c3, fun hpE hw => rm_unPc hx hT hL hA c1 c2 d1.1 d1.2 c3 hpE hw⟩
  · intro w p f c1 c2 d1; exact ⟨z_unPf c1 c2 d1.1, fun hpE hw => rm_unPf hx hT hL hA c1 c2 d1.1 d1.2 hpE hw⟩
  · intro p c1; exact ⟨z_unP6 c1, fun hpE hw => rm_unP6 hx hT hL hA c1 hpE hw⟩
  · intro w p p1 a r c1 c2 d1 d2; exact ⟨z_unC c1 c2 d1.1 d2.1, fun hpE hw => rm_unC hx hT hL hA c1 c2 d1.1 d1.2 d2.1 d2.2 hpE hw⟩
  · intro w p f c1 c2 d1; exact ⟨z_unCf c1 c2 d1.1, fun hpE hw => rm_unCf hx hT hL hA c1 c2 d1.1 d1.2 hpE hw⟩
  · intro w p p1 a r d1 d2; exact ⟨z_pa d1.1 d2.1, fun hpE hw => rm_pa hx hT hL hA d1.1 d1.2 d2.1 d2.2 hpE hw⟩
  · intro w p f d1; exact ⟨z_paf d1.1, fun hpE hw => rm_paf hx hT hL hA d1.1 d1.2 hpE hw⟩
  · intro w p p1 v a r d1 d2; exact ⟨z_pb d1.1 d2.1, fun hpE hw => rm_pb hx hT hL hA d1.1 d1.2 d2.1 d2.2 hpE hw⟩
  · intro w p f v d1; exact ⟨z_pbf d1.1, fun hpE hw => rm_pbf hx hT hL hA d1.1 d1.2 hpE hw⟩
  · intro w p v c1; exact ⟨z_plS c1, fun hpE hw => rm_plS hx hT hL hA c1 hpE hw⟩
  · intro w p p1 v a r c1 d1 d2; exact ⟨z_plA c1 d1.1 d2.1, fun hpE hw => rm_plA hx hT hL hA c1 d1.1 d1.2 d2.1 d2.2 hpE hw⟩
  · intro w p f v c1 d1; exact ⟨z_plF c1 d1.1, fun hpE hw => rm_plF hx hT hL hA c1 d1.1 d1.2 hpE hw⟩
  · intro w p p1 a r d1 d2; exact ⟨z_co d1.1 d2.1, fun hpE hw => rm_co hx hT hL hA d1.1 d1.2 d2.1 d2.2 hpE hw⟩
  · intro w p f d1; exact ⟨z_cof d1.1, fun hpE hw => rm_cof hx hT hL hA d1.1 d1.2 hpE hw⟩
  · intro w p p1 v a r d1 d2; exact ⟨z_cp d1.1 d2.1, fun hpE hw => rm_cp hx hT hL hA d1.1 d1.2 d2.1 d2.2 hpE hw⟩
  · intro w p f v d1; exact ⟨z_cpf d1.1, fun hpE hw => rm_cpf hx hT hL hA d1.1 d1.2 hpE hw⟩
  · intro w p v c1; exact ⟨z_qlS c1, fun hpE hw => rm_qlS hx hT hL hA c1 hpE hw⟩
  · intro w p p1 v a r c1 d1 d2; exact ⟨z_qlO c1 d1.1 d2.1, fun hpE hw => rm_qlO hx hT hL hA c1 d1.1 d1.2 d2.1 d2.2 hpE hw⟩
  · intro w p f v c1 d1; exact ⟨z_qlF c1 d1.1, fun hpE hw => rm_qlF hx hT hL hA c1 d1.1 d1.2 hpE hw⟩
