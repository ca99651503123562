/-! the class takes a read kingdom -/
abbrev Tk := (Nat → Int32) × (Nat → Int32) × (Nat → Int32) × (Nat → Int32)
def tkT (R : Nat → Int32) (t : Nat) (a : Tk) : Tk := (upd a.1 t (R (3 + 5 * t)), upd a.2.1 t (R (3 + 5 * t + 1)), upd a.2.2.1 t (R (3 + 5 * t + 2)), upd (upd (upd a.2.2.2 (5 + t) (R (3 + 5 * t + 3))) (12 + t) (R (3 + 5 * t + 4))) (19 + t) (1 <<< (R (3 + 5 * t) &&& 31)))
def tkQ (R : Nat → Int32) (r : Nat) (f : Nat → Int32) : Nat → Int32 := upd f (26 + r) (R (38 + r))
def tkM (s : am_S) (a : Tk) : am_S := upR (upR (upR (upR s 18 a.1) 19 a.2.1) 20 a.2.2.1) 16 a.2.2.2
def tk0 (s : am_S) (T Q : Nat) : am_S := up (up (up s 15 6 (nI T)) 15 7 (nI Q)) 15 8 (s 4 2)
def tkA (s : am_S) (T : Nat) : Tk := fd (tkT (s 4)) 0 T (s 18, s 19, s 20, upd (upd (zf 36 (s 16)) 0 (s 4 0)) 1 (s 4 1))
def tkS (s : am_S) (T Q : Nat) : am_S := upR (tkM (tk0 s T Q) (tkA s T)) 16 (fd (tkQ (s 4)) 0 Q (tkA s T).2.2.2)
theorem tkM_18 {s : am_S} {a : Tk} {i : Nat} {v : Int32} : up (tkM s a) 18 i v = tkM s (upd a.1 i v, a.2) := by
  unfold tkM
  rw [show up (upR (upR (upR (upR s 18 a.1) 19 a.2.1) 20 a.2.2.1) 16 a.2.2.2) 18 i v = upR (upR (upR (upR (upR s 18 a.1) 19 a.2.1) 20 a.2.2.1) 16 a.2.2.2) 18 (upd a.1 i v) from rfl, upR_sw (k := 16) (k' := 18) rfl rfl, upR_sw (k := 20) (k' := 18) rfl rfl, upR_sw (k := 19) (k' := 18) rfl rfl, upR_upR]
theorem tkM_19 {s : am_S} {a : Tk} {i : Nat} {v : Int32} : up (tkM s a) 19 i v = tkM s (a.1, upd a.2.1 i v, a.2.2) := by
  unfold tkM
  rw [show up (upR (upR (upR (upR s 18 a.1) 19 a.2.1) 20 a.2.2.1) 16 a.2.2.2) 19 i v = upR (upR (upR (upR (upR s 18 a.1) 19 a.2.1) 20 a.2.2.1) 16 a.2.2.2) 19 (upd a.2.1 i v) from rfl, upR_sw (k := 16) (k' := 19) rfl rfl, upR_sw (k := 20) (k' := 19) rfl rfl, upR_upR]
theorem tkM_20 {s : am_S} {a : Tk} {i : Nat} {v : Int32} : up (tkM s a) 20 i v = tkM s (a.1, a.2.1, upd a.2.2.1 i v, a.2.2.2) := by
  unfold tkM
  rw [show up (upR (upR (upR (upR s 18 a.1) 19 a.2.1) 20 a.2.2.1) 16 a.2.2.2) 20 i v = upR (upR (upR (upR (upR s 18 a.1) 19 a.2.1) 20 a.2.2.1) 16 a.2.2.2) 20 (upd a.2.2.1 i v) from rfl, upR_sw (k := 16) (k' := 20) rfl rfl, upR_upR]
theorem tkM_16 {s : am_S} {a : Tk} {i : Nat} {v : Int32} : up (tkM s a) 16 i v = tkM s (a.1, a.2.1, a.2.2.1, upd a.2.2.2 i v) := by
  unfold tkM
  rw [upR_up]
theorem tkM_rf {s : am_S} {f : Nat → Int32} : upR s 16 f = tkM s (s 18, s 19, s 20, f) := by
  unfold tkM
  rw [upR_rf, upR_rf, upR_rf]
theorem kRw1 {t i : Nat} : kRow 1 t + i = 3 + 5 * t + i := by show 3 + t * 5 + i = _; omega
theorem kRw2 {r : Nat} : kRow 2 r + 0 = 38 + r := by show 38 + r * 1 + 0 = _; omega
theorem tk_ord {s : am_S} {T Q : Nat} {f : Nat → Int32} {a b c : Int32} : up (up (up (up (up (upR s 16 f) 15 6 (nI T)) 15 7 (nI Q)) 16 0 a) 16 1 b) 15 8 c = upR (up (up (up s 15 6 (nI T)) 15 7 (nI Q)) 15 8 c) 16 (upd (upd f 0 a) 1 b) := by
  rw [upR_comm (k := 16) (k' := 15) rfl rfl, upR_comm (k := 16) (k' := 15) rfl rfl, upR_up, upR_up, upR_comm (k := 16) (k' := 15) rfl rfl]
set_option maxRecDepth 4000 in
theorem c_X8_takes {l : Launch} {g : ag_G} {s : am_S} {n : am_N} (hx : aw_hx g) {T Q : Nat} (h1 : s 5 1 = nI T) (h2 : s 5 2 = nI Q) (hT : T ≤ 7) (hQ : Q ≤ 5) : aw_V l g mi_X8_takes 1 [.ref (g_ad g 15), .ref (g_ad g 3)] (hp g s n) (hp g (tkS s T Q) n) := by
  have lq : ∀ (d i : Nat) (f : Nat → Int32), i + d = Q → fd (tkQ (s 4)) i d f = fd (tkQ (s 4)) 0 Q (tkA s T).2.2.2 → aw_W l g mi_X8_takes (aw_rm 1 0 0) (aw_Z g (fun r z => r = none ∧ z = hp g (tkS s T Q) n) 0 0) 0 0 (hp g (upR (tkM (tk0 s T Q) (tkA s T)) 16 f) n) 168 [some (.ref (g_ad g 15)), some (.ref (g_ad g 3)), some (.int (nI i))] [] := by
    intro d
    induction d with
    | zero =>
      intro i f hi hX
      simp only [fd] at hX
      subst hX
      refine aw_iload_n rfl rfl ?_
      refine aw_aload_n rfl rfl ?_
      refine pg_15_7 rfl kl_X8_47 ?_
      refine aw_icmp_ge (tgt := 198) rfl (by decide) (fun h173 => ?_) (fun h173 => absurd (nI_le (a := Q) (b := i) (by omega) (by omega)) h173)
      exact aw_fv rfl rfl rfl
    | succ d ih =>
      intro i f hi hX
      simp only [fd] at hX
      refine aw_iload_n rfl rfl ?_
      refine aw_aload_n rfl rfl ?_
      refine pg_15_7 rfl kl_X8_47 ?_
      refine aw_icmp_ge (tgt := 198) rfl (by decide) (fun h173 => absurd h173 (nI_ge (a := i) (b := Q) (by omega) (by omega))) (fun h173 => ?_)
      refine aw_aload_n rfl rfl ?_
      refine pg_15_1 rfl kl_X8_11 ?_
      refine aw_bipush (v := 26) rfl (by decide) ?_
      refine aw_iload_n rfl rfl ?_
      refine aw_iadd rfl ?_
      refine aw_aload_n rfl rfl ?_
      refine aw_iconst (v := 2) rfl (by decide) ?_
      refine aw_iload_n rfl rfl ?_
      refine aw_iconst (v := 0) rfl (by decide) ?_
      refine aw_iV (q0 := 3) (ci := 4) rfl cw_X8_50 rfl rfl rfl (c_X4_item hx (k := 2) (c := i) (i := 0) (by decide) (show i < 5 by omega) (by decide)) rfl rfl (Nat.le_of_ble_eq_true rfl) (by decide) (by decide) (by decide) (by decide) ?_
      refine ps_16 (j := 26 + i) rfl (nI_add 26 i) (by omega) ?_
      refine aw_eqs (ws' := hp g (upR (tkM (tk0 s T Q) (tkA s T)) 16 (tkQ (s 4) i f)) n) ?_ rfl rfl (congrArg (fun z => hp g z n) (by (rw [upR_up]; unfold tkQ; rw [kRw2]; rfl)))
      refine aw_inc1 rfl rfl (by decide) ?_
      refine aw_goto (tgt := 168) rfl (by decide) ?_
      exact aw_wk (ih (i + 1) _ (by omega) hX) (And.intro rfl (And.intro rfl (And.intro (congrArg (fun x => some (Value.int x)) (nI_1 i)) True.intro)))
  have lt : ∀ (d i : Nat) (a : Tk), i + d = T → fd (tkT (s 4)) i d a = tkA s T → aw_W l g mi_X8_takes (aw_rm 1 0 0) (aw_Z g (fun r z => r = none ∧ z = hp g (tkS s T Q) n) 0 0) 0 0 (hp g (tkM (tk0 s T Q) a) n) 65 [some (.ref (g_ad g 15)), some (.ref (g_ad g 3)), some (.int (nI i))] [] := by
    intro d
    induction d with
    | zero =>
      intro i a hi hX
      simp only [fd] at hX
      subst hX
      refine aw_iload_n rfl rfl ?_
      refine aw_aload_n rfl rfl ?_
      refine pg_15_6 rfl kl_X8_43 ?_
      refine aw_icmp_ge (tgt := 166) rfl (by decide) (fun h70 => ?_) (fun h70 => absurd (nI_le (a := T) (b := i) (by omega) (by omega)) h70)
      refine aw_iconst (v := 0) rfl (by decide) ?_
      refine aw_istore_n rfl (by decide) ?_
      have hz := lq Q 0 (tkA s T).2.2.2 (by omega) rfl
      rw [show upR (tkM (tk0 s T Q) (tkA s T)) 16 (tkA s T).2.2.2 = tkM (tk0 s T Q) (tkA s T) from by (unfold tkM; rw [upR_upR])] at hz
      exact aw_wk hz (And.intro rfl (And.intro rfl (And.intro rfl True.intro)))
    | succ d ih =>
      intro i a hi hX
      simp only [fd] at hX
      refine aw_iload_n rfl rfl ?_
      refine aw_aload_n rfl rfl ?_
      refine pg_15_6 rfl kl_X8_43 ?_
      refine aw_icmp_ge (tgt := 166) rfl (by decide) (fun h70 => absurd h70 (nI_ge (a := i) (b := T) (by omega) (by omega))) (fun h70 => ?_)
      refine aw_aload_n rfl rfl ?_
      refine pg_15_3 rfl kl_X8_18 ?_
      refine aw_iload_n rfl rfl ?_
      refine aw_aload_n rfl rfl ?_
      refine aw_iconst (v := 1) rfl (by decide) ?_
      refine aw_iload_n rfl rfl ?_
      refine aw_iconst (v := 0) rfl (by decide) ?_
      refine aw_iV (q0 := 3) (ci := 4) rfl cw_X8_50 rfl rfl rfl (c_X4_item hx (k := 1) (c := i) (i := 0) (by decide) (show i < 7 by omega) (by decide)) rfl rfl (Nat.le_of_ble_eq_true rfl) (by decide) (by decide) (by decide) (by decide) ?_
      refine ps_18 (j := i) rfl rfl (by omega) ?_
      refine aw_eqs (ws' := hp g (tkM (tk0 s T Q) ((upd a.1 i (s 4 (kRow 1 i + 0))), a.2)) n) ?_ rfl rfl (congrArg (fun z => hp g z n) (tkM_18))
      refine aw_aload_n rfl rfl ?_
      refine pg_15_4 rfl kl_X8_21 ?_
      refine aw_iload_n rfl rfl ?_
      refine aw_aload_n rfl rfl ?_
      refine aw_iconst (v := 1) rfl (by decide) ?_
      refine aw_iload_n rfl rfl ?_
      refine aw_iconst (v := 1) rfl (by decide) ?_
      refine aw_iV (q0 := 3) (ci := 4) rfl cw_X8_50 rfl rfl rfl (c_X4_item hx (k := 1) (c := i) (i := 1) (by decide) (show i < 7 by omega) (by decide)) rfl rfl (Nat.le_of_ble_eq_true rfl) (by decide) (by decide) (by decide) (by decide) ?_
      refine ps_19 (j := i) rfl rfl (by omega) ?_
      refine aw_eqs (ws' := hp g (tkM (tk0 s T Q) ((upd a.1 i (s 4 (kRow 1 i + 0))), (upd a.2.1 i (s 4 (kRow 1 i + 1))), a.2.2)) n) ?_ rfl rfl (congrArg (fun z => hp g z n) (tkM_19))
      refine aw_aload_n rfl rfl ?_
      refine pg_15_5 rfl kl_X8_24 ?_
      refine aw_iload_n rfl rfl ?_
      refine aw_aload_n rfl rfl ?_
      refine aw_iconst (v := 1) rfl (by decide) ?_
      refine aw_iload_n rfl rfl ?_
      refine aw_iconst (v := 2) rfl (by decide) ?_
      refine aw_iV (q0 := 3) (ci := 4) rfl cw_X8_50 rfl rfl rfl (c_X4_item hx (k := 1) (c := i) (i := 2) (by decide) (show i < 7 by omega) (by decide)) rfl rfl (Nat.le_of_ble_eq_true rfl) (by decide) (by decide) (by decide) (by decide) ?_
      refine ps_20 (j := i) rfl rfl (by omega) ?_
      refine aw_eqs (ws' := hp g (tkM (tk0 s T Q) ((upd a.1 i (s 4 (kRow 1 i + 0))), (upd a.2.1 i (s 4 (kRow 1 i + 1))), (upd a.2.2.1 i (s 4 (kRow 1 i + 2))), a.2.2.2)) n) ?_ rfl rfl (congrArg (fun z => hp g z n) (tkM_20))
      refine aw_aload_n rfl rfl ?_
      refine pg_15_1 rfl kl_X8_11 ?_
      refine aw_iconst (v := 5) rfl (by decide) ?_
      refine aw_iload_n rfl rfl ?_
      refine aw_iadd rfl ?_
      refine aw_aload_n rfl rfl ?_
      refine aw_iconst (v := 1) rfl (by decide) ?_
      refine aw_iload_n rfl rfl ?_
      refine aw_iconst (v := 3) rfl (by decide) ?_
      refine aw_iV (q0 := 3) (ci := 4) rfl cw_X8_50 rfl rfl rfl (c_X4_item hx (k := 1) (c := i) (i := 3) (by decide) (show i < 7 by omega) (by decide)) rfl rfl (Nat.le_of_ble_eq_true rfl) (by decide) (by decide) (by decide) (by decide) ?_
      refine ps_16 (j := 5 + i) rfl (nI_add 5 i) (by omega) ?_
      refine aw_eqs (ws' := hp g (tkM (tk0 s T Q) ((upd a.1 i (s 4 (kRow 1 i + 0))), (upd a.2.1 i (s 4 (kRow 1 i + 1))), (upd a.2.2.1 i (s 4 (kRow 1 i + 2))), (upd a.2.2.2 (5 + i) (s 4 (kRow 1 i + 3))))) n) ?_ rfl rfl (congrArg (fun z => hp g z n) (tkM_16))
      refine aw_aload_n rfl rfl ?_
      refine pg_15_1 rfl kl_X8_11 ?_
      refine aw_bipush (v := 12) rfl (by decide) ?_
      refine aw_iload_n rfl rfl ?_
      refine aw_iadd rfl ?_
      refine aw_aload_n rfl rfl ?_
      refine aw_iconst (v := 1) rfl (by decide) ?_
      refine aw_iload_n rfl rfl ?_
      refine aw_iconst (v := 4) rfl (by decide) ?_
      refine aw_iV (q0 := 3) (ci := 4) rfl cw_X8_50 rfl rfl rfl (c_X4_item hx (k := 1) (c := i) (i := 4) (by decide) (show i < 7 by omega) (by decide)) rfl rfl (Nat.le_of_ble_eq_true rfl) (by decide) (by decide) (by decide) (by decide) ?_
      refine ps_16 (j := 12 + i) rfl (nI_add 12 i) (by omega) ?_
      refine aw_eqs (ws' := hp g (tkM (tk0 s T Q) ((upd a.1 i (s 4 (kRow 1 i + 0))), (upd a.2.1 i (s 4 (kRow 1 i + 1))), (upd a.2.2.1 i (s 4 (kRow 1 i + 2))), (upd (upd a.2.2.2 (5 + i) (s 4 (kRow 1 i + 3))) (12 + i) (s 4 (kRow 1 i + 4))))) n) ?_ rfl rfl (congrArg (fun z => hp g z n) (tkM_16))
      refine aw_aload_n rfl rfl ?_
      refine pg_15_1 rfl kl_X8_11 ?_
      refine aw_bipush (v := 19) rfl (by decide) ?_
      refine aw_iload_n rfl rfl ?_
      refine aw_iadd rfl ?_
      refine aw_iconst (v := 1) rfl (by decide) ?_
      refine aw_aload_n rfl rfl ?_
      refine pg_15_3 rfl kl_X8_18 ?_
      refine aw_iload_n rfl rfl ?_
      refine pl_18 (j := i) rfl rfl (by omega) ?_
      rw [show tkM (tk0 s T Q) ((upd a.1 i (s 4 (kRow 1 i + 0))), (upd a.2.1 i (s 4 (kRow 1 i + 1))), (upd a.2.2.1 i (s 4 (kRow 1 i + 2))), (upd (upd a.2.2.2 (5 + i) (s 4 (kRow 1 i + 3))) (12 + i) (s 4 (kRow 1 i + 4)))) 18 i = s 4 (kRow 1 i + 0) from upd_s]
      refine aw_ishl rfl ?_
      refine ps_16 (j := 19 + i) rfl (nI_add 19 i) (by omega) ?_
      refine aw_eqs (ws' := hp g (tkM (tk0 s T Q) ((upd a.1 i (s 4 (kRow 1 i + 0))), (upd a.2.1 i (s 4 (kRow 1 i + 1))), (upd a.2.2.1 i (s 4 (kRow 1 i + 2))), (upd (upd (upd a.2.2.2 (5 + i) (s 4 (kRow 1 i + 3))) (12 + i) (s 4 (kRow 1 i + 4))) (19 + i) (1 <<< (s 4 (kRow 1 i + 0) &&& 31))))) n) ?_ rfl rfl (congrArg (fun z => hp g z n) (tkM_16))
      refine aw_inc1 rfl rfl (by decide) ?_
      refine aw_goto (tgt := 65) rfl (by decide) ?_
      rw [show ((upd a.1 i (s 4 (kRow 1 i + 0))), (upd a.2.1 i (s 4 (kRow 1 i + 1))), (upd a.2.2.1 i (s 4 (kRow 1 i + 2))), (upd (upd (upd a.2.2.2 (5 + i) (s 4 (kRow 1 i + 3))) (12 + i) (s 4 (kRow 1 i + 4))) (19 + i) (1 <<< (s 4 (kRow 1 i + 0) &&& 31)))) = tkT (s 4) i a from by (unfold tkT; rw [kRw1, kRw1, kRw1, kRw1, kRw1]; rfl)]
      exact aw_wk (ih (i + 1) _ (by omega) hX) (And.intro rfl (And.intro rfl (And.intro (congrArg (fun x => some (Value.int x)) (nI_1 i)) True.intro)))
  refine aw_V_of mo_X8_takes (by decide) (Nat.le_of_ble_eq_true rfl) ?_
  refine aw_aload_n rfl rfl ?_
  refine pg_15_1 rfl kl_X8_11 ?_
  refine aw_iconst (v := 0) rfl (by decide) ?_
  refine aw_vS rfl cw_X8_31 (c_fill_16) rfl rfl (Nat.le_of_ble_eq_true rfl) (by decide) (by decide) (by decide) (by decide) ?_
  refine aw_aload_n rfl rfl ?_
  refine aw_aload_n rfl rfl ?_
  refine aw_iconst (v := 1) rfl (by decide) ?_
  refine aw_iV (q0 := 3) (ci := 4) rfl cw_X8_39 rfl rfl rfl (c_X4_clausesOf (k := 1) (by decide)) rfl rfl (Nat.le_of_ble_eq_true rfl) (by decide) (by decide) (by decide) (by decide) ?_
  rw [show upR s 16 (zf 36 (s 16)) 5 1 = nI T from h1]
  refine pp_15_6 rfl kl_X8_43 ?_
  refine aw_aload_n rfl rfl ?_
  refine aw_aload_n rfl rfl ?_
  refine aw_iconst (v := 2) rfl (by decide) ?_
  refine aw_iV (q0 := 3) (ci := 4) rfl cw_X8_39 rfl rfl rfl (c_X4_clausesOf (k := 2) (by decide)) rfl rfl (Nat.le_of_ble_eq_true rfl) (by decide) (by decide) (by decide) (by decide) ?_
  rw [show up (upR s 16 (zf 36 (s 16))) 15 6 (nI T) 5 2 = nI Q from h2]
  refine pp_15_7 rfl kl_X8_47 ?_
  refine aw_aload_n rfl rfl ?_
  refine pg_15_1 rfl kl_X8_11 ?_
  refine aw_iconst (v := 0) rfl (by decide) ?_
  refine aw_aload_n rfl rfl ?_
  refine aw_iconst (v := 0) rfl (by decide) ?_
  refine aw_iconst (v := 0) rfl (by decide) ?_
  refine aw_iconst (v := 0) rfl (by decide) ?_
  refine aw_iV (q0 := 3) (ci := 4) rfl cw_X8_50 rfl rfl rfl (c_X4_item hx (k := 0) (c := 0) (i := 0) (by decide) (by decide) (by decide)) rfl rfl (Nat.le_of_ble_eq_true rfl) (by decide) (by decide) (by decide) (by decide) ?_
  refine ps_16 (j := 0) rfl rfl (by decide) ?_
  refine aw_aload_n rfl rfl ?_
  refine pg_15_1 rfl kl_X8_11 ?_
  refine aw_iconst (v := 1) rfl (by decide) ?_
  refine aw_aload_n rfl rfl ?_
  refine aw_iconst (v := 0) rfl (by decide) ?_
  refine aw_iconst (v := 0) rfl (by decide) ?_
  refine aw_iconst (v := 1) rfl (by decide) ?_
  refine aw_iV (q0 := 3) (ci := 4) rfl cw_X8_50 rfl rfl rfl (c_X4_item hx (k := 0) (c := 0) (i := 1) (by decide) (by decide) (by decide)) rfl rfl (Nat.le_of_ble_eq_true rfl) (by decide) (by decide) (by decide) (by decide) ?_
  refine ps_16 (j := 1) rfl rfl (by decide) ?_
  refine aw_aload_n rfl rfl ?_
  refine aw_aload_n rfl rfl ?_
  refine aw_iconst (v := 0) rfl (by decide) ?_
  refine aw_iconst (v := 0) rfl (by decide) ?_
  refine aw_iconst (v := 2) rfl (by decide) ?_
  refine aw_iV (q0 := 3) (ci := 4) rfl cw_X8_50 rfl rfl rfl (c_X4_item hx (k := 0) (c := 0) (i := 2) (by decide) (by decide) (by decide)) rfl rfl (Nat.le_of_ble_eq_true rfl) (by decide) (by decide) (by decide) (by decide) ?_
  refine pp_15_8 rfl kl_X8_54 ?_
  refine aw_iconst (v := 0) rfl (by decide) ?_
  refine aw_istore_n rfl (by decide) ?_
  have hz := lt T 0 (s 18, s 19, s 20, upd (upd (zf 36 (s 16)) 0 (s 4 0)) 1 (s 4 1)) (by omega) rfl
  refine aw_eqs (aw_wk hz (And.intro rfl (And.intro rfl (And.intro rfl True.intro)))) rfl rfl (congrArg (fun z => hp g z n) ?_)
  refine Eq.trans ?_ (tkM_rf (s := tk0 s T Q) (f := upd (upd (zf 36 (s 16)) 0 (s 4 0)) 1 (s 4 1)))
  exact tk_ord
def bgS (s : am_S) (T Q : Nat) : am_S := up (up (up (tkS s T Q) 21 4 0) 21 7 0) 32 4 0
theorem c_X11_beginsKingdom {l : Launch} {g : ag_G} {s : am_S} {n : am_N} (hx : aw_hx g) {T Q : Nat} (h1 : s 5 1 = nI T) (h2 : s 5 2 = nI Q) (hT : T ≤ 7) (hQ : Q ≤ 5) : aw_V l g mi_X11_beginsKingdom 2 [.ref (g_ad g 0)] (hp g s n) (hp g (bgS s T Q) n) := by
  refine aw_V_of mo_X11_beginsKingdom (by decide) (Nat.le_of_ble_eq_true rfl) ?_
  refine aw_aload_n rfl rfl ?_
  refine pg_0_8 rfl kl_X11_57 ?_
  refine aw_aload_n rfl rfl ?_
  refine pg_0_1 rfl kl_X11_21 ?_
  refine aw_vV (q0 := 15) (ci := 8) rfl cw_X11_138 rfl rfl rfl (c_X8_takes hx h1 h2 hT hQ) rfl rfl (Nat.le_of_ble_eq_true rfl) (by decide) (by decide) (by decide) (by decide) ?_
  refine aw_aload_n rfl rfl ?_
  refine pg_0_9 rfl kl_X11_64 ?_
  refine aw_vV (q0 := 21) (ci := 0) rfl cw_X11_142 rfl rfl rfl (c_X0_forgets) rfl rfl (Nat.le_of_ble_eq_true rfl) (by decide) (by decide) (by decide) (by decide) ?_
  refine aw_aload_n rfl rfl ?_
  refine pg_0_11 rfl kl_X11_80 ?_
  refine aw_iconst (v := 0) rfl (by decide) ?_
  refine pp_32_4 rfl kl_X11_145 ?_
  exact aw_fv rfl rfl rfl
