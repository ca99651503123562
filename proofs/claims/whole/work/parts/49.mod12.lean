/-! the reference: odds, all, thing -/
def odL (sp : Nat → Int32) (c : Int32) : Nat → Nat → Int64 → Int32
  | _, 0, a => a.toInt32
  | k, d + 1, a => if 0 ≤ sp k then odL sp c (k + 1) d (if 5 ≤ sp k then a else a - a * c.toInt64 / 100) else 0
def spm (V : (Nat → Int32) → Int32) (s : am_S) (j k : Nat) : Int32 := hbm V s (s 52) j (s 46 (5 * j + 1)) (s 52 (3 * j + 1)) (s 52 (3 * j)) (s 52 35 + nI k) - warm (s 52 32) (s 52 35 + nI k)
def m_odds (V : (Nat → Int32) → Int32) (s : am_S) (t m c : Int32) : Int32 := if isTm s t = true then (if inn m.toInt64 0 12 = true then (if inn c.toInt64 0 100 = true then (if s 52 (3 * cl t + 1) = 0 then 0 else odL (spm V s (cl t)) c 0 (cl m) 1000000000) else -1) else -1) else -1
def vO (V : (Nat → Int32) → Int32) (s : am_S) (x : Int32) (j : Nat) : Int32 := if x = 0 then -(hnm V s (s 52) j) else if x = 1 then s 46 (5 * j + 2) else s 52 (3 * j)
def grF (V : (Nat → Int32) → Int32) (s : am_S) (x : Int32) (i : Nat) (b : Int32) : Int32 := if s 52 (3 * i + 1) = 0 then b else if b = -1 then nI i else if vO V s x i ≤ vO V s x (cl b) then b else nI i
def gR (s : am_S) (y : Nat) (i : Nat) (b : Int32) : Int32 := if s 52 (21 + 2 * i + y) ≤ s 52 (21 + 2 * cl b + y) then b else nI i
theorem vO_m {V : (Nat → Int32) → Int32} {s s' : am_S} (e : eo skM s s') : vO V s' = vO V s := by
  funext x j
  unfold vO
  rw [hnm_m e, eo_cell e 46 (fun _ => rfl), eo_cell e 52 (fun _ => rfl)]
def m_all (V : (Nat → Int32) → Int32) (s : am_S) (T Q : Nat) (x : Int32) : Int32 := if s 39 26 = 0 then -1 else
  if x = 0 then fd (grF V s x) 0 T (-1) else if x = 1 then fd (grF V s x) 0 T (-1) else if x = 2 then fd (grF V s x) 0 T (-1) else
  if x = 3 then fd (gR s 0) 1 (Q - 1) 0 else if x = 4 then fd (gR s 1) 1 (Q - 1) 0 else
  if x = 5 then fd (fun i a => a ||| (if s 52 (3 * i + 1) = 0 then 0 else bt i)) 0 T 0 else
  if x = 6 then fd (fun i a => a ||| (if bitc (s 52 (3 * i + 2)) = 1 then bt i else 0)) 0 T 0 else
  if x = 7 then fd (fun i a => a + s 52 (3 * i + 1)) 0 T 0 else
  if x = 8 then s 52 34 else if x = 9 then rm12 (12 - rm12 (s 52 35)) else -1
def m_thing (V : (Nat → Int32) → Int32) (s : am_S) (t x : Int32) : Int32 := if x = 3 then s 52 (3 * cl t) else if x = 4 then s 52 (3 * cl t + 1) else if x = 5 then s 52 (3 * cl t + 2) else if x = 6 then hnm V s (s 52) (cl t) else s 46 (5 * cl t + cl x)
def okT (s : am_S) (t x : Int32) : Bool := isTm s t && inn x.toInt64 0 6
set_option maxRecDepth 4000 in
theorem c_m_odds {l : Launch} {g : ag_G} {s : am_S} {n : am_N} {MI : am_S → am_N → Prop} {V : (Nat → Int32) → Int32} {T Q : Nat} (hC : MC l g MI V s n T Q) (hr : rwb (s 52) T Q) {t m c : Int32} : aw_R l g mi_X12_odds 102 skM [.ref (g_ad g 39), .int t, .int m, .int c] s n MI (.int (m_odds V (up s 39 0 0) t m c)) ((up s 39 0 0)) := by
  refine aw_R_of mo_X12_odds (by decide) (Nat.le_of_ble_eq_true rfl) ?_
  refine aw_aload_n rfl rfl ?_
  refine aw_iconst (v := 0) rfl (by decide) ?_
  refine pp_39_0 rfl kl_X12_96 ?_
  have hC : MC l g MI V (up s 39 0 0) n T Q := hC.z0
  have hr : rwb ((up s 39 0 0) 52) T Q := hr
  generalize up s 39 0 0 = S at *
  have hT := hC.1.2.1
  obtain ⟨tm, htl, hte⟩ := hr.2.2
  have loop : ∀ (X : Int32) (j M : Nat), j < T → M ≤ 12 → ∀ (d i : Nat) (s1 : am_S) (n1 : am_N) (a : Int64), i + d = M → eo skM S s1 → en n n1 → MI s1 n1 → odL (spm V S j) c i d a = X → aw_W l g mi_X12_odds (aw_rm 102 0 0) (aw_Z g (fun r w => ∃ s' n', r = some (.int X) ∧ w = hp g s' n' ∧ eo skM S s' ∧ en n n' ∧ MI s' n') 0 0) 0 0 (hp g s1 n1) 60 [some (.ref (g_ad g 39)), some (.int (nI j)), some (.int (nI M)), some (.int c), some (.long a), none, some (.int (nI i)), none] [] := by
    intro X j M hj hM d
    obtain ⟨⟨hh, hhl, hhe⟩, dd, hdl, hde⟩ := hC.2.2.2 j hj
    obtain ⟨⟨u, hul, hue⟩, D, hDl, hDe⟩ := hr.1 j hj
    induction d with
    | zero =>
      intro i s1 n1 a hi e1 f1 m1 hX
      refine aw_iload rfl rfl ?_
      refine aw_iload_n rfl rfl ?_
      refine aw_icmp_ge (tgt := 163) rfl (by decide) (fun h63 => ?_) (fun h63 => absurd (nI_le (by omega) (by omega)) h63)
      refine aw_lload rfl rfl ?_
      refine aw_l2i rfl ?_
      exact aw_ri rfl rfl hX e1 f1 m1
    | succ d ih =>
      intro i s1 n1 a hi e1 f1 m1 hX
      have hC1 := hC.eo e1 m1
      have e52 : s1 52 = S 52 := eo_cell e1 52 (fun _ => rfl)
      have e46 : s1 46 = S 46 := eo_cell e1 46 (fun _ => rfl)
      have hr1 : rwb (s1 52) T Q := by rw [e52]; exact hr
      have z := c_m_holdsBy hC1 hr1 hj (a := hh) (b := D) (c := u) (tm := tm + i) (by omega) (by omega) (by omega) (by omega)
      rw [hbm_m e1, e52] at z
      simp only [odL] at hX
      refine aw_iload rfl rfl ?_
      refine aw_iload_n rfl rfl ?_
      refine aw_icmp_ge (tgt := 163) rfl (by decide) (fun h63 => absurd h63 (nI_ge (by omega) (by omega))) (fun h63 => ?_)
      refine aw_aload_n rfl rfl ?_
      refine aw_iload_n rfl rfl ?_
      refine aw_aload_n rfl rfl ?_
      refine aw_iload_n rfl rfl ?_
      refine aw_iconst (v := 1) rfl (by decide) ?_
      refine aw_iV (q0 := 39) (ci := 12) rfl cw_X12_319 rfl rfl rfl (c_m_of (j := j) (c := 1) (by omega) (by decide)) rfl rfl (Nat.le_of_ble_eq_true rfl) (by decide) (by decide) (by decide) (by decide) ?_
      refine aw_aload_n rfl rfl ?_
      refine pg_39_32 rfl kl_X12_61 ?_
      refine aw_iconst (v := 3) rfl (by decide) ?_
      refine aw_iload_n rfl rfl ?_
      refine aw_imul rfl ?_
      refine aw_iconst (v := 1) rfl (by decide) ?_
      refine aw_iadd rfl ?_
      refine pl_52 rfl (i3 j 1) (by omega) ?_
      refine aw_aload_n rfl rfl ?_
      refine pg_39_32 rfl kl_X12_61 ?_
      refine aw_iconst (v := 3) rfl (by decide) ?_
      refine aw_iload_n rfl rfl ?_
      refine aw_imul rfl ?_
      refine aw_iconst (v := 0) rfl (by decide) ?_
      refine aw_iadd rfl ?_
      refine pl_52 rfl (i3 j 0) (by omega) ?_
      refine aw_aload_n rfl rfl ?_
      refine pg_39_32 rfl kl_X12_61 ?_
      refine aw_bipush (v := 35) rfl (by decide) ?_
      refine pl_52 (j := 35) rfl rfl (by decide) ?_
      refine aw_iload rfl rfl ?_
      refine aw_iadd rfl ?_
      refine aw_rV (q0 := 39) (ci := 12) rfl cw_X12_331 rfl rfl rfl ((show aw_R l g mi_X12_holdsBy 101 skM [.ref (g_ad g 39), .int (nI j), .int (s1 46 (5 * j + 1)), .int (s1 52 (3 * j + 1)), .int (s1 52 (3 * j)), .int (s1 52 35 + nI i)] s1 n1 MI (.int (hbm V S (S 52) j (S 46 (5 * j + 1)) (S 52 (3 * j + 1)) (S 52 (3 * j)) (S 52 35 + nI i))) s1 from by (rw [e52, e46, hhe, hDe, hue, hte, nI_add]; exact z))) rfl rfl (Nat.le_of_ble_eq_true rfl) (by decide) (by decide) (by decide) (by decide) (fun s2 n2 e2 f2 m2 => ?_)
      refine aw_aload_n rfl rfl ?_
      refine pg_39_32 rfl kl_X12_61 ?_
      refine aw_bipush (v := 32) rfl (by decide) ?_
      refine pl_52 (j := 32) rfl rfl (by decide) ?_
      refine aw_aload_n rfl rfl ?_
      refine pg_39_32 rfl kl_X12_61 ?_
      refine aw_bipush (v := 35) rfl (by decide) ?_
      refine pl_52 (j := 35) rfl rfl (by decide) ?_
      refine aw_iload rfl rfl ?_
      refine aw_iadd rfl ?_
      refine aw_iS rfl cw_X12_328 (c_m_warmthAt) rfl rfl (Nat.le_of_ble_eq_true rfl) (by decide) (by decide) (by decide) (by decide) ?_
      refine aw_isub rfl ?_
      have hsp : hbm V S (S 52) j (S 46 (5 * j + 1)) (S 52 (3 * j + 1)) (S 52 (3 * j)) (S 52 35 + nI i) - warm (s2 52 32) (s2 52 35 + nI i) = spm V S j i := by (unfold spm; rw [e2 52 32 rfl, e2 52 35 rfl, e52])
      rw [hsp]
      refine aw_istore rfl (by decide) ?_
      refine aw_iload rfl rfl ?_
      refine aw_if_ge (tgt := 137) rfl (by decide) (fun h132 => ?_) (fun h132 => ?_)
      · refine aw_iload rfl rfl ?_
        refine aw_iconst (v := 5) rfl (by decide) ?_
        refine aw_icmp_ge (tgt := 157) rfl (by decide) (fun h140 => ?_) (fun h140 => ?_)
        · refine aw_inc1 rfl rfl (by decide) ?_
          refine aw_goto (tgt := 60) rfl (by decide) ?_
          first
          | exact aw_wk (ih (i + 1) s2 n2 _ (by omega) (eo_tr e1 e2) (en_tr f1 f2) m2 (by rw [if_pos h132, if_pos h140] at hX; exact hX)) (And.intro rfl (And.intro rfl (And.intro rfl (And.intro rfl (And.intro rfl (And.intro (congrArg (fun x => some (Value.int x)) (nI_1 i)) True.intro))))))
          | exact aw_wk (ih (i + 1) s2 n2 _ (by omega) (eo_tr e1 e2) (en_tr f1 f2) m2 (by rw [if_pos h132, if_neg h140] at hX; exact hX)) (And.intro rfl (And.intro rfl (And.intro rfl (And.intro rfl (And.intro rfl (And.intro (congrArg (fun x => some (Value.int x)) (nI_1 i)) True.intro))))))
          | fail "x"
        · refine aw_lload rfl rfl ?_
          refine aw_lload rfl rfl ?_
          refine aw_iload_n rfl rfl ?_
          refine aw_i2l rfl ?_
          refine aw_lmul rfl ?_
          refine aw_ldc2 (v := 100) rfl (aw_t7 113 rfl rfl) ?_
          refine aw_ldiv rfl (by decide) ?_
          refine aw_lsub rfl ?_
          refine aw_lstore rfl (by decide) ?_
          refine aw_inc1 rfl rfl (by decide) ?_
          refine aw_goto (tgt := 60) rfl (by decide) ?_
          first
          | exact aw_wk (ih (i + 1) s2 n2 _ (by omega) (eo_tr e1 e2) (en_tr f1 f2) m2 (by rw [if_pos h132, if_pos h140] at hX; exact hX)) (And.intro rfl (And.intro rfl (And.intro rfl (And.intro rfl (And.intro rfl (And.intro (congrArg (fun x => some (Value.int x)) (nI_1 i)) True.intro))))))
          | exact aw_wk (ih (i + 1) s2 n2 _ (by omega) (eo_tr e1 e2) (en_tr f1 f2) m2 (by rw [if_pos h132, if_neg h140] at hX; exact hX)) (And.intro rfl (And.intro rfl (And.intro rfl (And.intro rfl (And.intro rfl (And.intro (congrArg (fun x => some (Value.int x)) (nI_1 i)) True.intro))))))
          | fail "x"
      · refine aw_iconst (v := 0) rfl (by decide) ?_
        exact aw_ri rfl rfl (by rw [if_neg h132] at hX; exact hX) (eo_tr e1 e2) (en_tr f1 f2) m2
  refine aw_aload_n rfl rfl ?_
  refine aw_iload_n rfl rfl ?_
  refine aw_iV (q0 := 39) (ci := 12) rfl cw_X12_346 rfl rfl rfl (c_m_isThing) rfl rfl (Nat.le_of_ble_eq_true rfl) (by decide) (by decide) (by decide) (by decide) ?_
  refine aw_if_eq (tgt := 37) rfl (by decide) (fun h10 => ?_) (fun h10 => ?_)
  · refine aw_iconst (v := -1) rfl (by decide) ?_
    refine aw_ri rfl rfl ?_ eo_rf en_rf hC.2.2.1
    unfold m_odds
    first
      | (rw [if_neg (by rw [bB_0.mp h10]; exact Bool.false_ne_true)]; done)
      | (rw [if_pos q1, if_neg (by rw [bB_0.mp h22]; exact Bool.false_ne_true)]; done)
      | (rw [if_pos q1, if_pos q2, if_neg (by rw [bB_0.mp h34]; exact Bool.false_ne_true)]; done)
      | fail "x"
  · have q1 := bB_n0.mp h10
    obtain ⟨j, hj, rfl⟩ := isTm_nI hC.1 q1
    have hcj : cl (nI j) = j := cl_nI (by omega)
    refine aw_iload_n rfl rfl ?_
    refine aw_i2l rfl ?_
    refine aw_lconst (v := 0) rfl (by decide) ?_
    refine aw_ldc2 (v := 12) rfl (aw_t7 115 rfl rfl) ?_
    refine aw_iS rfl cw_X12_217 (c_m_isIn) rfl rfl (Nat.le_of_ble_eq_true rfl) (by decide) (by decide) (by decide) (by decide) ?_
    refine aw_if_eq (tgt := 37) rfl (by decide) (fun h22 => ?_) (fun h22 => ?_)
    · refine aw_iconst (v := -1) rfl (by decide) ?_
      refine aw_ri rfl rfl ?_ eo_rf en_rf hC.2.2.1
      unfold m_odds
      first
        | (rw [if_neg (by rw [bB_0.mp h10]; exact Bool.false_ne_true)]; done)
        | (rw [if_pos q1, if_neg (by rw [bB_0.mp h22]; exact Bool.false_ne_true)]; done)
        | (rw [if_pos q1, if_pos q2, if_neg (by rw [bB_0.mp h34]; exact Bool.false_ne_true)]; done)
        | fail "x"
    · have q2 := bB_n0.mp h22
      obtain ⟨M, hM, rfl⟩ := inn_nI (M := 12) (by decide) (by decide) q2
      have hcm : cl (nI M) = M := cl_nI (by omega)
      refine aw_iload_n rfl rfl ?_
      refine aw_i2l rfl ?_
      refine aw_lconst (v := 0) rfl (by decide) ?_
      refine aw_ldc2 (v := 100) rfl (aw_t7 113 rfl rfl) ?_
      refine aw_iS rfl cw_X12_217 (c_m_isIn) rfl rfl (Nat.le_of_ble_eq_true rfl) (by decide) (by decide) (by decide) (by decide) ?_
      refine aw_if_ne (tgt := 39) rfl (by decide) (fun h34 => ?_) (fun h34 => ?_)
      · have q3 := bB_n0.mp h34
        refine aw_aload_n rfl rfl ?_
        refine pg_39_32 rfl kl_X12_61 ?_
        refine aw_iload_n rfl rfl ?_
        refine aw_iS rfl cw_X12_338 (c_m_isOpen_52 (j := j) (by omega)) rfl rfl (Nat.le_of_ble_eq_true rfl) (by decide) (by decide) (by decide) (by decide) ?_
        refine aw_if_eq (tgt := 52) rfl (by decide) (fun h47 => ?_) (fun h47 => ?_)
        · refine aw_ldc2 (v := 1000000000) rfl (aw_t8 100 rfl rfl) ?_
          refine aw_lstore rfl (by decide) ?_
          refine aw_iconst (v := 0) rfl (by decide) ?_
          refine aw_istore rfl (by decide) ?_
          exact aw_wk (loop _ j M hj hM M 0 S n _ (by omega) eo_rf en_rf hC.2.2.1 (by unfold m_odds; rw [if_pos q1, if_pos q2, if_pos q3, hcj, hcm, if_neg (of_decide_eq_false (bB_0.mp h47))])) (And.intro rfl (And.intro rfl (And.intro rfl (And.intro rfl (And.intro rfl (And.intro rfl True.intro))))))
        · refine aw_iconst (v := 0) rfl (by decide) ?_
          exact aw_ri rfl rfl (by unfold m_odds; rw [if_pos q1, if_pos q2, if_pos q3, hcj, if_pos (of_decide_eq_true (bB_n0.mp h47))]) eo_rf en_rf hC.2.2.1
      · refine aw_iconst (v := -1) rfl (by decide) ?_
        refine aw_ri rfl rfl ?_ eo_rf en_rf hC.2.2.1
        unfold m_odds
        first
          | (rw [if_neg (by rw [bB_0.mp h10]; exact Bool.false_ne_true)]; done)
          | (rw [if_pos q1, if_neg (by rw [bB_0.mp h22]; exact Bool.false_ne_true)]; done)
          | (rw [if_pos q1, if_pos q2, if_neg (by rw [bB_0.mp h34]; exact Bool.false_ne_true)]; done)
          | fail "x"
set_option maxRecDepth 4000 in
theorem c_m_valueOf {l : Launch} {g : ag_G} {s : am_S} {n : am_N} {MI : am_S → am_N → Prop} {V : (Nat → Int32) → Int32} {T Q : Nat} (hC : MC l g MI V s n T Q) (hr : rwb (s 52) T Q) {x : Int32} {j : Nat} (hj : j < T) : aw_R l g mi_X12_valueOf 102 skM [.ref (g_ad g 39), .int x, .int (nI j)] s n MI (.int (vO V s x j)) s := by
  have hT := hC.1.2.1
  refine aw_R_of mo_X12_valueOf (by decide) (Nat.le_of_ble_eq_true rfl) ?_
  refine aw_iload_n rfl rfl ?_
  refine aw_sw 0 (fun h1_0 => ?_) (fun h1_0 => ?_)
  · refine aw_look (off := 27) (tgt := 28) rfl (by decide) (by decide) (by decide) ?_
    refine aw_aload_n rfl rfl ?_
    refine aw_aload_n rfl rfl ?_
    refine pg_39_32 rfl kl_X12_61 ?_
    refine aw_iload_n rfl rfl ?_
    refine aw_rV (q0 := 39) (ci := 12) rfl cw_X12_342 rfl rfl rfl (c_m_holds_52 hC hr hj) rfl rfl (Nat.le_of_ble_eq_true rfl) (by decide) (by decide) (by decide) (by decide) (fun s1 n1 e1 f1 m1 => ?_)
    refine aw_ineg rfl ?_
    exact aw_ri rfl rfl (by unfold vO; rw [if_pos h1_0]) e1 f1 m1
  · skip
    refine aw_sw 1 (fun h1_1 => ?_) (fun h1_1 => ?_)
    · refine aw_look (off := 38) (tgt := 39) rfl (by decide) (by decide) (by decide) ?_
      refine aw_aload_n rfl rfl ?_
      refine aw_iload_n rfl rfl ?_
      refine aw_iconst (v := 2) rfl (by decide) ?_
      refine aw_iV (q0 := 39) (ci := 12) rfl cw_X12_319 rfl rfl rfl (c_m_of (j := j) (c := 2) (by omega) (by decide)) rfl rfl (Nat.le_of_ble_eq_true rfl) (by decide) (by decide) (by decide) (by decide) ?_
      exact aw_ri rfl rfl (by unfold vO; rw [if_neg h1_0, if_pos h1_1]) eo_rf en_rf hC.2.2.1
    · skip
      refine aw_look (off := 45) (tgt := 46) rfl (by decide) (by rw [lv_osw h1_0 (by decide)]; rw [lv_osw h1_1 (by decide)]; rfl) (by decide) ?_
      refine aw_aload_n rfl rfl ?_
      refine pg_39_32 rfl kl_X12_61 ?_
      refine aw_iconst (v := 3) rfl (by decide) ?_
      refine aw_iload_n rfl rfl ?_
      refine aw_imul rfl ?_
      refine aw_iconst (v := 0) rfl (by decide) ?_
      refine aw_iadd rfl ?_
      refine pl_52 rfl (i3 j 0) (by omega) ?_
      exact aw_ri rfl rfl (by unfold vO; rw [if_neg h1_0, if_neg h1_1]; rfl) eo_rf en_rf hC.2.2.1
set_option maxRecDepth 4000 in
theorem c_m_greatest {l : Launch} {g : ag_G} {s : am_S} {n : am_N} {MI : am_S → am_N → Prop} {V : (Nat → Int32) → Int32} {T Q : Nat} (hC : MC l g MI V s n T Q) (hr : rwb (s 52) T Q) {x : Int32} : aw_R l g mi_X12_greatest 103 skM [.ref (g_ad g 39), .int x] s n MI (.int (fd (grF V s x) 0 T (-1))) s := by
  have hT := hC.1.2.1
  have hTe := hC.1.1
  obtain ⟨X, hXX⟩ : ∃ z, z = fd (grF V s x) 0 T (-1) := ⟨_, rfl⟩
  rw [← hXX]
  have loop : ∀ (d i : Nat) (s1 : am_S) (n1 : am_N) (b : Int32), i + d = T → eo skM s s1 → en n n1 → MI s1 n1 → (¬ b = -1 → ∃ q, q < T ∧ b = nI q) → fd (grF V s x) i d b = X → aw_W l g mi_X12_greatest (aw_rm 103 0 0) (aw_Z g (fun r w => ∃ s' n', r = some (.int X) ∧ w = hp g s' n' ∧ eo skM s s' ∧ en n n' ∧ MI s' n') 0 0) 0 0 (hp g s1 n1) 4 [some (.ref (g_ad g 39)), some (.int x), some (.int b), some (.int (nI i))] [] := by
    intro d
    induction d with
    | zero =>
      intro i s1 n1 b hi e1 f1 m1 hb hX
      have hT1 : s1 39 26 = nI T := (e1 39 26 rfl).trans hTe
      refine aw_iload_n rfl rfl ?_
      refine aw_aload_n rfl rfl ?_
      refine pg_39_26 rfl kl_X12_291 ?_
      refine aw_icmp_ge (tgt := 51) rfl (by decide) (fun h9 => ?_) (fun h9 => absurd (by rw [hT1]; exact nI_le (by omega) (by omega)) h9)
      refine aw_iload_n rfl rfl ?_
      exact aw_ri rfl rfl hX e1 f1 m1
    | succ d ih =>
      intro i s1 n1 b hi e1 f1 m1 hb hX
      have hT1 : s1 39 26 = nI T := (e1 39 26 rfl).trans hTe
      have hC1 := hC.eo e1 m1
      have e52 : s1 52 = s 52 := eo_cell e1 52 (fun _ => rfl)
      have hr1 : rwb (s1 52) T Q := by rw [e52]; exact hr
      have hbi : ¬ nI i = (-1 : Int32) → ∃ q, q < T ∧ nI i = nI q := fun _ => ⟨i, by omega, rfl⟩
      simp only [fd] at hX
      refine aw_iload_n rfl rfl ?_
      refine aw_aload_n rfl rfl ?_
      refine pg_39_26 rfl kl_X12_291 ?_
      refine aw_icmp_ge (tgt := 51) rfl (by decide) (fun h9 => absurd h9 (by rw [hT1]; exact nI_ge (by omega) (by omega))) (fun h9 => ?_)
      refine aw_aload_n rfl rfl ?_
      refine pg_39_32 rfl kl_X12_61 ?_
      refine aw_iload_n rfl rfl ?_
      refine aw_iS rfl cw_X12_338 (c_m_isOpen_52 (j := i) (by omega)) rfl rfl (Nat.le_of_ble_eq_true rfl) (by decide) (by decide) (by decide) (by decide) ?_
      refine aw_if_ne (tgt := 45) rfl (by decide) (fun h20 => ?_) (fun h20 => ?_)
      · refine aw_inc1 rfl rfl (by decide) ?_
        refine aw_goto (tgt := 4) rfl (by decide) ?_
        first
        | exact aw_wk (ih (i + 1) s1 n1 b (by omega) e1 f1 m1 hb (by rw [show grF V s x i b = b from by (unfold grF; rw [if_pos (by have := of_decide_eq_true (bB_n0.mp h20); rw [e52] at this; exact this)])] at hX; exact hX)) (And.intro rfl (And.intro rfl (And.intro rfl (And.intro (congrArg (fun x => some (Value.int x)) (nI_1 i)) True.intro))))
        | exact aw_wk (ih (i + 1) s1 n1 (nI i) (by omega) e1 f1 m1 hbi (by rw [show grF V s x i b = (nI i) from by (unfold grF; rw [if_neg (by have := of_decide_eq_false (bB_0.mp h20); rw [e52] at this; exact this), if_pos h25])] at hX; exact hX)) (And.intro rfl (And.intro rfl (And.intro rfl (And.intro (congrArg (fun x => some (Value.int x)) (nI_1 i)) True.intro))))
        | exact aw_wk (ih (i + 1) s3 n3 (nI q) (by omega) (eo_tr e1 (eo_tr e2 e3)) (en_tr f1 (en_tr f2 f3)) m3 hb (by rw [show grF V s x i (nI q) = nI q from by (unfold grF; rw [if_neg (by have := of_decide_eq_false (bB_0.mp h20); rw [e52] at this; exact this), if_neg h25, hcq, if_pos (by rw [← congrFun hv2 i, ← congrFun hv3 q]; exact h40)])] at hX; exact hX)) (And.intro rfl (And.intro rfl (And.intro rfl (And.intro (congrArg (fun x => some (Value.int x)) (nI_1 i)) True.intro))))
        | exact aw_wk (ih (i + 1) s3 n3 (nI i) (by omega) (eo_tr e1 (eo_tr e2 e3)) (en_tr f1 (en_tr f2 f3)) m3 hbi (by rw [show grF V s x i (nI q) = (nI i) from by (unfold grF; rw [if_neg (by have := of_decide_eq_false (bB_0.mp h20); rw [e52] at this; exact this), if_neg h25, hcq, if_neg (by rw [← congrFun hv2 i, ← congrFun hv3 q]; exact h40)])] at hX; exact hX)) (And.intro rfl (And.intro rfl (And.intro rfl (And.intro (congrArg (fun x => some (Value.int x)) (nI_1 i)) True.intro))))
        | fail "x"
      · refine aw_iload_n rfl rfl ?_
        refine aw_iconst (v := -1) rfl (by decide) ?_
        refine aw_icmp_eq (tgt := 43) rfl (by decide) (fun h25 => ?_) (fun h25 => ?_)
        · refine aw_iload_n rfl rfl ?_
          refine aw_istore_n rfl (by decide) ?_
          refine aw_inc1 rfl rfl (by decide) ?_
          refine aw_goto (tgt := 4) rfl (by decide) ?_
          first
          | exact aw_wk (ih (i + 1) s1 n1 b (by omega) e1 f1 m1 hb (by rw [show grF V s x i b = b from by (unfold grF; rw [if_pos (by have := of_decide_eq_true (bB_n0.mp h20); rw [e52] at this; exact this)])] at hX; exact hX)) (And.intro rfl (And.intro rfl (And.intro rfl (And.intro (congrArg (fun x => some (Value.int x)) (nI_1 i)) True.intro))))
          | exact aw_wk (ih (i + 1) s1 n1 (nI i) (by omega) e1 f1 m1 hbi (by rw [show grF V s x i b = (nI i) from by (unfold grF; rw [if_neg (by have := of_decide_eq_false (bB_0.mp h20); rw [e52] at this; exact this), if_pos h25])] at hX; exact hX)) (And.intro rfl (And.intro rfl (And.intro rfl (And.intro (congrArg (fun x => some (Value.int x)) (nI_1 i)) True.intro))))
          | exact aw_wk (ih (i + 1) s3 n3 (nI q) (by omega) (eo_tr e1 (eo_tr e2 e3)) (en_tr f1 (en_tr f2 f3)) m3 hb (by rw [show grF V s x i (nI q) = nI q from by (unfold grF; rw [if_neg (by have := of_decide_eq_false (bB_0.mp h20); rw [e52] at this; exact this), if_neg h25, hcq, if_pos (by rw [← congrFun hv2 i, ← congrFun hv3 q]; exact h40)])] at hX; exact hX)) (And.intro rfl (And.intro rfl (And.intro rfl (And.intro (congrArg (fun x => some (Value.int x)) (nI_1 i)) True.intro))))
          | exact aw_wk (ih (i + 1) s3 n3 (nI i) (by omega) (eo_tr e1 (eo_tr e2 e3)) (en_tr f1 (en_tr f2 f3)) m3 hbi (by rw [show grF V s x i (nI q) = (nI i) from by (unfold grF; rw [if_neg (by have := of_decide_eq_false (bB_0.mp h20); rw [e52] at this; exact this), if_neg h25, hcq, if_neg (by rw [← congrFun hv2 i, ← congrFun hv3 q]; exact h40)])] at hX; exact hX)) (And.intro rfl (And.intro rfl (And.intro rfl (And.intro (congrArg (fun x => some (Value.int x)) (nI_1 i)) True.intro))))
          | fail "x"
        · obtain ⟨q, hq, hbq⟩ := hb h25
          have hcq : cl b = q := by rw [hbq]; exact cl_nI (by omega)
          refine aw_aload_n rfl rfl ?_
          refine aw_iload_n rfl rfl ?_
          refine aw_iload_n rfl rfl ?_
          refine aw_rV (q0 := 39) (ci := 12) rfl cw_X12_466 rfl rfl rfl (c_m_valueOf (j := i) hC1 hr1 (by omega)) rfl rfl (Nat.le_of_ble_eq_true rfl) (by decide) (by decide) (by decide) (by decide) (fun s2 n2 e2 f2 m2 => ?_)
          have hC2 := hC1.eo e2 m2
          have hr2 : rwb (s2 52) T Q := by rw [eo_cell e2 52 (fun _ => rfl)]; exact hr1
          have hv2 : vO V s1 x = vO V s x := by (funext y; rw [vO_m e1])
          have hv3 : vO V s2 x = vO V s x := by (funext y; rw [vO_m e2, vO_m e1])
          subst hbq
          refine aw_aload_n rfl rfl ?_
          refine aw_iload_n rfl rfl ?_
          refine aw_iload_n rfl rfl ?_
          refine aw_rV (q0 := 39) (ci := 12) rfl cw_X12_466 rfl rfl rfl (c_m_valueOf (j := q) hC2 hr2 hq) rfl rfl (Nat.le_of_ble_eq_true rfl) (by decide) (by decide) (by decide) (by decide) (fun s3 n3 e3 f3 m3 => ?_)
          refine aw_icmp_le (tgt := 45) rfl (by decide) (fun h40 => ?_) (fun h40 => ?_)
          · refine aw_inc1 rfl rfl (by decide) ?_
            refine aw_goto (tgt := 4) rfl (by decide) ?_
            first
            | exact aw_wk (ih (i + 1) s1 n1 b (by omega) e1 f1 m1 hb (by rw [show grF V s x i b = b from by (unfold grF; rw [if_pos (by have := of_decide_eq_true (bB_n0.mp h20); rw [e52] at this; exact this)])] at hX; exact hX)) (And.intro rfl (And.intro rfl (And.intro rfl (And.intro (congrArg (fun x => some (Value.int x)) (nI_1 i)) True.intro))))
            | exact aw_wk (ih (i + 1) s1 n1 (nI i) (by omega) e1 f1 m1 hbi (by rw [show grF V s x i b = (nI i) from by (unfold grF; rw [if_neg (by have := of_decide_eq_false (bB_0.mp h20); rw [e52] at this; exact this), if_pos h25])] at hX; exact hX)) (And.intro rfl (And.intro rfl (And.intro rfl (And.intro (congrArg (fun x => some (Value.int x)) (nI_1 i)) True.intro))))
            | exact aw_wk (ih (i + 1) s3 n3 (nI q) (by omega) (eo_tr e1 (eo_tr e2 e3)) (en_tr f1 (en_tr f2 f3)) m3 hb (by rw [show grF V s x i (nI q) = nI q from by (unfold grF; rw [if_neg (by have := of_decide_eq_false (bB_0.mp h20); rw [e52] at this; exact this), if_neg h25, hcq, if_pos (by rw [← congrFun hv2 i, ← congrFun hv3 q]; exact h40)])] at hX; exact hX)) (And.intro rfl (And.intro rfl (And.intro rfl (And.intro (congrArg (fun x => some (Value.int x)) (nI_1 i)) True.intro))))
            | exact aw_wk (ih (i + 1) s3 n3 (nI i) (by omega) (eo_tr e1 (eo_tr e2 e3)) (en_tr f1 (en_tr f2 f3)) m3 hbi (by rw [show grF V s x i (nI q) = (nI i) from by (unfold grF; rw [if_neg (by have := of_decide_eq_false (bB_0.mp h20); rw [e52] at this; exact this), if_neg h25, hcq, if_neg (by rw [← congrFun hv2 i, ← congrFun hv3 q]; exact h40)])] at hX; exact hX)) (And.intro rfl (And.intro rfl (And.intro rfl (And.intro (congrArg (fun x => some (Value.int x)) (nI_1 i)) True.intro))))
            | fail "x"
          · refine aw_iload_n rfl rfl ?_
            refine aw_istore_n rfl (by decide) ?_
            refine aw_inc1 rfl rfl (by decide) ?_
            refine aw_goto (tgt := 4) rfl (by decide) ?_
            first
            | exact aw_wk (ih (i + 1) s1 n1 b (by omega) e1 f1 m1 hb (by rw [show grF V s x i b = b from by (unfold grF; rw [if_pos (by have := of_decide_eq_true (bB_n0.mp h20); rw [e52] at this; exact this)])] at hX; exact hX)) (And.intro rfl (And.intro rfl (And.intro rfl (And.intro (congrArg (fun x => some (Value.int x)) (nI_1 i)) True.intro))))
            | exact aw_wk (ih (i + 1) s1 n1 (nI i) (by omega) e1 f1 m1 hbi (by rw [show grF V s x i b = (nI i) from by (unfold grF; rw [if_neg (by have := of_decide_eq_false (bB_0.mp h20); rw [e52] at this; exact this), if_pos h25])] at hX; exact hX)) (And.intro rfl (And.intro rfl (And.intro rfl (And.intro (congrArg (fun x => some (Value.int x)) (nI_1 i)) True.intro))))
            | exact aw_wk (ih (i + 1) s3 n3 (nI q) (by omega) (eo_tr e1 (eo_tr e2 e3)) (en_tr f1 (en_tr f2 f3)) m3 hb (by rw [show grF V s x i (nI q) = nI q from by (unfold grF; rw [if_neg (by have := of_decide_eq_false (bB_0.mp h20); rw [e52] at this; exact this), if_neg h25, hcq, if_pos (by rw [← congrFun hv2 i, ← congrFun hv3 q]; exact h40)])] at hX; exact hX)) (And.intro rfl (And.intro rfl (And.intro rfl (And.intro (congrArg (fun x => some (Value.int x)) (nI_1 i)) True.intro))))
            | exact aw_wk (ih (i + 1) s3 n3 (nI i) (by omega) (eo_tr e1 (eo_tr e2 e3)) (en_tr f1 (en_tr f2 f3)) m3 hbi (by rw [show grF V s x i (nI q) = (nI i) from by (unfold grF; rw [if_neg (by have := of_decide_eq_false (bB_0.mp h20); rw [e52] at this; exact this), if_neg h25, hcq, if_neg (by rw [← congrFun hv2 i, ← congrFun hv3 q]; exact h40)])] at hX; exact hX)) (And.intro rfl (And.intro rfl (And.intro rfl (And.intro (congrArg (fun x => some (Value.int x)) (nI_1 i)) True.intro))))
            | fail "x"
  refine aw_R_of mo_X12_greatest (by decide) (Nat.le_of_ble_eq_true rfl) ?_
  refine aw_iconst (v := -1) rfl (by decide) ?_
  refine aw_istore_n rfl (by decide) ?_
  refine aw_iconst (v := 0) rfl (by decide) ?_
  refine aw_istore_n rfl (by decide) ?_
  exact aw_wk (loop T 0 s n (-1) (by omega) eo_rf en_rf hC.2.2.1 (fun h => absurd rfl h) hXX.symm) (And.intro rfl (And.intro rfl (And.intro rfl (And.intro rfl True.intro))))
set_option maxRecDepth 4000 in
theorem c_m_greatestRing {l : Launch} {g : ag_G} {s : am_S} {n : am_N} {Q y : Nat} (hQe : s 39 27 = nI Q) (hQ : Q ≤ 5) (hy : y ≤ 1) : aw_F l g mi_X12_greatestRing 0 [.ref (g_ad g 39), .int (nI y)] (hp g s n) (.int (fd (gR s y) 1 (Q - 1) 0)) (hp g s n) := by
  obtain ⟨X, hXX⟩ : ∃ z, z = fd (gR s y) 1 (Q - 1) 0 := ⟨_, rfl⟩
  rw [← hXX]
  have loop : ∀ (d i q : Nat), 1 ≤ i → i + d = max 1 Q → q < 5 → fd (gR s y) i d (nI q) = X → aw_W l g mi_X12_greatestRing (aw_rm 0 0 0) (aw_Z g (fun r w => r = some (.int X) ∧ w = hp g s n) 0 0) 0 0 (hp g s n) 4 [some (.ref (g_ad g 39)), some (.int (nI y)), some (.int (nI q)), some (.int (nI i))] [] := by
    intro d
    induction d with
    | zero =>
      intro i q h1 hi hq hX
      refine aw_iload_n rfl rfl ?_
      refine aw_aload_n rfl rfl ?_
      refine pg_39_27 rfl kl_X12_294 ?_
      refine aw_icmp_ge (tgt := 53) rfl (by decide) (fun h9 => ?_) (fun h9 => absurd (by rw [hQe]; exact nI_le (by omega) (by omega)) h9)
      refine aw_iload_n rfl rfl ?_
      exact aw_fi rfl rfl hX rfl
    | succ d ih =>
      intro i q h1 hi hq hX
      have hcq : cl (nI q) = q := cl_nI (by omega)
      simp only [fd] at hX
      refine aw_iload_n rfl rfl ?_
      refine aw_aload_n rfl rfl ?_
      refine pg_39_27 rfl kl_X12_294 ?_
      refine aw_icmp_ge (tgt := 53) rfl (by decide) (fun h9 => absurd h9 (by rw [hQe]; exact nI_ge (by omega) (by omega))) (fun h9 => ?_)
      refine aw_aload_n rfl rfl ?_
      refine pg_39_32 rfl kl_X12_61 ?_
      refine aw_bipush (v := 21) rfl (by decide) ?_
      refine aw_iconst (v := 2) rfl (by decide) ?_
      refine aw_iload_n rfl rfl ?_
      refine aw_imul rfl ?_
      refine aw_iadd rfl ?_
      refine aw_iload_n rfl rfl ?_
      refine aw_iadd rfl ?_
      refine pl_52 rfl (show (21 : Int32) + 2 * nI i + nI y = nI (21 + 2 * i + y) from by (rw [i21]; exact nI_add _ _)) (by omega) ?_
      refine aw_aload_n rfl rfl ?_
      refine pg_39_32 rfl kl_X12_61 ?_
      refine aw_bipush (v := 21) rfl (by decide) ?_
      refine aw_iconst (v := 2) rfl (by decide) ?_
      refine aw_iload_n rfl rfl ?_
      refine aw_imul rfl ?_
      refine aw_iadd rfl ?_
      refine aw_iload_n rfl rfl ?_
      refine aw_iadd rfl ?_
      refine pl_52 rfl (show (21 : Int32) + 2 * nI q + nI y = nI (21 + 2 * q + y) from by (rw [i21]; exact nI_add _ _)) (by omega) ?_
      refine aw_icmp_le (tgt := 45) rfl (by decide) (fun h38 => ?_) (fun h38 => ?_)
      · refine aw_iload_n rfl rfl ?_
        refine aw_istore_n rfl (by decide) ?_
        refine aw_inc1 rfl rfl (by decide) ?_
        refine aw_goto (tgt := 4) rfl (by decide) ?_
        first
        | exact aw_wk (ih (i + 1) q (by omega) (by omega) (by omega) (by rw [show gR s y i (nI q) = nI q from by (unfold gR; rw [hcq, if_pos h38])] at hX; exact hX)) (And.intro rfl (And.intro rfl (And.intro rfl (And.intro (congrArg (fun x => some (Value.int x)) (nI_1 i)) True.intro))))
        | exact aw_wk (ih (i + 1) i (by omega) (by omega) (by omega) (by rw [show gR s y i (nI q) = nI i from by (unfold gR; rw [hcq, if_neg h38])] at hX; exact hX)) (And.intro rfl (And.intro rfl (And.intro rfl (And.intro (congrArg (fun x => some (Value.int x)) (nI_1 i)) True.intro))))
        | fail "x"
      · refine aw_iload_n rfl rfl ?_
        refine aw_goto (tgt := 46) rfl (by decide) ?_
        refine aw_istore_n rfl (by decide) ?_
        refine aw_inc1 rfl rfl (by decide) ?_
        refine aw_goto (tgt := 4) rfl (by decide) ?_
        first
        | exact aw_wk (ih (i + 1) q (by omega) (by omega) (by omega) (by rw [show gR s y i (nI q) = nI q from by (unfold gR; rw [hcq, if_pos h38])] at hX; exact hX)) (And.intro rfl (And.intro rfl (And.intro rfl (And.intro (congrArg (fun x => some (Value.int x)) (nI_1 i)) True.intro))))
        | exact aw_wk (ih (i + 1) i (by omega) (by omega) (by omega) (by rw [show gR s y i (nI q) = nI i from by (unfold gR; rw [hcq, if_neg h38])] at hX; exact hX)) (And.intro rfl (And.intro rfl (And.intro rfl (And.intro (congrArg (fun x => some (Value.int x)) (nI_1 i)) True.intro))))
        | fail "x"
  refine aw_F_of mo_X12_greatestRing (by decide) (Nat.le_of_ble_eq_true rfl) ?_
  refine aw_iconst (v := 0) rfl (by decide) ?_
  refine aw_istore_n rfl (by decide) ?_
  refine aw_iconst (v := 1) rfl (by decide) ?_
  refine aw_istore_n rfl (by decide) ?_
  exact aw_wk (loop (Q - 1) 1 0 (by omega) (by omega) (by omega) hXX.symm) (And.intro rfl (And.intro rfl (And.intro rfl (And.intro rfl True.intro))))
