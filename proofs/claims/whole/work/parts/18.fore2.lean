def tb (x : Int32) (i : Nat) : Bool := !decide ((x >>> (nI i &&& 31)) &&& 1 = 0)
theorem tb_f {x : Int32} {i : Nat} (h : (x >>> (nI i &&& 31)) &&& 1 = 0) : tb x i = false := by unfold tb; rw [h]; rfl
theorem tb_t {x : Int32} {i : Nat} (h : ¬ (x >>> (nI i &&& 31)) &&& 1 = 0) : tb x i = true := by unfold tb; rw [decide_eq_false h]; rfl
theorem sh1 {T : Nat} (h : T ≤ 7) : (1 : Int32) <<< (nI T &&& 31) = nI (2 ^ T) := by
  rcases T with _ | _ | _ | _ | _ | _ | _ | _ | T
  all_goals first | decide | omega
def wsum (f : Nat → Int32) (b : Nat → Bool) : Nat → Nat → Int32 → Option Int32
  | _, 0, a => some a
  | i, d + 1, a => if b i then (if f i = -1 then none else wsum f b (i + 1) d (a + f i)) else wsum f b (i + 1) d a
def wF (V : (Nat → Int32) → Int32) (s : am_S) (T : Nat) (set : Int32) (m : Nat) (t : Int32) : Int32 := match wsum (fun i => wN V s i m) (tb set) 0 T 0 with
  | none => -1
  | some a => if isT s t = true then wN V s (cl t) m else a
def dK (s : am_S) (T : Nat) (f : Nat → Int32) (set : Int32) : Int32 := if (fd (fun i (a : Int32 × Int32) => if tb set i then (a.1 + f i, a.2 + s 20 i) else a) 0 T (0, 0)).1 ≤ s 16 0 then (fd (fun i (a : Int32 × Int32) => if tb set i then (a.1 + f i, a.2 + s 20 i) else a) 0 T (0, 0)).2 else -1
def pH (V : (Nat → Int32) → Int32) (s : am_S) (j : Nat) (ch : Int32) : Nat → Nat → Int64 → Option Int64
  | _, 0, a => some a
  | i, d + 1, a => if hd V s j (s 19 j) (s 16 (12 + j)) (s 16 (5 + j)) (s 16 4 + nI i) - warm (s 16 1) (s 16 4 + nI i) < 0 then none else if hd V s j (s 19 j) (s 16 (12 + j)) (s 16 (5 + j)) (s 16 4 + nI i) - warm (s 16 1) (s 16 4 + nI i) < 5 then pH V s j ch (i + 1) d (a - a * ch.toInt64 / 100) else pH V s j ch (i + 1) d a
def pHr : Option Int64 → Int32
  | none => 0
  | some a => a.toInt32
def pT (V : (Nat → Int32) → Int32) (s : am_S) (j m : Nat) (ch : Int32) : Int32 := if sl s (nI j) = true then pHr (pH V s j ch 0 m 1000000000) else 0

set_option maxRecDepth 4000 in
theorem c_X3_depthKept {l : Launch} {g : ag_G} {s : am_S} {n : am_N} {set : Int32} {T Q : Nat} (hb : kb s T Q) : aw_F l g mi_X3_depthKept 1 [.ref (g_ad g 27), .int set] (hp g s n) (.int (dK s T (s 28) set)) (hp g s n) := by
  have hT := hb.2.1
  unfold dK
  generalize hXX : fd (fun i (a : Int32 × Int32) => if tb set i then (a.1 + s 28 i, a.2 + s 20 i) else a) 0 T (0, 0) = X
  have loop : ∀ (d i : Nat) (a : Int32 × Int32), i + d = T → fd (fun i (a : Int32 × Int32) => if tb set i then (a.1 + s 28 i, a.2 + s 20 i) else a) i d a = X → aw_W l g mi_X3_depthKept (aw_rm 1 0 0) (aw_Z g (fun r w => r = some (.int (if X.1 ≤ s 16 0 then X.2 else -1)) ∧ w = hp g s n) 0 0) 0 0 (hp g s n) 7 [some (.ref (g_ad g 27)), some (.int set), some (.int a.1), some (.int a.2), some (.int (nI i))] [] := by
    intro d
    induction d with
    | zero =>
      intro i a hi hX
      refine aw_iload rfl rfl ?_
      refine aw_aload_n rfl rfl ?_
      refine pg_27_0 rfl kl_X3_26 ?_
      refine pg_15_6 rfl kl_X3_48 ?_
      refine aw_icmp_ge (tgt := 57) rfl (by decide) (fun h16 => ?_) (fun h16 => absurd (by rw [hb.1]; exact nI_le (by omega) (by omega)) h16)
      refine aw_iload_n rfl rfl ?_
      refine aw_aload_n rfl rfl ?_
      refine pg_27_0 rfl kl_X3_26 ?_
      refine pg_15_1 rfl kl_X3_38 ?_
      refine aw_iconst (v := 0) rfl (by decide) ?_
      refine pl_16 (j := 0) rfl rfl (by decide) ?_
      refine aw_icmp_le (tgt := 74) rfl (by decide) (fun h67 => ?_) (fun h67 => ?_)
      · refine aw_iload_n rfl rfl ?_
        exact aw_fi rfl rfl (by have hx : a = X := hX; rw [← hx]; simp [h67]) rfl
      · refine aw_iconst (v := -1) rfl (by decide) ?_
        refine aw_goto (tgt := 75) rfl (by decide) ?_
        exact aw_fi rfl rfl (by have hx : a = X := hX; rw [← hx]; simp [h67]) rfl
    | succ d ih =>
      intro i a hi hX
      refine aw_iload rfl rfl ?_
      refine aw_aload_n rfl rfl ?_
      refine pg_27_0 rfl kl_X3_26 ?_
      refine pg_15_6 rfl kl_X3_48 ?_
      refine aw_icmp_ge (tgt := 57) rfl (by decide) (fun h16 => absurd h16 (by rw [hb.1]; exact nI_ge (by omega) (by omega))) (fun h16 => ?_)
      refine aw_iload_n rfl rfl ?_
      refine aw_iload rfl rfl ?_
      refine aw_ishr rfl ?_
      refine aw_iconst (v := 1) rfl (by decide) ?_
      refine aw_iand rfl ?_
      refine aw_if_eq (tgt := 51) rfl (by decide) (fun h25 => ?_) (fun h25 => ?_)
      · refine aw_inc1 rfl rfl (by decide) ?_
        refine aw_goto (tgt := 7) rfl (by decide) ?_
        first
          | (refine aw_wk (ih (i + 1) a (by omega) ?_) (And.intro rfl (And.intro rfl (And.intro rfl (And.intro rfl (And.intro (congrArg (fun x => some (Value.int x)) (nI_1 i)) True.intro))))); exact Eq.trans (congrArg (fd _ (i + 1) d) (by first | (simp [tb_f h25]; done) | simp [tb_t h25])) hX)
          | (refine aw_wk (ih (i + 1) (a.1 + s 28 i, a.2 + s 20 i) (by omega) ?_) (And.intro rfl (And.intro rfl (And.intro rfl (And.intro rfl (And.intro (congrArg (fun x => some (Value.int x)) (nI_1 i)) True.intro))))); exact Eq.trans (congrArg (fd _ (i + 1) d) (by first | (simp [tb_f h25]; done) | simp [tb_t h25])) hX)
      · refine aw_iload_n rfl rfl ?_
        refine aw_aload_n rfl rfl ?_
        refine pg_27_1 rfl kl_X3_13 ?_
        refine aw_iload rfl rfl ?_
        refine pl_28 rfl rfl (by omega) ?_
        refine aw_iadd rfl ?_
        refine aw_istore_n rfl (by decide) ?_
        refine aw_iload_n rfl rfl ?_
        refine aw_aload_n rfl rfl ?_
        refine pg_27_0 rfl kl_X3_26 ?_
        refine pg_15_5 rfl kl_X3_67 ?_
        refine aw_iload rfl rfl ?_
        refine pl_20 rfl rfl (by omega) ?_
        refine aw_iadd rfl ?_
        refine aw_istore_n rfl (by decide) ?_
        refine aw_inc1 rfl rfl (by decide) ?_
        refine aw_goto (tgt := 7) rfl (by decide) ?_
        first
          | (refine aw_wk (ih (i + 1) a (by omega) ?_) (And.intro rfl (And.intro rfl (And.intro rfl (And.intro rfl (And.intro (congrArg (fun x => some (Value.int x)) (nI_1 i)) True.intro))))); exact Eq.trans (congrArg (fd _ (i + 1) d) (by first | (simp [tb_f h25]; done) | simp [tb_t h25])) hX)
          | (refine aw_wk (ih (i + 1) (a.1 + s 28 i, a.2 + s 20 i) (by omega) ?_) (And.intro rfl (And.intro rfl (And.intro rfl (And.intro rfl (And.intro (congrArg (fun x => some (Value.int x)) (nI_1 i)) True.intro))))); exact Eq.trans (congrArg (fd _ (i + 1) d) (by first | (simp [tb_f h25]; done) | simp [tb_t h25])) hX)
  refine aw_F_of mo_X3_depthKept (by decide) (Nat.le_of_ble_eq_true rfl) ?_
  refine aw_iconst (v := 0) rfl (by decide) ?_
  refine aw_istore_n rfl (by decide) ?_
  refine aw_iconst (v := 0) rfl (by decide) ?_
  refine aw_istore_n rfl (by decide) ?_
  refine aw_iconst (v := 0) rfl (by decide) ?_
  refine aw_istore rfl (by decide) ?_
  refine aw_wk (loop T 0 (0, 0) (by omega) hXX) (And.intro rfl (And.intro rfl (And.intro rfl (And.intro rfl (And.intro rfl True.intro)))))
set_option maxRecDepth 4000 in
theorem c_X3_waxFor {l : Launch} {g : ag_G} {s : am_S} {n : am_N} {set t : Int32} {m : Nat} {T Q : Nat} (hb : kb s T Q) (hvb : vb s T) (hm : m < 2 ^ 31) (ht : isT s t = true → tb set (cl t) = true) {V : (Nat → Int32) → Int32} (hV : LawIs l g s n V) : aw_E l g mi_X3_waxFor 7 skF [.ref (g_ad g 27), .int set, .int (nI m), .int t] s n (.int (wF V s T set m t)) := by
  have hT := hb.2.1
  unfold wF
  generalize hXX : wsum (fun i => wN V s i m) (tb set) 0 T 0 = X
  have loop : ∀ (d i : Nat) (a : Int32) (s1 : am_S), eo skF s s1 → (∀ q, q < i → tb set q = true → s1 28 q = wN V s q m) → i + d = T → wsum (fun i => wN V s i m) (tb set) i d a = X → aw_W l g mi_X3_waxFor (aw_rm 7 0 0) (aw_Z g (fun r w => ∃ s', r = some (.int (match X with | none => (-1 : Int32) | some a => if isT s t = true then wN V s (cl t) m else a)) ∧ w = hp g s' n ∧ eo skF s s') 0 0) 0 0 (hp g s1 n) 6 [some (.ref (g_ad g 27)), some (.int set), some (.int (nI m)), some (.int t), some (.int a), some (.int (nI i))] [] := by
    intro d
    induction d with
    | zero =>
      intro i a s1 e1 hq hi hX
      refine aw_iload rfl rfl ?_
      refine aw_aload_n rfl rfl ?_
      refine pg_27_0 rfl kl_X3_26 ?_
      refine pg_15_6 rfl kl_X3_48 ?_
      refine aw_icmp_ge (tgt := 72) rfl (by decide) (fun h15 => ?_) (fun h15 => absurd (by rw [(kb_eF hb e1).1]; exact nI_le (by omega) (by omega)) h15)
      refine aw_aload_n rfl rfl ?_
      refine pg_27_0 rfl kl_X3_26 ?_
      refine aw_iload_n rfl rfl ?_
      refine aw_iV (q0 := 15) (ci := 8) rfl cw_X3_56 rfl rfl rfl (c_X8_isThing) rfl rfl (Nat.le_of_ble_eq_true rfl) (by decide) (by decide) (by decide) (by decide) ?_
      refine aw_if_eq (tgt := 92) rfl (by decide) (fun h80 => ?_) (fun h80 => ?_)
      · rw [bB_0] at h80
        have h81 : isT s t = false := by (unfold isT at h80 ⊢; rw [← e1 15 6 rfl]; exact h80)
        refine aw_iload rfl rfl ?_
        exact aw_ei rfl rfl (by rw [← hX]; simp only [wsum]; first | (rw [if_pos h81, hq j (by omega) (ht h81), hc]; done) | (rw [if_neg (by rw [h81]; decide)]; done)) e1
      · rw [bB_n0] at h80
        have h81 : isT s t = true := by (unfold isT at h80 ⊢; rw [← e1 15 6 rfl]; exact h80)
        obtain ⟨j, hj, rfl⟩ := isT_nI hb h81
        have hc : cl (nI j) = j := cl_nI (by omega)
        rw [hc] at ht
        refine aw_aload_n rfl rfl ?_
        refine pg_27_1 rfl kl_X3_13 ?_
        refine aw_iload_n rfl rfl ?_
        refine pl_28 rfl rfl (by omega) ?_
        refine aw_goto (tgt := 94) rfl (by decide) ?_
        exact aw_ei rfl rfl (by rw [← hX]; simp only [wsum]; first | (rw [if_pos h81, hq j (by omega) (ht h81), hc]; done) | (rw [if_neg (by rw [h81]; decide)]; done)) e1
    | succ d ih =>
      intro i a s1 e1 hq hi hX
      refine aw_iload rfl rfl ?_
      refine aw_aload_n rfl rfl ?_
      refine pg_27_0 rfl kl_X3_26 ?_
      refine pg_15_6 rfl kl_X3_48 ?_
      refine aw_icmp_ge (tgt := 72) rfl (by decide) (fun h15 => absurd h15 (by rw [(kb_eF hb e1).1]; exact nI_ge (by omega) (by omega))) (fun h15 => ?_)
      refine aw_iload_n rfl rfl ?_
      refine aw_iload rfl rfl ?_
      refine aw_ishr rfl ?_
      refine aw_iconst (v := 1) rfl (by decide) ?_
      refine aw_iand rfl ?_
      refine aw_if_eq (tgt := 66) rfl (by decide) (fun h24 => ?_) (fun h24 => ?_)
      · refine aw_inc1 rfl rfl (by decide) ?_
        refine aw_goto (tgt := 6) rfl (by decide) ?_
        first
          | (refine aw_wk (ih (i + 1) a s1 e1 (fun q hq1 hq2 => ?_) (by omega) ?_) (And.intro rfl (And.intro rfl (And.intro rfl (And.intro rfl (And.intro rfl (And.intro (congrArg (fun x => some (Value.int x)) (nI_1 i)) True.intro))))))
             · rcases Nat.lt_succ_iff_lt_or_eq.mp hq1 with hlt | rfl
               · exact hq q hlt hq2
               · rw [tb_f h24] at hq2; cases hq2
             · rw [← hX]; simp only [wsum]; rw [if_neg (by rw [tb_f h24]; decide)])
          | (refine aw_wk (ih (i + 1) _ _ e3 (fun q hq1 hq2 => ?_) (by omega) ?_) (And.intro rfl (And.intro rfl (And.intro rfl (And.intro rfl (And.intro rfl (And.intro (congrArg (fun x => some (Value.int x)) (nI_1 i)) True.intro))))))
             · rcases Nat.lt_succ_iff_lt_or_eq.mp hq1 with hlt | rfl
               · rw [up_s, if_neg (by omega), e2 28 q (by rfl)]; exact hq q hlt hq2
               · exact hv
             · rw [← hX]; simp only [wsum]; rw [if_pos (tb_t h24), if_neg h49])
      · refine aw_aload_n rfl rfl ?_
        refine pg_27_1 rfl kl_X3_13 ?_
        refine aw_iload rfl rfl ?_
        refine aw_aload_n rfl rfl ?_
        refine aw_iload rfl rfl ?_
        refine aw_iload_n rfl rfl ?_
        refine aw_eV (q0 := 27) (ci := 3) rfl cw_X3_52 rfl rfl rfl (c_X3_waxNeeded (kb_eF hb e1) (by omega) hm (vb_eF hvb e1) (hV.eF e1)) rfl rfl (Nat.le_of_ble_eq_true rfl) (by decide) (by decide) (by decide) (by decide) (fun s2 e2 => ?_)
        refine ps_28 rfl rfl (by omega) ?_
        have hv : up s2 28 i (wN V s1 i m) 28 i = wN V s i m := by rw [up_s, if_pos rfl, wN_eF e1]
        have e3 : eo skF s (up s2 28 i (wN V s1 i m)) := eo_up (fun _ => rfl) (eo_tr e1 (eo_CF e2))
        refine aw_aload_n rfl rfl ?_
        refine pg_27_1 rfl kl_X3_13 ?_
        refine aw_iload rfl rfl ?_
        refine pl_28 rfl rfl (by omega) ?_
        rw [hv]
        refine aw_iconst (v := -1) rfl (by decide) ?_
        refine aw_icmp_ne (tgt := 54) rfl (by decide) (fun h49 => ?_) (fun h49 => ?_)
        · refine aw_iload rfl rfl ?_
          refine aw_aload_n rfl rfl ?_
          refine pg_27_1 rfl kl_X3_13 ?_
          refine aw_iload rfl rfl ?_
          refine pl_28 rfl rfl (by omega) ?_
          rw [hv]
          refine aw_iadd rfl ?_
          refine aw_istore rfl (by decide) ?_
          refine aw_inc1 rfl rfl (by decide) ?_
          refine aw_goto (tgt := 6) rfl (by decide) ?_
          first
            | (refine aw_wk (ih (i + 1) a s1 e1 (fun q hq1 hq2 => ?_) (by omega) ?_) (And.intro rfl (And.intro rfl (And.intro rfl (And.intro rfl (And.intro rfl (And.intro (congrArg (fun x => some (Value.int x)) (nI_1 i)) True.intro))))))
               · rcases Nat.lt_succ_iff_lt_or_eq.mp hq1 with hlt | rfl
                 · exact hq q hlt hq2
                 · rw [tb_f h24] at hq2; cases hq2
               · rw [← hX]; simp only [wsum]; rw [if_neg (by rw [tb_f h24]; decide)])
            | (refine aw_wk (ih (i + 1) _ _ e3 (fun q hq1 hq2 => ?_) (by omega) ?_) (And.intro rfl (And.intro rfl (And.intro rfl (And.intro rfl (And.intro rfl (And.intro (congrArg (fun x => some (Value.int x)) (nI_1 i)) True.intro))))))
               · rcases Nat.lt_succ_iff_lt_or_eq.mp hq1 with hlt | rfl
                 · rw [up_s, if_neg (by omega), e2 28 q (by rfl)]; exact hq q hlt hq2
                 · exact hv
               · rw [← hX]; simp only [wsum]; rw [if_pos (tb_t h24), if_neg h49])
        · refine aw_iconst (v := -1) rfl (by decide) ?_
          exact aw_ei rfl rfl (by rw [← hX]; simp only [wsum]; rw [if_pos (tb_t h24), if_pos h49]) e3
  refine aw_E_of mo_X3_waxFor (by decide) (Nat.le_of_ble_eq_true rfl) ?_
  refine aw_iconst (v := 0) rfl (by decide) ?_
  refine aw_istore rfl (by decide) ?_
  refine aw_iconst (v := 0) rfl (by decide) ?_
  refine aw_istore rfl (by decide) ?_
  refine aw_wk (loop T 0 0 s eo_rf (fun q h => absurd h (by omega)) (by omega) hXX) (And.intro rfl (And.intro rfl (And.intro rfl (And.intro rfl (And.intro rfl (And.intro rfl True.intro))))))
set_option maxRecDepth 4000 in
theorem c_X3_partsThatHold {l : Launch} {g : ag_G} {s : am_S} {n : am_N} {j m : Nat} {ch : Int32} {T Q : Nat} (hb : kb s T Q) (hj : j < T) (hm : m < 2 ^ 31) {V : (Nat → Int32) → Int32} (hV : LawIs l g s n V) : aw_E l g mi_X3_partsThatHold 4 skC [.ref (g_ad g 27), .int (nI j), .int (nI m), .int ch] s n (.int (pT V s j m ch)) := by
  have hT := hb.2.1
  refine aw_E_of mo_X3_partsThatHold (by decide) (Nat.le_of_ble_eq_true rfl) ?_
  refine aw_aload_n rfl rfl ?_
  refine pg_27_0 rfl kl_X3_26 ?_
  refine aw_iload_n rfl rfl ?_
  refine aw_iV (q0 := 15) (ci := 8) rfl cw_X3_30 rfl rfl rfl (c_X8_isSealed hb) rfl rfl (Nat.le_of_ble_eq_true rfl) (by decide) (by decide) (by decide) (by decide) ?_
  refine aw_if_ne (tgt := 13) rfl (by decide) (fun h8 => ?_) (fun h8 => ?_)
  · rw [show pT V s j m ch = pHr (pH V s j ch 0 m 1000000000) from by (unfold pT; rw [if_pos (bB_n0.mp h8)])]
    generalize hXX : pH V s j ch 0 m 1000000000 = X
    have loop : ∀ (d i : Nat) (a : Int64) (s1 : am_S), eo skC s s1 → i + d = m → pH V s j ch i d a = X → aw_W l g mi_X3_partsThatHold (aw_rm 4 0 0) (aw_Z g (fun r w => ∃ s', r = some (.int (pHr X)) ∧ w = hp g s' n ∧ eo skC s s') 0 0) 0 0 (hp g s1 n) 21 [some (.ref (g_ad g 27)), some (.int (nI j)), some (.int (nI m)), some (.int ch), some (.long a), none, some (.int (nI i))] [] := by
      intro d
      induction d with
      | zero =>
        intro i a s1 e1 hi hX
        refine aw_iload rfl rfl ?_
        refine aw_iload_n rfl rfl ?_
        refine aw_icmp_ge (tgt := 136) rfl (by decide) (fun h24 => ?_) (fun h24 => absurd (by exact nI_le (by omega) (by omega)) h24)
        refine aw_lload rfl rfl ?_
        refine aw_l2i rfl ?_
        exact aw_ei rfl rfl (by rw [← hX]; rfl) e1
      | succ d ih =>
        intro i a s1 e1 hi hX
        refine aw_iload rfl rfl ?_
        refine aw_iload_n rfl rfl ?_
        refine aw_icmp_ge (tgt := 136) rfl (by decide) (fun h24 => absurd h24 (by exact nI_ge (by omega) (by omega))) (fun h24 => ?_)
        refine aw_aload_n rfl rfl ?_
        refine pg_27_0 rfl kl_X3_26 ?_
        refine pg_15_1 rfl kl_X3_38 ?_
        refine aw_iconst (v := 4) rfl (by decide) ?_
        refine pl_16 (j := 4) rfl rfl (by decide) ?_
        refine aw_iload rfl rfl ?_
        refine aw_iadd rfl ?_
        refine aw_istore rfl (by decide) ?_
        refine aw_aload_n rfl rfl ?_
        refine pg_27_0 rfl kl_X3_26 ?_
        refine pg_15_1 rfl kl_X3_38 ?_
        refine aw_bipush (v := 12) rfl (by decide) ?_
        refine aw_iload_n rfl rfl ?_
        refine aw_iadd rfl ?_
        refine pl_16 rfl (iL 12 j rfl) (by omega) ?_
        refine aw_istore rfl (by decide) ?_
        refine aw_aload_n rfl rfl ?_
        refine pg_27_0 rfl kl_X3_26 ?_
        refine pg_15_1 rfl kl_X3_38 ?_
        refine aw_iconst (v := 5) rfl (by decide) ?_
        refine aw_iload_n rfl rfl ?_
        refine aw_iadd rfl ?_
        refine pl_16 rfl (iL 5 j rfl) (by omega) ?_
        refine aw_istore rfl (by decide) ?_
        refine aw_aload_n rfl rfl ?_
        refine pg_27_0 rfl kl_X3_26 ?_
        refine aw_iload_n rfl rfl ?_
        refine aw_aload_n rfl rfl ?_
        refine pg_27_0 rfl kl_X3_26 ?_
        refine pg_15_4 rfl kl_X3_41 ?_
        refine aw_iload_n rfl rfl ?_
        refine pl_19 rfl rfl (by omega) ?_
        refine aw_iload rfl rfl ?_
        refine aw_iload rfl rfl ?_
        refine aw_iload rfl rfl ?_
        refine aw_eV (q0 := 15) (ci := 8) rfl cw_X3_98 rfl rfl rfl (c_X8_holdsAt (kb_eo hb e1) hj (hV.eC e1)) rfl rfl (Nat.le_of_ble_eq_true rfl) (by decide) (by decide) (by decide) (by decide) (fun s2 e2 => ?_)
        refine aw_aload_n rfl rfl ?_
        refine pg_27_0 rfl kl_X3_26 ?_
        refine aw_iload rfl rfl ?_
        refine aw_iV (q0 := 15) (ci := 8) rfl cw_X3_101 rfl rfl rfl (c_X8_warmthAt) rfl rfl (Nat.le_of_ble_eq_true rfl) (by decide) (by decide) (by decide) (by decide) ?_
        refine aw_isub rfl ?_
        rw [hd_eo e1, e1 19 j rfl, e1 16 _ rfl, e1 16 _ rfl, e1 16 _ rfl, e2 16 _ rfl, e1 16 _ rfl]
        refine aw_istore rfl (by decide) ?_
        refine aw_iload rfl rfl ?_
        refine aw_if_ge (tgt := 110) rfl (by decide) (fun h105 => ?_) (fun h105 => ?_)
        · refine aw_iload rfl rfl ?_
          refine aw_iconst (v := 5) rfl (by decide) ?_
          refine aw_icmp_ge (tgt := 130) rfl (by decide) (fun h113 => ?_) (fun h113 => ?_)
          · refine aw_inc1 rfl rfl (by decide) ?_
            refine aw_goto (tgt := 21) rfl (by decide) ?_
            refine aw_wk (ih (i + 1) _ s2 (eo_tr e1 e2) (by omega) ?_) (And.intro rfl (And.intro rfl (And.intro rfl (And.intro rfl (And.intro rfl (And.intro (congrArg (fun x => some (Value.int x)) (nI_1 i)) True.intro))))))
            rw [← hX]; simp only [pH]; rw [if_neg (by rw [Int32.not_lt]; exact h105)]; first | rw [if_neg (by rw [Int32.not_lt]; exact h113)] | rw [if_pos (by rw [← Int32.not_le]; exact h113)]
          · refine aw_lload rfl rfl ?_
            refine aw_lload rfl rfl ?_
            refine aw_iload_n rfl rfl ?_
            refine aw_i2l rfl ?_
            refine aw_lmul rfl ?_
            refine aw_ldc2 (v := 100) rfl (aw_t5 66 rfl rfl) ?_
            refine aw_ldiv rfl (by decide) ?_
            refine aw_lsub rfl ?_
            refine aw_lstore rfl (by decide) ?_
            refine aw_inc1 rfl rfl (by decide) ?_
            refine aw_goto (tgt := 21) rfl (by decide) ?_
            refine aw_wk (ih (i + 1) _ s2 (eo_tr e1 e2) (by omega) ?_) (And.intro rfl (And.intro rfl (And.intro rfl (And.intro rfl (And.intro rfl (And.intro (congrArg (fun x => some (Value.int x)) (nI_1 i)) True.intro))))))
            rw [← hX]; simp only [pH]; rw [if_neg (by rw [Int32.not_lt]; exact h105)]; first | rw [if_neg (by rw [Int32.not_lt]; exact h113)] | rw [if_pos (by rw [← Int32.not_le]; exact h113)]
        · refine aw_iconst (v := 0) rfl (by decide) ?_
          exact aw_ei rfl rfl (by rw [← hX]; simp only [pH]; rw [if_pos (by rw [← Int32.not_le]; exact h105)]; rfl) (eo_tr e1 e2)
    refine aw_ldc2 (v := 1000000000) rfl (aw_t5 63 rfl rfl) ?_
    refine aw_lstore rfl (by decide) ?_
    refine aw_iconst (v := 0) rfl (by decide) ?_
    refine aw_istore rfl (by decide) ?_
    refine aw_wk (loop m 0 _ s eo_rf (by omega) hXX) (And.intro rfl (And.intro rfl (And.intro rfl (And.intro rfl (And.intro rfl (And.intro rfl True.intro))))))
  · refine aw_iconst (v := 0) rfl (by decide) ?_
    exact aw_ei rfl rfl (by simp [pT, bB_0.mp (by simpa using h8)]) eo_rf
