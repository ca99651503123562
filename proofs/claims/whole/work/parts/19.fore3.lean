theorem fd_congr {α : Type} {F G : Nat → α → α} : ∀ (d i : Nat) (a : α), (∀ q, i ≤ q → q < i + d → ∀ a, F q a = G q a) → fd F i d a = fd G i d a
  | 0, _, _, _ => rfl
  | d + 1, i, a, h => by
    simp only [fd]
    rw [h i (Nat.le_refl _) (by omega) a]
    exact fd_congr d (i + 1) _ (fun q h1 h2 => h q (by omega) (by omega))
theorem dK_congr {s s1 : am_S} {T : Nat} {f f1 : Nat → Int32} {set : Int32} (hf : ∀ q, q < T → f1 q = f q) (h2 : ∀ q, s1 20 q = s 20 q) (h0 : s1 16 0 = s 16 0) : dK s1 T f1 set = dK s T f set := by
  unfold dK
  rw [h0, fd_congr (F := fun i (a : Int32 × Int32) => if tb set i then (a.1 + f1 i, a.2 + s1 20 i) else a) (G := fun i (a : Int32 × Int32) => if tb set i then (a.1 + f i, a.2 + s 20 i) else a) T 0 (0, 0) (fun q _ hq a => by rw [hf q (by omega), h2 q])]
def sO (s : am_S) (T : Nat) : Int32 := fd (fun i a => if sl s (nI i) then a ||| bt i else a) 0 T 0
def bK1 (V : (Nat → Int32) → Int32) (s : am_S) (m i d : Nat) (a : Int32) : Int32 := fd (fun i a => if wN V s i m = -1 then a &&& (bt i ^^^ -1) else a) i d a
def bKF (V : (Nat → Int32) → Int32) (s : am_S) (T m : Nat) (S : Int32) (k : Nat) (a : Int32 × Int32) : Int32 × Int32 := if nI k &&& (S ^^^ -1) = 0 then (if dK s T (fun i => wN V s i m) (nI k) ≤ a.2 then a else (nI k, dK s T (fun i => wN V s i m) (nI k))) else a
def bK (V : (Nat → Int32) → Int32) (s : am_S) (T m : Nat) : Int32 × Int32 := fd (bKF V s T m (bK1 V s m 0 T (sO s T))) 1 (2 ^ T - 1) (0, 0)

set_option maxRecDepth 4000 in
theorem c_X3_bestKept {l : Launch} {g : ag_G} {s : am_S} {n : am_N} {m : Nat} {wh : Int32} {T Q : Nat} (hb : kb s T Q) (hvb : vb s T) (hm : m < 2 ^ 31) {V : (Nat → Int32) → Int32} (hV : LawIs l g s n V) : aw_E l g mi_X3_bestKept 7 skF [.ref (g_ad g 27), .int (nI m), .int wh] s n (.int (if wh = 0 then (bK V s T m).1 else (bK V s T m).2)) := by
  have hT := hb.2.1
  have h2T : 2 ^ T ≤ 128 := Nat.le_trans (Nat.pow_le_pow_right (by decide) hT) (by decide)
  have h1T : 1 ≤ 2 ^ T := Nat.one_le_two_pow
  unfold bK
  generalize hS : bK1 V s m 0 T (sO s T) = S
  generalize hXX : fd (bKF V s T m S) 1 (2 ^ T - 1) (0, 0) = X
  have loop2 : ∀ (d i : Nat) (a : Int32 × Int32) (s1 : am_S), eo skF s s1 → (∀ q, q < T → s1 28 q = wN V s q m) → i + d = 2 ^ T → fd (bKF V s T m S) i d a = X → aw_W l g mi_X3_bestKept (aw_rm 7 0 0) (aw_Z g (fun r w => ∃ s', r = some (.int (if wh = 0 then X.1 else X.2)) ∧ w = hp g s' n ∧ eo skF s s') 0 0) 0 0 (hp g s1 n) 72 [some (.ref (g_ad g 27)), some (.int (nI m)), some (.int wh), some (.int S), some (.int a.1), some (.int a.2), some (.int (nI i))] [] := by
    intro d
    induction d with
    | zero =>
      intro i a s1 e1 hq hi hX
      refine aw_iload rfl rfl ?_
      refine aw_iconst (v := 1) rfl (by decide) ?_
      refine aw_aload_n rfl rfl ?_
      refine pg_27_0 rfl kl_X3_26 ?_
      refine pg_15_6 rfl kl_X3_48 ?_
      refine aw_ishl rfl ?_
      refine aw_icmp_ge (tgt := 124) rfl (by decide) (fun h83 => ?_) (fun h83 => absurd (by rw [(kb_eF hb e1).1, sh1 hT]; exact nI_le (by omega) (by omega)) h83)
      refine aw_iload_n rfl rfl ?_
      refine aw_if_ne (tgt := 133) rfl (by decide) (fun h125 => ?_) (fun h125 => ?_)
      · refine aw_iload rfl rfl ?_
        exact aw_ei rfl rfl (by have hx : a = X := hX; rw [← hx]; simp [h125]) e1
      · refine aw_iload rfl rfl ?_
        refine aw_goto (tgt := 135) rfl (by decide) ?_
        exact aw_ei rfl rfl (by have hx : a = X := hX; rw [← hx]; simp [h125]) e1
    | succ d ih =>
      intro i a s1 e1 hq hi hX
      refine aw_iload rfl rfl ?_
      refine aw_iconst (v := 1) rfl (by decide) ?_
      refine aw_aload_n rfl rfl ?_
      refine pg_27_0 rfl kl_X3_26 ?_
      refine pg_15_6 rfl kl_X3_48 ?_
      refine aw_ishl rfl ?_
      refine aw_icmp_ge (tgt := 124) rfl (by decide) (fun h83 => absurd h83 (by rw [(kb_eF hb e1).1, sh1 hT]; exact nI_ge (by omega) (by omega))) (fun h83 => ?_)
      refine aw_iload rfl rfl ?_
      refine aw_iload_n rfl rfl ?_
      refine aw_iconst (v := -1) rfl (by decide) ?_
      refine aw_ixor rfl ?_
      refine aw_iand rfl ?_
      refine aw_if_ne (tgt := 118) rfl (by decide) (fun h92 => ?_) (fun h92 => ?_)
      · refine aw_inc1 rfl rfl (by decide) ?_
        refine aw_goto (tgt := 72) rfl (by decide) ?_
        first
          | (refine aw_wk (ih (i + 1) a s1 e1 hq (by omega) ?_) (And.intro rfl (And.intro rfl (And.intro rfl (And.intro rfl (And.intro rfl (And.intro rfl (And.intro (congrArg (fun x => some (Value.int x)) (nI_1 i)) True.intro))))))); exact Eq.trans (congrArg (fd _ (i + 1) d) (by unfold bKF; first | rw [if_neg h92] | rw [if_pos h92, if_pos h107])) hX)
          | (refine aw_wk (ih (i + 1) (nI i, dK s T (fun i => wN V s i m) (nI i)) s1 e1 hq (by omega) ?_) (And.intro rfl (And.intro rfl (And.intro rfl (And.intro rfl (And.intro rfl (And.intro rfl (And.intro (congrArg (fun x => some (Value.int x)) (nI_1 i)) True.intro))))))); exact Eq.trans (congrArg (fd _ (i + 1) d) (by unfold bKF; rw [if_pos h92, if_neg h107])) hX)
      · refine aw_aload_n rfl rfl ?_
        refine aw_iload rfl rfl ?_
        refine aw_iV (q0 := 27) (ci := 3) rfl cw_X3_63 rfl rfl rfl (c_X3_depthKept (kb_eF hb e1)) rfl rfl (Nat.le_of_ble_eq_true rfl) (by decide) (by decide) (by decide) (by decide) ?_
        rw [dK_congr (s := s) (T := T) (f := fun i => wN V s i m) hq (fun q => e1 20 q rfl) (e1 16 0 rfl)]
        refine aw_istore rfl (by decide) ?_
        refine aw_iload rfl rfl ?_
        refine aw_iload rfl rfl ?_
        refine aw_icmp_le (tgt := 118) rfl (by decide) (fun h107 => ?_) (fun h107 => ?_)
        · refine aw_inc1 rfl rfl (by decide) ?_
          refine aw_goto (tgt := 72) rfl (by decide) ?_
          first
            | (refine aw_wk (ih (i + 1) a s1 e1 hq (by omega) ?_) (And.intro rfl (And.intro rfl (And.intro rfl (And.intro rfl (And.intro rfl (And.intro rfl (And.intro (congrArg (fun x => some (Value.int x)) (nI_1 i)) True.intro))))))); exact Eq.trans (congrArg (fd _ (i + 1) d) (by unfold bKF; first | rw [if_neg h92] | rw [if_pos h92, if_pos h107])) hX)
            | (refine aw_wk (ih (i + 1) (nI i, dK s T (fun i => wN V s i m) (nI i)) s1 e1 hq (by omega) ?_) (And.intro rfl (And.intro rfl (And.intro rfl (And.intro rfl (And.intro rfl (And.intro rfl (And.intro (congrArg (fun x => some (Value.int x)) (nI_1 i)) True.intro))))))); exact Eq.trans (congrArg (fd _ (i + 1) d) (by unfold bKF; rw [if_pos h92, if_neg h107])) hX)
        · refine aw_iload rfl rfl ?_
          refine aw_istore rfl (by decide) ?_
          refine aw_iload rfl rfl ?_
          refine aw_istore rfl (by decide) ?_
          refine aw_inc1 rfl rfl (by decide) ?_
          refine aw_goto (tgt := 72) rfl (by decide) ?_
          first
            | (refine aw_wk (ih (i + 1) a s1 e1 hq (by omega) ?_) (And.intro rfl (And.intro rfl (And.intro rfl (And.intro rfl (And.intro rfl (And.intro rfl (And.intro (congrArg (fun x => some (Value.int x)) (nI_1 i)) True.intro))))))); exact Eq.trans (congrArg (fd _ (i + 1) d) (by unfold bKF; first | rw [if_neg h92] | rw [if_pos h92, if_pos h107])) hX)
            | (refine aw_wk (ih (i + 1) (nI i, dK s T (fun i => wN V s i m) (nI i)) s1 e1 hq (by omega) ?_) (And.intro rfl (And.intro rfl (And.intro rfl (And.intro rfl (And.intro rfl (And.intro rfl (And.intro (congrArg (fun x => some (Value.int x)) (nI_1 i)) True.intro))))))); exact Eq.trans (congrArg (fd _ (i + 1) d) (by unfold bKF; rw [if_pos h92, if_neg h107])) hX)
  have loop : ∀ (d i : Nat) (a : Int32) (s1 : am_S), eo skF s s1 → (∀ q, q < i → s1 28 q = wN V s q m) → i + d = T → bK1 V s m i d a = S → aw_W l g mi_X3_bestKept (aw_rm 7 0 0) (aw_Z g (fun r w => ∃ s', r = some (.int (if wh = 0 then X.1 else X.2)) ∧ w = hp g s' n ∧ eo skF s s') 0 0) 0 0 (hp g s1 n) 11 [some (.ref (g_ad g 27)), some (.int (nI m)), some (.int wh), some (.int a), some (.int (nI i))] [] := by
    intro d
    induction d with
    | zero =>
      intro i a s1 e1 hq hi hX
      refine aw_iload rfl rfl ?_
      refine aw_aload_n rfl rfl ?_
      refine pg_27_0 rfl kl_X3_26 ?_
      refine pg_15_6 rfl kl_X3_48 ?_
      refine aw_icmp_ge (tgt := 63) rfl (by decide) (fun h20 => ?_) (fun h20 => absurd (by rw [(kb_eF hb e1).1]; exact nI_le (by omega) (by omega)) h20)
      refine aw_iconst (v := 0) rfl (by decide) ?_
      refine aw_istore rfl (by decide) ?_
      refine aw_iconst (v := 0) rfl (by decide) ?_
      refine aw_istore rfl (by decide) ?_
      refine aw_iconst (v := 1) rfl (by decide) ?_
      refine aw_istore rfl (by decide) ?_
      refine aw_wk (loop2 (2 ^ T - 1) 1 (0, 0) s1 e1 (fun q hh => hq q (by omega)) (by omega) hXX) (And.intro rfl (And.intro rfl (And.intro rfl (And.intro (congrArg (fun x => some (Value.int x)) hX) (And.intro rfl (And.intro rfl (And.intro rfl True.intro)))))))
    | succ d ih =>
      intro i a s1 e1 hq hi hX
      refine aw_iload rfl rfl ?_
      refine aw_aload_n rfl rfl ?_
      refine pg_27_0 rfl kl_X3_26 ?_
      refine pg_15_6 rfl kl_X3_48 ?_
      refine aw_icmp_ge (tgt := 63) rfl (by decide) (fun h20 => absurd h20 (by rw [(kb_eF hb e1).1]; exact nI_ge (by omega) (by omega))) (fun h20 => ?_)
      refine aw_aload_n rfl rfl ?_
      refine pg_27_1 rfl kl_X3_13 ?_
      refine aw_iload rfl rfl ?_
      refine aw_aload_n rfl rfl ?_
      refine aw_iload rfl rfl ?_
      refine aw_iload_n rfl rfl ?_
      refine aw_eV (q0 := 27) (ci := 3) rfl cw_X3_52 rfl rfl rfl (c_X3_waxNeeded (kb_eF hb e1) (by omega) hm (vb_eF hvb e1) (hV.eF e1)) rfl rfl (Nat.le_of_ble_eq_true rfl) (by decide) (by decide) (by decide) (by decide) (fun s2 e2 => ?_)
      refine ps_28 rfl rfl (by omega) ?_
      have hv : up s2 28 i (wN V s1 i m) 28 i = wN V s i m := by rw [up_s, if_pos rfl, wN_eF e1]
      have e3 : eo skF s (up s2 28 i (wN V s1 i m)) := eo_up (fun _ => rfl) (eo_tr e1 (eo_CF e2))
      have hq3 : ∀ q, q < i + 1 → up s2 28 i (wN V s1 i m) 28 q = wN V s q m := by
        intro q hq1
        rcases Nat.lt_succ_iff_lt_or_eq.mp hq1 with hlt | rfl
        · rw [up_s, if_neg (by omega), e2 28 q (by rfl)]; exact hq q hlt
        · exact hv
      refine aw_aload_n rfl rfl ?_
      refine pg_27_1 rfl kl_X3_13 ?_
      refine aw_iload rfl rfl ?_
      refine pl_28 rfl rfl (by omega) ?_
      rw [hv]
      refine aw_iconst (v := -1) rfl (by decide) ?_
      refine aw_icmp_ne (tgt := 57) rfl (by decide) (fun h45 => ?_) (fun h45 => ?_)
      · refine aw_inc1 rfl rfl (by decide) ?_
        refine aw_goto (tgt := 11) rfl (by decide) ?_
        refine aw_wk (ih (i + 1) _ _ e3 hq3 (by omega) ?_) (And.intro rfl (And.intro rfl (And.intro rfl (And.intro rfl (And.intro (congrArg (fun x => some (Value.int x)) (nI_1 i)) True.intro)))))
        exact Eq.trans (congrArg (fd _ (i + 1) d) (by first | (simp [h45]; done) | (simp [h45, bt]; done))) hX
      · refine aw_iload_n rfl rfl ?_
        refine aw_iconst (v := 1) rfl (by decide) ?_
        refine aw_iload rfl rfl ?_
        refine aw_ishl rfl ?_
        refine aw_iconst (v := -1) rfl (by decide) ?_
        refine aw_ixor rfl ?_
        refine aw_iand rfl ?_
        refine aw_istore_n rfl (by decide) ?_
        refine aw_inc1 rfl rfl (by decide) ?_
        refine aw_goto (tgt := 11) rfl (by decide) ?_
        refine aw_wk (ih (i + 1) _ _ e3 hq3 (by omega) ?_) (And.intro rfl (And.intro rfl (And.intro rfl (And.intro rfl (And.intro (congrArg (fun x => some (Value.int x)) (nI_1 i)) True.intro)))))
        exact Eq.trans (congrArg (fd _ (i + 1) d) (by first | (simp [h45]; done) | (simp [h45, bt]; done))) hX
  refine aw_E_of mo_X3_bestKept (by decide) (Nat.le_of_ble_eq_true rfl) ?_
  refine aw_aload_n rfl rfl ?_
  refine pg_27_0 rfl kl_X3_26 ?_
  refine aw_iV (q0 := 15) (ci := 8) rfl cw_X3_59 rfl rfl rfl (c_X8_sealedOnes hb) rfl rfl (Nat.le_of_ble_eq_true rfl) (by decide) (by decide) (by decide) (by decide) ?_
  refine aw_istore_n rfl (by decide) ?_
  refine aw_iconst (v := 0) rfl (by decide) ?_
  refine aw_istore rfl (by decide) ?_
  refine aw_wk (loop T 0 (sO s T) s eo_rf (fun q h => absurd h (by omega)) (by omega) hS) (And.intro rfl (And.intro rfl (And.intro rfl (And.intro rfl (And.intro rfl True.intro)))))
def mf (V : (Nat → Int32) → Int32) (s : am_S) (m i : Nat) : Int32 := if sl s (nI i) = true then mU V s i 0 0 m else 0
def mMany (V : (Nat → Int32) → Int32) (s : am_S) (m i d : Nat) (a : Int32) : Int32 := fd (fun i a => if mf V s m i ≤ 0 then a else a + 1) i d a
def mRow (V : (Nat → Int32) → Int32) (s : am_S) (m T k i d : Nat) (a : Int32) : Int32 := fd (fun i a => if mf V s m i = nI k then a * 10 + nI i else a) i d a
def mAll (V : (Nat → Int32) → Int32) (s : am_S) (m T : Nat) (wh : Int32) : Int32 := if wh = 1 then mMany V s m 0 T 0 else if mMany V s m 0 T 0 = 0 then -1 else fd (fun k a => mRow V s m T k 0 T a) 1 m 0

set_option maxRecDepth 4000 in
theorem c_X3_melting {l : Launch} {g : ag_G} {s : am_S} {n : am_N} {m : Nat} {wh : Int32} {T Q : Nat} (hb : kb s T Q) (hm : m ≤ 60) {V : (Nat → Int32) → Int32} (hV : LawIs l g s n V) : aw_E l g mi_X3_melting 6 skF [.ref (g_ad g 27), .int (nI m), .int wh] s n (.int (mAll V s m T wh)) := by
  have hT := hb.2.1
  unfold mAll
  generalize hM : mMany V s m 0 T 0 = K
  generalize hXX : fd (fun k a => mRow V s m T k 0 T a) 1 m 0 = X
  have row : ∀ (kk : Nat) (s1 : am_S) (A : Int32), kk ≤ m → eo skF s s1 → (∀ q, q < T → s1 28 q = mf V s m q) → aw_W l g mi_X3_melting (aw_rm 6 0 0) (aw_Z g (fun r w => ∃ s', r = some (.int (if wh = 1 then K else if K = 0 then -1 else X)) ∧ w = hp g s' n ∧ eo skF s s') 0 0) 0 0 (hp g s1 n) 136 [some (.ref (g_ad g 27)), some (.int (nI m)), some (.int wh), none, some (.int A), some (.int (nI kk))] [] → ∀ (d i : Nat) (a : Int32), i + d = T → mRow V s m T kk i d a = A → aw_W l g mi_X3_melting (aw_rm 6 0 0) (aw_Z g (fun r w => ∃ s', r = some (.int (if wh = 1 then K else if K = 0 then -1 else X)) ∧ w = hp g s' n ∧ eo skF s s') 0 0) 0 0 (hp g s1 n) 96 [some (.ref (g_ad g 27)), some (.int (nI m)), some (.int wh), none, some (.int a), some (.int (nI kk)), some (.int (nI i))] [] := by
    intro kk s1 A hk e1 hq kont d
    induction d with
    | zero =>
      intro i a hi hX
      refine aw_iload rfl rfl ?_
      refine aw_aload_n rfl rfl ?_
      refine pg_27_0 rfl kl_X3_26 ?_
      refine pg_15_6 rfl kl_X3_48 ?_
      refine aw_icmp_ge (tgt := 136) rfl (by decide) (fun h105 => ?_) (fun h105 => absurd (by rw [(kb_eF hb e1).1]; exact nI_le (by omega) (by omega)) h105)
      refine aw_wk kont (And.intro rfl (And.intro rfl (And.intro rfl (And.intro (congrArg (fun x => some (Value.int x)) hX) (And.intro rfl True.intro)))))
    | succ d ih =>
      intro i a hi hX
      refine aw_iload rfl rfl ?_
      refine aw_aload_n rfl rfl ?_
      refine pg_27_0 rfl kl_X3_26 ?_
      refine pg_15_6 rfl kl_X3_48 ?_
      refine aw_icmp_ge (tgt := 136) rfl (by decide) (fun h105 => absurd h105 (by rw [(kb_eF hb e1).1]; exact nI_ge (by omega) (by omega))) (fun h105 => ?_)
      refine aw_aload_n rfl rfl ?_
      refine pg_27_1 rfl kl_X3_13 ?_
      refine aw_iload rfl rfl ?_
      refine pl_28 rfl rfl (by omega) ?_
      rw [hq i (by omega)]
      refine aw_iload rfl rfl ?_
      refine aw_icmp_ne (tgt := 130) rfl (by decide) (fun h117 => ?_) (fun h117 => ?_)
      · refine aw_inc1 rfl rfl (by decide) ?_
        refine aw_goto (tgt := 96) rfl (by decide) ?_
        refine aw_wk (ih (i + 1) _ (by omega) ?_) (And.intro rfl (And.intro rfl (And.intro rfl (And.intro rfl (And.intro rfl (And.intro (congrArg (fun x => some (Value.int x)) (nI_1 i)) True.intro))))))
        exact Eq.trans (congrArg (fd _ (i + 1) d) (by first | (simp [h117]; done))) hX
      · refine aw_iload rfl rfl ?_
        refine aw_bipush (v := 10) rfl (by decide) ?_
        refine aw_imul rfl ?_
        refine aw_iload rfl rfl ?_
        refine aw_iadd rfl ?_
        refine aw_istore rfl (by decide) ?_
        refine aw_inc1 rfl rfl (by decide) ?_
        refine aw_goto (tgt := 96) rfl (by decide) ?_
        refine aw_wk (ih (i + 1) _ (by omega) ?_) (And.intro rfl (And.intro rfl (And.intro rfl (And.intro rfl (And.intro rfl (And.intro (congrArg (fun x => some (Value.int x)) (nI_1 i)) True.intro))))))
        exact Eq.trans (congrArg (fd _ (i + 1) d) (by first | (simp [h117]; done))) hX
  have loop2 : ∀ (d i : Nat) (a : Int32) (s1 : am_S), 1 ≤ i → eo skF s s1 → (∀ q, q < T → s1 28 q = mf V s m q) → i + d = m + 1 → ¬ wh = 1 → ¬ K = 0 → fd (fun k a => mRow V s m T k 0 T a) i d a = X → aw_W l g mi_X3_melting (aw_rm 6 0 0) (aw_Z g (fun r w => ∃ s', r = some (.int (if wh = 1 then K else if K = 0 then -1 else X)) ∧ w = hp g s' n ∧ eo skF s s') 0 0) 0 0 (hp g s1 n) 87 [some (.ref (g_ad g 27)), some (.int (nI m)), some (.int wh), none, some (.int a), some (.int (nI i))] [] := by
    intro d
    induction d with
    | zero =>
      intro i a s1 hi1 e1 hq hi hw hK hX
      refine aw_iload rfl rfl ?_
      refine aw_iload_n rfl rfl ?_
      refine aw_icmp_gt (tgt := 142) rfl (by decide) (fun h90 => ?_) (fun h90 => absurd (by exact nI_lt (by omega) (by omega)) h90)
      refine aw_iload rfl rfl ?_
      exact aw_ei rfl rfl (by have hx : a = X := hX; rw [← hx, if_neg hw, if_neg hK]) e1
    | succ d ih =>
      intro i a s1 hi1 e1 hq hi hw hK hX
      refine aw_iload rfl rfl ?_
      refine aw_iload_n rfl rfl ?_
      refine aw_icmp_gt (tgt := 142) rfl (by decide) (fun h90 => absurd h90 (by exact nI_nlt (by omega) (by omega))) (fun h90 => ?_)
      refine aw_iconst (v := 0) rfl (by decide) ?_
      refine aw_istore rfl (by decide) ?_
      refine aw_wk (row i s1 _ (by omega) e1 hq ?_ T 0 a (by omega) rfl) (And.intro rfl (And.intro rfl (And.intro rfl (And.intro rfl (And.intro rfl (And.intro rfl True.intro))))))
      refine aw_inc1 rfl rfl (by decide) ?_
      refine aw_goto (tgt := 87) rfl (by decide) ?_
      exact aw_wk (ih (i + 1) _ s1 (by omega) e1 hq (by omega) hw hK hX) (And.intro rfl (And.intro rfl (And.intro rfl (And.intro rfl (And.intro (congrArg (fun x => some (Value.int x)) (nI_1 i)) True.intro)))))
  have loop : ∀ (d i : Nat) (a : Int32) (s1 : am_S), eo skF s s1 → (∀ q, q < i → s1 28 q = mf V s m q) → i + d = T → mMany V s m i d a = K → aw_W l g mi_X3_melting (aw_rm 6 0 0) (aw_Z g (fun r w => ∃ s', r = some (.int (if wh = 1 then K else if K = 0 then -1 else X)) ∧ w = hp g s' n ∧ eo skF s s') 0 0) 0 0 (hp g s1 n) 5 [some (.ref (g_ad g 27)), some (.int (nI m)), some (.int wh), some (.int a), some (.int (nI i))] [] := by
    intro d
    induction d with
    | zero =>
      intro i a s1 e1 hq hi hX
      refine aw_iload rfl rfl ?_
      refine aw_aload_n rfl rfl ?_
      refine pg_27_0 rfl kl_X3_26 ?_
      refine pg_15_6 rfl kl_X3_48 ?_
      refine aw_icmp_ge (tgt := 68) rfl (by decide) (fun h14 => ?_) (fun h14 => absurd (by rw [(kb_eF hb e1).1]; exact nI_le (by omega) (by omega)) h14)
      have hx : a = K := hX
      subst hx
      refine aw_iload_n rfl rfl ?_
      refine aw_iconst (v := 1) rfl (by decide) ?_
      refine aw_icmp_ne (tgt := 75) rfl (by decide) (fun h70 => ?_) (fun h70 => ?_)
      · refine aw_iload_n rfl rfl ?_
        refine aw_if_ne (tgt := 81) rfl (by decide) (fun h76 => ?_) (fun h76 => ?_)
        · refine aw_iconst (v := 0) rfl (by decide) ?_
          refine aw_istore rfl (by decide) ?_
          refine aw_iconst (v := 1) rfl (by decide) ?_
          refine aw_istore rfl (by decide) ?_
          exact aw_wk (loop2 m 1 0 s1 (by omega) e1 (fun q hh => hq q (by omega)) (by omega) h70 h76 hXX) (And.intro rfl (And.intro rfl (And.intro rfl (And.intro rfl (And.intro rfl True.intro)))))
        · refine aw_iconst (v := -1) rfl (by decide) ?_
          exact aw_ei rfl rfl (by rw [if_neg h70, if_pos (by simpa using h76)]) e1
      · refine aw_iload_n rfl rfl ?_
        exact aw_ei rfl rfl (by rw [if_pos (by simpa using h70)]) e1
    | succ d ih =>
      intro i a s1 e1 hq hi hX
      refine aw_iload rfl rfl ?_
      refine aw_aload_n rfl rfl ?_
      refine pg_27_0 rfl kl_X3_26 ?_
      refine pg_15_6 rfl kl_X3_48 ?_
      refine aw_icmp_ge (tgt := 68) rfl (by decide) (fun h14 => absurd h14 (by rw [(kb_eF hb e1).1]; exact nI_ge (by omega) (by omega))) (fun h14 => ?_)
      refine aw_aload_n rfl rfl ?_
      refine pg_27_1 rfl kl_X3_13 ?_
      refine aw_iload rfl rfl ?_
      refine aw_aload_n rfl rfl ?_
      refine pg_27_0 rfl kl_X3_26 ?_
      refine aw_iload rfl rfl ?_
      refine aw_iV (q0 := 15) (ci := 8) rfl cw_X3_30 rfl rfl rfl (c_X8_isSealed (kb_eF hb e1)) rfl rfl (Nat.le_of_ble_eq_true rfl) (by decide) (by decide) (by decide) (by decide) ?_
      refine aw_if_eq (tgt := 47) rfl (by decide) (fun h32 => ?_) (fun h32 => ?_)
      · have hsl : sl s (nI i) = false := by (rw [← sl_eF e1]; exact bB_0.mp h32)
        refine aw_iconst (v := 0) rfl (by decide) ?_
        refine ps_28 rfl rfl (by omega) ?_
        have hq3 : ∀ (z : am_S) (v : Int32), eo skC s1 z → v = mf V s m i → ∀ q, q < i + 1 → up z 28 i v 28 q = mf V s m q := by
          intro z v ez hv q hq1
          rcases Nat.lt_succ_iff_lt_or_eq.mp hq1 with hlt | rfl
          · rw [up_s, if_neg (by omega), ez 28 q (by rfl)]; exact hq q hlt
          · rw [up_s, if_pos rfl]; exact hv
        refine aw_aload_n rfl rfl ?_
        refine pg_27_1 rfl kl_X3_13 ?_
        refine aw_iload rfl rfl ?_
        refine pl_28 rfl rfl (by omega) ?_
        rw [up_s, if_pos rfl]
        refine aw_if_le (tgt := 62) rfl (by decide) (fun h56 => ?_) (fun h56 => ?_)
        · refine aw_inc1 rfl rfl (by decide) ?_
          refine aw_goto (tgt := 5) rfl (by decide) ?_
          first
            | exact absurd (by decide : (0 : Int32) ≤ 0) h56
            | (refine aw_wk (ih (i + 1) _ _ (eo_up (fun _ => rfl) (eo_tr e1 (eo_CF e2))) (hq3 s2 _ e2 (by unfold mf; rw [hsl]; exact mU_eF e1)) (by omega) ?_) (And.intro rfl (And.intro rfl (And.intro rfl (And.intro rfl (And.intro (congrArg (fun x => some (Value.int x)) (nI_1 i)) True.intro))))); exact Eq.trans (congrArg (fd _ (i + 1) d) (by rw [mU_eF e1] at h56; simp [mf, hsl, h56])) hX)
            | (refine aw_wk (ih (i + 1) _ _ (eo_up (fun _ => rfl) e1) (hq3 s1 _ eo_rf (by unfold mf; rw [hsl]; rfl)) (by omega) ?_) (And.intro rfl (And.intro rfl (And.intro rfl (And.intro rfl (And.intro (congrArg (fun x => some (Value.int x)) (nI_1 i)) True.intro))))); exact Eq.trans (congrArg (fd _ (i + 1) d) (by simp [mf, hsl])) hX)
        · refine aw_inc1 rfl rfl (by decide) ?_
          refine aw_inc1 rfl rfl (by decide) ?_
          refine aw_goto (tgt := 5) rfl (by decide) ?_
          first
            | exact absurd (by decide : (0 : Int32) ≤ 0) h56
            | (refine aw_wk (ih (i + 1) _ _ (eo_up (fun _ => rfl) (eo_tr e1 (eo_CF e2))) (hq3 s2 _ e2 (by unfold mf; rw [hsl]; exact mU_eF e1)) (by omega) ?_) (And.intro rfl (And.intro rfl (And.intro rfl (And.intro rfl (And.intro (congrArg (fun x => some (Value.int x)) (nI_1 i)) True.intro))))); exact Eq.trans (congrArg (fd _ (i + 1) d) (by rw [mU_eF e1] at h56; simp [mf, hsl, h56])) hX)
            | (refine aw_wk (ih (i + 1) _ _ (eo_up (fun _ => rfl) e1) (hq3 s1 _ eo_rf (by unfold mf; rw [hsl]; rfl)) (by omega) ?_) (And.intro rfl (And.intro rfl (And.intro rfl (And.intro rfl (And.intro (congrArg (fun x => some (Value.int x)) (nI_1 i)) True.intro))))); exact Eq.trans (congrArg (fd _ (i + 1) d) (by simp [mf, hsl])) hX)
      · have hsl : sl s (nI i) = true := by (rw [← sl_eF e1]; exact bB_n0.mp h32)
        refine aw_aload_n rfl rfl ?_
        refine aw_iload rfl rfl ?_
        refine aw_iconst (v := 0) rfl (by decide) ?_
        refine aw_iconst (v := 0) rfl (by decide) ?_
        refine aw_iload_n rfl rfl ?_
        refine aw_eV (q0 := 27) (ci := 3) rfl cw_X3_34 rfl rfl rfl (c_X3_meltsUnder (kb_eF hb e1) (by omega) (by omega) (hV.eF e1)) rfl rfl (Nat.le_of_ble_eq_true rfl) (by decide) (by decide) (by decide) (by decide) (fun s2 e2 => ?_)
        refine aw_goto (tgt := 48) rfl (by decide) ?_
        refine ps_28 rfl rfl (by omega) ?_
        have hq3 : ∀ (z : am_S) (v : Int32), eo skC s1 z → v = mf V s m i → ∀ q, q < i + 1 → up z 28 i v 28 q = mf V s m q := by
          intro z v ez hv q hq1
          rcases Nat.lt_succ_iff_lt_or_eq.mp hq1 with hlt | rfl
          · rw [up_s, if_neg (by omega), ez 28 q (by rfl)]; exact hq q hlt
          · rw [up_s, if_pos rfl]; exact hv
        refine aw_aload_n rfl rfl ?_
        refine pg_27_1 rfl kl_X3_13 ?_
        refine aw_iload rfl rfl ?_
        refine pl_28 rfl rfl (by omega) ?_
        rw [up_s, if_pos rfl]
        refine aw_if_le (tgt := 62) rfl (by decide) (fun h56 => ?_) (fun h56 => ?_)
        · refine aw_inc1 rfl rfl (by decide) ?_
          refine aw_goto (tgt := 5) rfl (by decide) ?_
          first
            | exact absurd (by decide : (0 : Int32) ≤ 0) h56
            | (refine aw_wk (ih (i + 1) _ _ (eo_up (fun _ => rfl) (eo_tr e1 (eo_CF e2))) (hq3 s2 _ e2 (by unfold mf; rw [hsl]; exact mU_eF e1)) (by omega) ?_) (And.intro rfl (And.intro rfl (And.intro rfl (And.intro rfl (And.intro (congrArg (fun x => some (Value.int x)) (nI_1 i)) True.intro))))); exact Eq.trans (congrArg (fd _ (i + 1) d) (by rw [mU_eF e1] at h56; simp [mf, hsl, h56])) hX)
            | (refine aw_wk (ih (i + 1) _ _ (eo_up (fun _ => rfl) e1) (hq3 s1 _ eo_rf (by unfold mf; rw [hsl]; rfl)) (by omega) ?_) (And.intro rfl (And.intro rfl (And.intro rfl (And.intro rfl (And.intro (congrArg (fun x => some (Value.int x)) (nI_1 i)) True.intro))))); exact Eq.trans (congrArg (fd _ (i + 1) d) (by simp [mf, hsl])) hX)
        · refine aw_inc1 rfl rfl (by decide) ?_
          refine aw_inc1 rfl rfl (by decide) ?_
          refine aw_goto (tgt := 5) rfl (by decide) ?_
          first
            | exact absurd (by decide : (0 : Int32) ≤ 0) h56
            | (refine aw_wk (ih (i + 1) _ _ (eo_up (fun _ => rfl) (eo_tr e1 (eo_CF e2))) (hq3 s2 _ e2 (by unfold mf; rw [hsl]; exact mU_eF e1)) (by omega) ?_) (And.intro rfl (And.intro rfl (And.intro rfl (And.intro rfl (And.intro (congrArg (fun x => some (Value.int x)) (nI_1 i)) True.intro))))); exact Eq.trans (congrArg (fd _ (i + 1) d) (by rw [mU_eF e1] at h56; simp [mf, hsl, h56])) hX)
            | (refine aw_wk (ih (i + 1) _ _ (eo_up (fun _ => rfl) e1) (hq3 s1 _ eo_rf (by unfold mf; rw [hsl]; rfl)) (by omega) ?_) (And.intro rfl (And.intro rfl (And.intro rfl (And.intro rfl (And.intro (congrArg (fun x => some (Value.int x)) (nI_1 i)) True.intro))))); exact Eq.trans (congrArg (fd _ (i + 1) d) (by simp [mf, hsl])) hX)
  refine aw_E_of mo_X3_melting (by decide) (Nat.le_of_ble_eq_true rfl) ?_
  refine aw_iconst (v := 0) rfl (by decide) ?_
  refine aw_istore_n rfl (by decide) ?_
  refine aw_iconst (v := 0) rfl (by decide) ?_
  refine aw_istore rfl (by decide) ?_
  refine aw_wk (loop T 0 0 s eo_rf (fun q h => absurd h (by omega)) (by omega) hM) (And.intro rfl (And.intro rfl (And.intro rfl (And.intro rfl (And.intro rfl True.intro)))))
