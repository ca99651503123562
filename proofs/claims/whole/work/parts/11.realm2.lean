def bt (i : Nat) : Int32 := 1 <<< (nI i &&& 31)
def sk (s : am_S) (r j : Nat) : Bool := decide (2 * s 16 (12 + j) ≤ s 16 (26 + r))
set_option maxRecDepth 4000 in
theorem c_X8_sealedOnes {l : Launch} {g : ag_G} {s : am_S} {n : am_N} {T Q : Nat} (hb : kb s T Q) : aw_F l g mi_X8_sealedOnes 2 [.ref (g_ad g 15)] (hp g s n) (.int ((fd (fun i a => if sl s (nI i) then a ||| bt i else a) 0 (T) 0))) (hp g s n) := by
  have hN : T < 2 ^ 31 := (by have := hb.2.1; omega)
  generalize hXX : (fd (fun i a => if sl s (nI i) then a ||| bt i else a) 0 (T) 0) = X
  have loop : ∀ (d i : Nat) (a : Int32), i + d = T → fd (fun i a => if sl s (nI i) then a ||| bt i else a) i d a = X → aw_W l g mi_X8_sealedOnes (aw_rm 2 0 0) (aw_Z g (fun r w => r = some (.int X) ∧ w = hp g s n) 0 0) 0 0 (hp g s n) 4 [some (.ref (g_ad g 15)), some (.int a), some (.int (nI i))] [] := by
    intro d
    induction d with
    | zero =>
      intro i a hi hX
      refine aw_iload_n rfl rfl ?_
      refine aw_aload_n rfl rfl ?_
      refine pg_15_6 rfl kl_X8_43 ?_
      refine aw_icmp_ge (tgt := 32) rfl (by decide) (fun h9 => ?_) (fun h9 => absurd (by rw [hb.1]; exact nI_le (by omega) (by omega)) h9)
      refine aw_iload_n rfl rfl ?_
      exact aw_fi rfl rfl hX rfl
    | succ d ih =>
      intro i a hi hX
      refine aw_iload_n rfl rfl ?_
      refine aw_aload_n rfl rfl ?_
      refine pg_15_6 rfl kl_X8_43 ?_
      refine aw_icmp_ge (tgt := 32) rfl (by decide) (fun h9 => absurd h9 (by rw [hb.1]; exact nI_ge (by omega) (by omega))) (fun h9 => ?_)
      refine aw_aload_n rfl rfl ?_
      refine aw_iload_n rfl rfl ?_
      refine aw_iV (q0 := 15) (ci := 8) rfl cw_X8_117 rfl rfl rfl (c_X8_isSealed hb) rfl rfl (Nat.le_of_ble_eq_true rfl) (by decide) (by decide) (by decide) (by decide) ?_
      refine aw_if_eq (tgt := 26) rfl (by decide) (fun h17 => ?_) (fun h17 => ?_)
      · refine aw_inc1 rfl rfl (by decide) ?_
        refine aw_goto (tgt := 4) rfl (by decide) ?_
        refine aw_wk (ih (i + 1) _ (by omega) ?_) (And.intro rfl (And.intro rfl (And.intro (congrArg (fun x => some (Value.int x)) (nI_1 i)) True.intro)))
        rw [bB_0] at h17; exact Eq.trans (congrArg (fd _ (i + 1) d) (by simp [h17, bt])) hX
      · refine aw_iload_n rfl rfl ?_
        refine aw_iconst (v := 1) rfl (by decide) ?_
        refine aw_iload_n rfl rfl ?_
        refine aw_ishl rfl ?_
        refine aw_ior rfl ?_
        refine aw_istore_n rfl (by decide) ?_
        refine aw_inc1 rfl rfl (by decide) ?_
        refine aw_goto (tgt := 4) rfl (by decide) ?_
        refine aw_wk (ih (i + 1) _ (by omega) ?_) (And.intro rfl (And.intro rfl (And.intro (congrArg (fun x => some (Value.int x)) (nI_1 i)) True.intro)))
        rw [bB_0] at h17; exact Eq.trans (congrArg (fd _ (i + 1) d) (by simp [h17, bt])) hX
  refine aw_F_of mo_X8_sealedOnes (by decide) (Nat.le_of_ble_eq_true rfl) ?_
  refine aw_iconst (v := 0) rfl (by decide) ?_
  refine aw_istore_n rfl (by decide) ?_
  refine aw_iconst (v := 0) rfl (by decide) ?_
  refine aw_istore_n rfl (by decide) ?_
  refine aw_wk (loop T 0 0 (by omega) hXX) (And.intro rfl (And.intro rfl (And.intro rfl True.intro)))
set_option maxRecDepth 4000 in
theorem c_X8_waxOnAll {l : Launch} {g : ag_G} {s : am_S} {n : am_N} {T Q : Nat} (hb : kb s T Q) : aw_F l g mi_X8_waxOnAll 2 [.ref (g_ad g 15)] (hp g s n) (.int ((fd (fun i a => a + s 16 (12 + i)) 0 (T) 0))) (hp g s n) := by
  have hN : T < 2 ^ 31 := (by have := hb.2.1; omega)
  generalize hXX : (fd (fun i a => a + s 16 (12 + i)) 0 (T) 0) = X
  have loop : ∀ (d i : Nat) (a : Int32), i + d = T → fd (fun i a => a + s 16 (12 + i)) i d a = X → aw_W l g mi_X8_waxOnAll (aw_rm 2 0 0) (aw_Z g (fun r w => r = some (.int X) ∧ w = hp g s n) 0 0) 0 0 (hp g s n) 4 [some (.ref (g_ad g 15)), some (.int a), some (.int (nI i))] [] := by
    intro d
    induction d with
    | zero =>
      intro i a hi hX
      refine aw_iload_n rfl rfl ?_
      refine aw_aload_n rfl rfl ?_
      refine pg_15_6 rfl kl_X8_43 ?_
      refine aw_icmp_ge (tgt := 30) rfl (by decide) (fun h9 => ?_) (fun h9 => absurd (by rw [hb.1]; exact nI_le (by omega) (by omega)) h9)
      refine aw_iload_n rfl rfl ?_
      exact aw_fi rfl rfl hX rfl
    | succ d ih =>
      intro i a hi hX
      refine aw_iload_n rfl rfl ?_
      refine aw_aload_n rfl rfl ?_
      refine pg_15_6 rfl kl_X8_43 ?_
      refine aw_icmp_ge (tgt := 30) rfl (by decide) (fun h9 => absurd h9 (by rw [hb.1]; exact nI_ge (by omega) (by omega))) (fun h9 => ?_)
      refine aw_iload_n rfl rfl ?_
      refine aw_aload_n rfl rfl ?_
      refine pg_15_1 rfl kl_X8_11 ?_
      refine aw_bipush (v := 12) rfl (by decide) ?_
      refine aw_iload_n rfl rfl ?_
      refine aw_iadd rfl ?_
      refine pl_16 rfl (iL 12 i rfl) (by have := hb.2.1; omega) ?_
      refine aw_iadd rfl ?_
      refine aw_istore_n rfl (by decide) ?_
      refine aw_inc1 rfl rfl (by decide) ?_
      refine aw_goto (tgt := 4) rfl (by decide) ?_
      refine aw_wk (ih (i + 1) _ (by omega) ?_) (And.intro rfl (And.intro rfl (And.intro (congrArg (fun x => some (Value.int x)) (nI_1 i)) True.intro)))
      exact hX
  refine aw_F_of mo_X8_waxOnAll (by decide) (Nat.le_of_ble_eq_true rfl) ?_
  refine aw_iconst (v := 0) rfl (by decide) ?_
  refine aw_istore_n rfl (by decide) ?_
  refine aw_iconst (v := 0) rfl (by decide) ?_
  refine aw_istore_n rfl (by decide) ?_
  refine aw_wk (loop T 0 0 (by omega) hXX) (And.intro rfl (And.intro rfl (And.intro rfl True.intro)))
set_option maxRecDepth 4000 in
theorem c_X8_knownTo {l : Launch} {g : ag_G} {s : am_S} {n : am_N} {r : Int32} {T Q : Nat} (hb : kb s T Q) : aw_F l g mi_X8_knownTo 2 [.ref (g_ad g 15), .int r] (hp g s n) (.int ((fd (fun i a => if kn s r i then a ||| bt i else a) 0 (T) 0))) (hp g s n) := by
  have hN : T < 2 ^ 31 := (by have := hb.2.1; omega)
  generalize hXX : (fd (fun i a => if kn s r i then a ||| bt i else a) 0 (T) 0) = X
  have loop : ∀ (d i : Nat) (a : Int32), i + d = T → fd (fun i a => if kn s r i then a ||| bt i else a) i d a = X → aw_W l g mi_X8_knownTo (aw_rm 2 0 0) (aw_Z g (fun r w => r = some (.int X) ∧ w = hp g s n) 0 0) 0 0 (hp g s n) 4 [some (.ref (g_ad g 15)), some (.int r), some (.int a), some (.int (nI i))] [] := by
    intro d
    induction d with
    | zero =>
      intro i a hi hX
      refine aw_iload_n rfl rfl ?_
      refine aw_aload_n rfl rfl ?_
      refine pg_15_6 rfl kl_X8_43 ?_
      refine aw_icmp_ge (tgt := 33) rfl (by decide) (fun h9 => ?_) (fun h9 => absurd (by rw [hb.1]; exact nI_le (by omega) (by omega)) h9)
      refine aw_iload_n rfl rfl ?_
      exact aw_fi rfl rfl hX rfl
    | succ d ih =>
      intro i a hi hX
      refine aw_iload_n rfl rfl ?_
      refine aw_aload_n rfl rfl ?_
      refine pg_15_6 rfl kl_X8_43 ?_
      refine aw_icmp_ge (tgt := 33) rfl (by decide) (fun h9 => absurd h9 (by rw [hb.1]; exact nI_ge (by omega) (by omega))) (fun h9 => ?_)
      refine aw_aload_n rfl rfl ?_
      refine aw_iload_n rfl rfl ?_
      refine aw_iload_n rfl rfl ?_
      refine aw_iV (q0 := 15) (ci := 8) rfl cw_X8_135 rfl rfl rfl (c_X8_knowsIt (by have := hb.2.1; omega)) rfl rfl (Nat.le_of_ble_eq_true rfl) (by decide) (by decide) (by decide) (by decide) ?_
      refine aw_if_eq (tgt := 27) rfl (by decide) (fun h18 => ?_) (fun h18 => ?_)
      · refine aw_inc1 rfl rfl (by decide) ?_
        refine aw_goto (tgt := 4) rfl (by decide) ?_
        refine aw_wk (ih (i + 1) _ (by omega) ?_) (And.intro rfl (And.intro rfl (And.intro rfl (And.intro (congrArg (fun x => some (Value.int x)) (nI_1 i)) True.intro))))
        rw [bB_0] at h18; exact Eq.trans (congrArg (fd _ (i + 1) d) (by simp [h18, bt])) hX
      · refine aw_iload_n rfl rfl ?_
        refine aw_iconst (v := 1) rfl (by decide) ?_
        refine aw_iload_n rfl rfl ?_
        refine aw_ishl rfl ?_
        refine aw_ior rfl ?_
        refine aw_istore_n rfl (by decide) ?_
        refine aw_inc1 rfl rfl (by decide) ?_
        refine aw_goto (tgt := 4) rfl (by decide) ?_
        refine aw_wk (ih (i + 1) _ (by omega) ?_) (And.intro rfl (And.intro rfl (And.intro rfl (And.intro (congrArg (fun x => some (Value.int x)) (nI_1 i)) True.intro))))
        rw [bB_0] at h18; exact Eq.trans (congrArg (fd _ (i + 1) d) (by simp [h18, bt])) hX
  refine aw_F_of mo_X8_knownTo (by decide) (Nat.le_of_ble_eq_true rfl) ?_
  refine aw_iconst (v := 0) rfl (by decide) ?_
  refine aw_istore_n rfl (by decide) ?_
  refine aw_iconst (v := 0) rfl (by decide) ?_
  refine aw_istore_n rfl (by decide) ?_
  refine aw_wk (loop T 0 0 (by omega) hXX) (And.intro rfl (And.intro rfl (And.intro rfl (And.intro rfl True.intro))))
set_option maxRecDepth 4000 in
theorem c_X8_isSkilledFor {l : Launch} {g : ag_G} {s : am_S} {n : am_N} {r j : Nat} (hr : r < 5) (hj : j < 7) : aw_F l g mi_X8_isSkilledFor 0 [.ref (g_ad g 15), .int (nI r), .int (nI j)] (hp g s n) (.int (bB (sk s r j))) (hp g s n) := by
  refine aw_F_of mo_X8_isSkilledFor (by decide) (Nat.le_of_ble_eq_true rfl) ?_
  refine aw_aload_n rfl rfl ?_
  refine pg_15_1 rfl kl_X8_11 ?_
  refine aw_bipush (v := 26) rfl (by decide) ?_
  refine aw_iload_n rfl rfl ?_
  refine aw_iadd rfl ?_
  refine pl_16 rfl (iL 26 r rfl) (by omega) ?_
  refine aw_iconst (v := 2) rfl (by decide) ?_
  refine aw_aload_n rfl rfl ?_
  refine pg_15_1 rfl kl_X8_11 ?_
  refine aw_bipush (v := 12) rfl (by decide) ?_
  refine aw_iload_n rfl rfl ?_
  refine aw_iadd rfl ?_
  refine pl_16 rfl (iL 12 j rfl) (by omega) ?_
  refine aw_imul rfl ?_
  refine aw_icmp_lt (tgt := 27) rfl (by decide) (fun h20 => ?_) (fun h20 => ?_)
  · refine aw_iconst (v := 0) rfl (by decide) ?_
    exact aw_fz rfl rfl (by first | exact Or.inl rfl | exact Or.inr rfl | exact bB_01) (by simp only [sk, bB_z, bB_1, decide_eq_true_eq, decide_eq_false_iff_not, Int32.not_le, Int32.not_lt] at *; exact h20) rfl
  · refine aw_iconst (v := 1) rfl (by decide) ?_
    refine aw_goto (tgt := 28) rfl (by decide) ?_
    exact aw_fz rfl rfl (by first | exact Or.inl rfl | exact Or.inr rfl | exact bB_01) (by simp only [sk, bB_z, bB_1, decide_eq_true_eq, decide_eq_false_iff_not, Int32.not_le, Int32.not_lt] at *; exact h20) rfl
set_option maxRecDepth 4000 in
theorem c_X8_skilledFor {l : Launch} {g : ag_G} {s : am_S} {n : am_N} {j : Nat} (hj : j < 7) {T Q : Nat} (hb : kb s T Q) : aw_F l g mi_X8_skilledFor 2 [.ref (g_ad g 15), .int (nI j)] (hp g s n) (.int ((fd (fun i a => if nI i = s 18 j then a else if sk s i j then a ||| bt i else a) 0 (Q) 0))) (hp g s n) := by
  have hN : Q < 2 ^ 31 := (by have := hb.2.2.2.1; omega)
  generalize hXX : (fd (fun i a => if nI i = s 18 j then a else if sk s i j then a ||| bt i else a) 0 (Q) 0) = X
  have loop : ∀ (d i : Nat) (a : Int32), i + d = Q → fd (fun i a => if nI i = s 18 j then a else if sk s i j then a ||| bt i else a) i d a = X → aw_W l g mi_X8_skilledFor (aw_rm 2 0 0) (aw_Z g (fun r w => r = some (.int X) ∧ w = hp g s n) 0 0) 0 0 (hp g s n) 4 [some (.ref (g_ad g 15)), some (.int (nI j)), some (.int a), some (.int (nI i))] [] := by
    intro d
    induction d with
    | zero =>
      intro i a hi hX
      refine aw_iload_n rfl rfl ?_
      refine aw_aload_n rfl rfl ?_
      refine pg_15_7 rfl kl_X8_47 ?_
      refine aw_icmp_ge (tgt := 43) rfl (by decide) (fun h9 => ?_) (fun h9 => absurd (by rw [hb.2.2.1]; exact nI_le (by omega) (by omega)) h9)
      refine aw_iload_n rfl rfl ?_
      exact aw_fi rfl rfl hX rfl
    | succ d ih =>
      intro i a hi hX
      refine aw_iload_n rfl rfl ?_
      refine aw_aload_n rfl rfl ?_
      refine pg_15_7 rfl kl_X8_47 ?_
      refine aw_icmp_ge (tgt := 43) rfl (by decide) (fun h9 => absurd h9 (by rw [hb.2.2.1]; exact nI_ge (by omega) (by omega))) (fun h9 => ?_)
      refine aw_iload_n rfl rfl ?_
      refine aw_aload_n rfl rfl ?_
      refine pg_15_3 rfl kl_X8_18 ?_
      refine aw_iload_n rfl rfl ?_
      refine pl_18 rfl rfl (by omega) ?_
      refine aw_icmp_eq (tgt := 37) rfl (by decide) (fun h19 => ?_) (fun h19 => ?_)
      · refine aw_inc1 rfl rfl (by decide) ?_
        refine aw_goto (tgt := 4) rfl (by decide) ?_
        refine aw_wk (ih (i + 1) _ (by omega) ?_) (And.intro rfl (And.intro rfl (And.intro rfl (And.intro (congrArg (fun x => some (Value.int x)) (nI_1 i)) True.intro))))
        first | (rw [bB_0] at h28; exact Eq.trans (congrArg (fd _ (i + 1) d) (by simp [h19, h28, bt])) hX) | exact Eq.trans (congrArg (fd _ (i + 1) d) (by simp [h19])) hX
      · refine aw_aload_n rfl rfl ?_
        refine aw_iload_n rfl rfl ?_
        refine aw_iload_n rfl rfl ?_
        refine aw_iV (q0 := 15) (ci := 8) rfl cw_X8_126 rfl rfl rfl (c_X8_isSkilledFor (by have := hb.2.2.2.1; omega) hj) rfl rfl (Nat.le_of_ble_eq_true rfl) (by decide) (by decide) (by decide) (by decide) ?_
        refine aw_if_eq (tgt := 37) rfl (by decide) (fun h28 => ?_) (fun h28 => ?_)
        · refine aw_inc1 rfl rfl (by decide) ?_
          refine aw_goto (tgt := 4) rfl (by decide) ?_
          refine aw_wk (ih (i + 1) _ (by omega) ?_) (And.intro rfl (And.intro rfl (And.intro rfl (And.intro (congrArg (fun x => some (Value.int x)) (nI_1 i)) True.intro))))
          first | (rw [bB_0] at h28; exact Eq.trans (congrArg (fd _ (i + 1) d) (by simp [h19, h28, bt])) hX) | exact Eq.trans (congrArg (fd _ (i + 1) d) (by simp [h19])) hX
        · refine aw_iload_n rfl rfl ?_
          refine aw_iconst (v := 1) rfl (by decide) ?_
          refine aw_iload_n rfl rfl ?_
          refine aw_ishl rfl ?_
          refine aw_ior rfl ?_
          refine aw_istore_n rfl (by decide) ?_
          refine aw_inc1 rfl rfl (by decide) ?_
          refine aw_goto (tgt := 4) rfl (by decide) ?_
          refine aw_wk (ih (i + 1) _ (by omega) ?_) (And.intro rfl (And.intro rfl (And.intro rfl (And.intro (congrArg (fun x => some (Value.int x)) (nI_1 i)) True.intro))))
          first | (rw [bB_0] at h28; exact Eq.trans (congrArg (fd _ (i + 1) d) (by simp [h19, h28, bt])) hX) | exact Eq.trans (congrArg (fd _ (i + 1) d) (by simp [h19])) hX
  refine aw_F_of mo_X8_skilledFor (by decide) (Nat.le_of_ble_eq_true rfl) ?_
  refine aw_iconst (v := 0) rfl (by decide) ?_
  refine aw_istore_n rfl (by decide) ?_
  refine aw_iconst (v := 0) rfl (by decide) ?_
  refine aw_istore_n rfl (by decide) ?_
  refine aw_wk (loop Q 0 0 (by omega) hXX) (And.intro rfl (And.intro rfl (And.intro rfl (And.intro rfl True.intro))))
set_option maxRecDepth 4000 in
theorem c_X8_depthKnownOfOthers {l : Launch} {g : ag_G} {s : am_S} {n : am_N} {r : Int32} {T Q : Nat} (hb : kb s T Q) : aw_F l g mi_X8_depthKnownOfOthers 2 [.ref (g_ad g 15), .int r] (hp g s n) (.int ((fd (fun i a => if s 18 i = r then a else if kn s r i then a + s 20 i else a) 0 (T) 0))) (hp g s n) := by
  have hN : T < 2 ^ 31 := (by have := hb.2.1; omega)
  generalize hXX : (fd (fun i a => if s 18 i = r then a else if kn s r i then a + s 20 i else a) 0 (T) 0) = X
  have loop : ∀ (d i : Nat) (a : Int32), i + d = T → fd (fun i a => if s 18 i = r then a else if kn s r i then a + s 20 i else a) i d a = X → aw_W l g mi_X8_depthKnownOfOthers (aw_rm 2 0 0) (aw_Z g (fun r w => r = some (.int X) ∧ w = hp g s n) 0 0) 0 0 (hp g s n) 4 [some (.ref (g_ad g 15)), some (.int r), some (.int a), some (.int (nI i))] [] := by
    intro d
    induction d with
    | zero =>
      intro i a hi hX
      refine aw_iload_n rfl rfl ?_
      refine aw_aload_n rfl rfl ?_
      refine pg_15_6 rfl kl_X8_43 ?_
      refine aw_icmp_ge (tgt := 46) rfl (by decide) (fun h9 => ?_) (fun h9 => absurd (by rw [hb.1]; exact nI_le (by omega) (by omega)) h9)
      refine aw_iload_n rfl rfl ?_
      exact aw_fi rfl rfl hX rfl
    | succ d ih =>
      intro i a hi hX
      refine aw_iload_n rfl rfl ?_
      refine aw_aload_n rfl rfl ?_
      refine pg_15_6 rfl kl_X8_43 ?_
      refine aw_icmp_ge (tgt := 46) rfl (by decide) (fun h9 => absurd h9 (by rw [hb.1]; exact nI_ge (by omega) (by omega))) (fun h9 => ?_)
      refine aw_aload_n rfl rfl ?_
      refine pg_15_3 rfl kl_X8_18 ?_
      refine aw_iload_n rfl rfl ?_
      refine pl_18 rfl rfl (by have := hb.2.1; omega) ?_
      refine aw_iload_n rfl rfl ?_
      refine aw_icmp_eq (tgt := 40) rfl (by decide) (fun h19 => ?_) (fun h19 => ?_)
      · refine aw_inc1 rfl rfl (by decide) ?_
        refine aw_goto (tgt := 4) rfl (by decide) ?_
        refine aw_wk (ih (i + 1) _ (by omega) ?_) (And.intro rfl (And.intro rfl (And.intro rfl (And.intro (congrArg (fun x => some (Value.int x)) (nI_1 i)) True.intro))))
        first | (rw [bB_0] at h28; exact Eq.trans (congrArg (fd _ (i + 1) d) (by simp [h19, h28])) hX) | exact Eq.trans (congrArg (fd _ (i + 1) d) (by simp [h19])) hX
      · refine aw_aload_n rfl rfl ?_
        refine aw_iload_n rfl rfl ?_
        refine aw_iload_n rfl rfl ?_
        refine aw_iV (q0 := 15) (ci := 8) rfl cw_X8_135 rfl rfl rfl (c_X8_knowsIt (by have := hb.2.1; omega)) rfl rfl (Nat.le_of_ble_eq_true rfl) (by decide) (by decide) (by decide) (by decide) ?_
        refine aw_if_eq (tgt := 40) rfl (by decide) (fun h28 => ?_) (fun h28 => ?_)
        · refine aw_inc1 rfl rfl (by decide) ?_
          refine aw_goto (tgt := 4) rfl (by decide) ?_
          refine aw_wk (ih (i + 1) _ (by omega) ?_) (And.intro rfl (And.intro rfl (And.intro rfl (And.intro (congrArg (fun x => some (Value.int x)) (nI_1 i)) True.intro))))
          first | (rw [bB_0] at h28; exact Eq.trans (congrArg (fd _ (i + 1) d) (by simp [h19, h28])) hX) | exact Eq.trans (congrArg (fd _ (i + 1) d) (by simp [h19])) hX
        · refine aw_iload_n rfl rfl ?_
          refine aw_aload_n rfl rfl ?_
          refine pg_15_5 rfl kl_X8_24 ?_
          refine aw_iload_n rfl rfl ?_
          refine pl_20 rfl rfl (by have := hb.2.1; omega) ?_
          refine aw_iadd rfl ?_
          refine aw_istore_n rfl (by decide) ?_
          refine aw_inc1 rfl rfl (by decide) ?_
          refine aw_goto (tgt := 4) rfl (by decide) ?_
          refine aw_wk (ih (i + 1) _ (by omega) ?_) (And.intro rfl (And.intro rfl (And.intro rfl (And.intro (congrArg (fun x => some (Value.int x)) (nI_1 i)) True.intro))))
          first | (rw [bB_0] at h28; exact Eq.trans (congrArg (fd _ (i + 1) d) (by simp [h19, h28])) hX) | exact Eq.trans (congrArg (fd _ (i + 1) d) (by simp [h19])) hX
  refine aw_F_of mo_X8_depthKnownOfOthers (by decide) (Nat.le_of_ble_eq_true rfl) ?_
  refine aw_iconst (v := 0) rfl (by decide) ?_
  refine aw_istore_n rfl (by decide) ?_
  refine aw_iconst (v := 0) rfl (by decide) ?_
  refine aw_istore_n rfl (by decide) ?_
  refine aw_wk (loop T 0 0 (by omega) hXX) (And.intro rfl (And.intro rfl (And.intro rfl (And.intro rfl True.intro))))
set_option maxRecDepth 4000 in
theorem c_X8_foremostRing {l : Launch} {g : ag_G} {s : am_S} {n : am_N} {f : Nat} (hf : f ≤ 31) {T Q : Nat} (hb : kb s T Q) (hQ : 0 < Q)  : aw_F l g mi_X8_foremostRing 2 [.ref (g_ad g 15), .int (nI f)] (hp g s n) (.int ((nI (fd (fun i a => if s 16 (f + a) < s 16 (f + i) then i else a) 1 (Q - 1) 0)))) (hp g s n) := by
  have hN : Q < 2 ^ 31 := (by have := hb.2.2.2.1; omega)
  generalize hXX : (fd (fun i a => if s 16 (f + a) < s 16 (f + i) then i else a) 1 (Q - 1) 0) = X
  have loop : ∀ (d i : Nat) (a : Nat), i + d = Q → a < Q → fd (fun i a => if s 16 (f + a) < s 16 (f + i) then i else a) i d a = X → aw_W l g mi_X8_foremostRing (aw_rm 2 0 0) (aw_Z g (fun r w => r = some (.int (nI X)) ∧ w = hp g s n) 0 0) 0 0 (hp g s n) 4 [some (.ref (g_ad g 15)), some (.int (nI f)), some (.int (nI a)), some (.int (nI i))] [] := by
    intro d
    induction d with
    | zero =>
      intro i a hi hv hX
      refine aw_iload_n rfl rfl ?_
      refine aw_aload_n rfl rfl ?_
      refine pg_15_7 rfl kl_X8_47 ?_
      refine aw_icmp_ge (tgt := 39) rfl (by decide) (fun h9 => ?_) (fun h9 => absurd (by rw [hb.2.2.1]; exact nI_le (by omega) (by omega)) h9)
      refine aw_iload_n rfl rfl ?_
      exact aw_fi rfl rfl (by rw [← hX]; rfl) rfl
    | succ d ih =>
      intro i a hi hv hX
      refine aw_iload_n rfl rfl ?_
      refine aw_aload_n rfl rfl ?_
      refine pg_15_7 rfl kl_X8_47 ?_
      refine aw_icmp_ge (tgt := 39) rfl (by decide) (fun h9 => absurd h9 (by rw [hb.2.2.1]; exact nI_ge (by omega) (by omega))) (fun h9 => ?_)
      refine aw_aload_n rfl rfl ?_
      refine pg_15_1 rfl kl_X8_11 ?_
      refine aw_iload_n rfl rfl ?_
      refine aw_iload_n rfl rfl ?_
      refine aw_iadd rfl ?_
      refine pl_16 rfl (nI_add _ _) (by have := hb.2.2.2.1; omega) ?_
      refine aw_aload_n rfl rfl ?_
      refine pg_15_1 rfl kl_X8_11 ?_
      refine aw_iload_n rfl rfl ?_
      refine aw_iload_n rfl rfl ?_
      refine aw_iadd rfl ?_
      refine pl_16 rfl (nI_add _ _) (by have := hb.2.2.2.1; omega) ?_
      refine aw_icmp_le (tgt := 33) rfl (by decide) (fun h28 => ?_) (fun h28 => ?_)
      · refine aw_inc1 rfl rfl (by decide) ?_
        refine aw_goto (tgt := 4) rfl (by decide) ?_
        refine aw_wk (ih (i + 1) _ (by omega) ?_ ?_) (And.intro rfl (And.intro rfl (And.intro rfl (And.intro (congrArg (fun x => some (Value.int x)) (nI_1 i)) True.intro))))
        · omega
        · exact Eq.trans (congrArg (fd _ (i + 1) d) (by simp [← Int32.not_le, h28])) hX
      · refine aw_iload_n rfl rfl ?_
        refine aw_istore_n rfl (by decide) ?_
        refine aw_inc1 rfl rfl (by decide) ?_
        refine aw_goto (tgt := 4) rfl (by decide) ?_
        refine aw_wk (ih (i + 1) _ (by omega) ?_ ?_) (And.intro rfl (And.intro rfl (And.intro rfl (And.intro (congrArg (fun x => some (Value.int x)) (nI_1 i)) True.intro))))
        · omega
        · exact Eq.trans (congrArg (fd _ (i + 1) d) (by simp [← Int32.not_le, h28])) hX
  refine aw_F_of mo_X8_foremostRing (by decide) (Nat.le_of_ble_eq_true rfl) ?_
  refine aw_iconst (v := 0) rfl (by decide) ?_
  refine aw_istore_n rfl (by decide) ?_
  refine aw_iconst (v := 1) rfl (by decide) ?_
  refine aw_istore_n rfl (by decide) ?_
  refine aw_wk (loop (Q - 1) 1 0 (by omega) (by omega) hXX) (And.intro rfl (And.intro rfl (And.intro rfl (And.intro rfl True.intro))))
set_option maxRecDepth 4000 in
theorem c_X8_setsAside {l : Launch} {g : ag_G} {s : am_S} {n : am_N} : aw_V l g mi_X8_setsAside 1 [.ref (g_ad g 15)] (hp g s n) (hp g (cp s 16 17 0 0 36) n) := by
  refine aw_V_of mo_X8_setsAside (by decide) (Nat.le_of_ble_eq_true rfl) ?_
  refine aw_aload_n rfl rfl ?_
  refine pg_15_1 rfl kl_X8_11 ?_
  refine aw_iconst (v := 0) rfl (by decide) ?_
  refine aw_aload_n rfl rfl ?_
  refine pg_15_2 rfl kl_X8_15 ?_
  refine aw_iconst (v := 0) rfl (by decide) ?_
  refine aw_bipush (v := 36) rfl (by decide) ?_
  refine pc_16_17 rfl km_X8_61 (a := 0) (b := 0) (c := 36) rfl rfl rfl (by decide) (by decide) (by decide) (Nat.le_of_ble_eq_true rfl) ?_
  exact aw_fv rfl rfl rfl
set_option maxRecDepth 4000 in
theorem c_X8_bringsBack {l : Launch} {g : ag_G} {s : am_S} {n : am_N} : aw_V l g mi_X8_bringsBack 1 [.ref (g_ad g 15)] (hp g s n) (hp g (cp s 17 16 0 0 36) n) := by
  refine aw_V_of mo_X8_bringsBack (by decide) (Nat.le_of_ble_eq_true rfl) ?_
  refine aw_aload_n rfl rfl ?_
  refine pg_15_2 rfl kl_X8_15 ?_
  refine aw_iconst (v := 0) rfl (by decide) ?_
  refine aw_aload_n rfl rfl ?_
  refine pg_15_1 rfl kl_X8_11 ?_
  refine aw_iconst (v := 0) rfl (by decide) ?_
  refine aw_bipush (v := 36) rfl (by decide) ?_
  refine pc_17_16 rfl km_X8_61 (a := 0) (b := 0) (c := 36) rfl rfl rfl (by decide) (by decide) (by decide) (Nat.le_of_ble_eq_true rfl) ?_
  exact aw_fv rfl rfl rfl
