/-! the reference: all, thing, games -/
set_option maxRecDepth 4000 in
theorem c_m_all {l : Launch} {g : ag_G} {s : am_S} {n : am_N} {MI : am_S → am_N → Prop} {V : (Nat → Int32) → Int32} {T Q : Nat} (hC : MC l g MI V s n T Q) (hr : rwb (s 52) T Q) {x : Int32} : aw_R l g mi_X12_all 104 skM [.ref (g_ad g 39), .int x] s n MI (.int (m_all V (up s 39 0 0) T Q x)) ((up s 39 0 0)) := by
  refine aw_R_of mo_X12_all (by decide) (Nat.le_of_ble_eq_true rfl) ?_
  refine aw_aload_n rfl rfl ?_
  refine aw_iconst (v := 0) rfl (by decide) ?_
  refine pp_39_0 rfl kl_X12_96 ?_
  have hC : MC l g MI V (up s 39 0 0) n T Q := hC.z0
  have hr : rwb ((up s 39 0 0) 52) T Q := hr
  generalize up s 39 0 0 = S at *
  have hT := hC.1.2.1
  have hTe := hC.1.1
  have hN_loop5 : T < 2 ^ 31 := (by omega)
  have loop5 : ∀ (X : Int32) (d i : Nat) (a : Int32), i + d = T → fd (fun i a => a ||| (if S 52 (3 * i + 1) = 0 then 0 else bt i)) i d a = X → aw_W l g mi_X12_all (aw_rm 104 0 0) (aw_Z g (fun r w => ∃ s' n', r = some (.int X) ∧ w = hp g s' n' ∧ eo skM S s' ∧ en n n' ∧ MI s' n') 0 0) 0 0 (hp g S n) 88 [some (.ref (g_ad g 39)), some (.int x), some (.int a), some (.int (nI i))] [] := by
    intro X d
    induction d with
    | zero =>
      intro i a hi hX
      simp only [fd] at hX
      subst hX
      have hiN : i = T := by omega
      refine aw_iload_n rfl rfl ?_
      refine aw_aload_n rfl rfl ?_
      refine pg_39_26 rfl kl_X12_291 ?_
      refine aw_icmp_ge (tgt := 123) rfl (by decide) (fun h93 => ?_) (fun h93 => absurd (by rw [hTe]; exact nI_le (by omega) (by omega)) h93)
      refine aw_iload_n rfl rfl ?_
      exact aw_ri rfl rfl rfl eo_rf en_rf hC.2.2.1
    | succ d ih =>
      intro i a hi hX
      simp only [fd] at hX
      refine aw_iload_n rfl rfl ?_
      refine aw_aload_n rfl rfl ?_
      refine pg_39_26 rfl kl_X12_291 ?_
      refine aw_icmp_ge (tgt := 123) rfl (by decide) (fun h93 => absurd h93 (by rw [hTe]; exact nI_ge (by omega) (by omega))) (fun h93 => ?_)
      refine aw_iload_n rfl rfl ?_
      refine aw_aload_n rfl rfl ?_
      refine pg_39_32 rfl kl_X12_61 ?_
      refine aw_iload_n rfl rfl ?_
      refine aw_iS rfl cw_X12_338 (c_m_isOpen_52 (j := i) (by omega)) rfl rfl (Nat.le_of_ble_eq_true rfl) (by decide) (by decide) (by decide) (by decide) ?_
      refine aw_if_eq (tgt := 112) rfl (by decide) (fun h105 => ?_) (fun h105 => ?_)
      · refine aw_iconst (v := 1) rfl (by decide) ?_
        refine aw_iload_n rfl rfl ?_
        refine aw_ishl rfl ?_
        refine aw_ior rfl ?_
        refine aw_istore_n rfl (by decide) ?_
        refine aw_inc1 rfl rfl (by decide) ?_
        refine aw_goto (tgt := 88) rfl (by decide) ?_
        refine aw_wk (ih (i + 1) _ (by omega) ?_) (And.intro rfl (And.intro rfl (And.intro rfl (And.intro (congrArg (fun x => some (Value.int x)) (nI_1 i)) True.intro))))
        refine Eq.trans (congrArg _ ?_) hX
        first | (show _ = a ||| _; rw [if_pos (of_decide_eq_true (bB_n0.mp h105))]; done) | (show _ = a ||| _; rw [if_neg (of_decide_eq_false (bB_0.mp h105))]; rfl; done) | fail "x"
      · refine aw_iconst (v := 0) rfl (by decide) ?_
        refine aw_goto (tgt := 115) rfl (by decide) ?_
        refine aw_ior rfl ?_
        refine aw_istore_n rfl (by decide) ?_
        refine aw_inc1 rfl rfl (by decide) ?_
        refine aw_goto (tgt := 88) rfl (by decide) ?_
        refine aw_wk (ih (i + 1) _ (by omega) ?_) (And.intro rfl (And.intro rfl (And.intro rfl (And.intro (congrArg (fun x => some (Value.int x)) (nI_1 i)) True.intro))))
        refine Eq.trans (congrArg _ ?_) hX
        first | (show _ = a ||| _; rw [if_pos (of_decide_eq_true (bB_n0.mp h105))]; done) | (show _ = a ||| _; rw [if_neg (of_decide_eq_false (bB_0.mp h105))]; rfl; done) | fail "x"
  have hN_loop6 : T < 2 ^ 31 := (by omega)
  have loop6 : ∀ (X : Int32) (d i : Nat) (a : Int32), i + d = T → fd (fun i a => a ||| (if bitc (S 52 (3 * i + 2)) = 1 then bt i else 0)) i d a = X → aw_W l g mi_X12_all (aw_rm 104 0 0) (aw_Z g (fun r w => ∃ s' n', r = some (.int X) ∧ w = hp g s' n' ∧ eo skM S s' ∧ en n n' ∧ MI s' n') 0 0) 0 0 (hp g S n) 127 [some (.ref (g_ad g 39)), some (.int x), some (.int a), some (.int (nI i))] [] := by
    intro X d
    induction d with
    | zero =>
      intro i a hi hX
      simp only [fd] at hX
      subst hX
      have hiN : i = T := by omega
      refine aw_iload_n rfl rfl ?_
      refine aw_aload_n rfl rfl ?_
      refine pg_39_26 rfl kl_X12_291 ?_
      refine aw_icmp_ge (tgt := 168) rfl (by decide) (fun h132 => ?_) (fun h132 => absurd (by rw [hTe]; exact nI_le (by omega) (by omega)) h132)
      refine aw_iload_n rfl rfl ?_
      exact aw_ri rfl rfl rfl eo_rf en_rf hC.2.2.1
    | succ d ih =>
      intro i a hi hX
      simp only [fd] at hX
      refine aw_iload_n rfl rfl ?_
      refine aw_aload_n rfl rfl ?_
      refine pg_39_26 rfl kl_X12_291 ?_
      refine aw_icmp_ge (tgt := 168) rfl (by decide) (fun h132 => absurd h132 (by rw [hTe]; exact nI_ge (by omega) (by omega))) (fun h132 => ?_)
      refine aw_iload_n rfl rfl ?_
      refine aw_aload_n rfl rfl ?_
      refine pg_39_32 rfl kl_X12_61 ?_
      refine aw_iconst (v := 3) rfl (by decide) ?_
      refine aw_iload_n rfl rfl ?_
      refine aw_imul rfl ?_
      refine aw_iconst (v := 2) rfl (by decide) ?_
      refine aw_iadd rfl ?_
      refine pl_52 rfl (i3 i 2) (by omega) ?_
      refine aw_iS rfl cw_X12_366 (c_bitCount) rfl rfl (Nat.le_of_ble_eq_true rfl) (by decide) (by decide) (by decide) (by decide) ?_
      refine aw_iconst (v := 1) rfl (by decide) ?_
      refine aw_icmp_ne (tgt := 159) rfl (by decide) (fun h150 => ?_) (fun h150 => ?_)
      · refine aw_iconst (v := 0) rfl (by decide) ?_
        refine aw_ior rfl ?_
        refine aw_istore_n rfl (by decide) ?_
        refine aw_inc1 rfl rfl (by decide) ?_
        refine aw_goto (tgt := 127) rfl (by decide) ?_
        refine aw_wk (ih (i + 1) _ (by omega) ?_) (And.intro rfl (And.intro rfl (And.intro rfl (And.intro (congrArg (fun x => some (Value.int x)) (nI_1 i)) True.intro))))
        refine Eq.trans (congrArg _ ?_) hX
        first | (show _ = a ||| _; rw [if_pos h150]; rfl; done) | (show _ = a ||| _; rw [if_neg h150]; done) | fail "x"
      · refine aw_iconst (v := 1) rfl (by decide) ?_
        refine aw_iload_n rfl rfl ?_
        refine aw_ishl rfl ?_
        refine aw_goto (tgt := 160) rfl (by decide) ?_
        refine aw_ior rfl ?_
        refine aw_istore_n rfl (by decide) ?_
        refine aw_inc1 rfl rfl (by decide) ?_
        refine aw_goto (tgt := 127) rfl (by decide) ?_
        refine aw_wk (ih (i + 1) _ (by omega) ?_) (And.intro rfl (And.intro rfl (And.intro rfl (And.intro (congrArg (fun x => some (Value.int x)) (nI_1 i)) True.intro))))
        refine Eq.trans (congrArg _ ?_) hX
        first | (show _ = a ||| _; rw [if_pos h150]; rfl; done) | (show _ = a ||| _; rw [if_neg h150]; done) | fail "x"
  have hN_loop7 : T < 2 ^ 31 := (by omega)
  have loop7 : ∀ (X : Int32) (d i : Nat) (a : Int32), i + d = T → fd (fun i a => a + S 52 (3 * i + 1)) i d a = X → aw_W l g mi_X12_all (aw_rm 104 0 0) (aw_Z g (fun r w => ∃ s' n', r = some (.int X) ∧ w = hp g s' n' ∧ eo skM S s' ∧ en n n' ∧ MI s' n') 0 0) 0 0 (hp g S n) 172 [some (.ref (g_ad g 39)), some (.int x), some (.int a), some (.int (nI i))] [] := by
    intro X d
    induction d with
    | zero =>
      intro i a hi hX
      simp only [fd] at hX
      subst hX
      have hiN : i = T := by omega
      refine aw_iload_n rfl rfl ?_
      refine aw_aload_n rfl rfl ?_
      refine pg_39_26 rfl kl_X12_291 ?_
      refine aw_icmp_ge (tgt := 199) rfl (by decide) (fun h177 => ?_) (fun h177 => absurd (by rw [hTe]; exact nI_le (by omega) (by omega)) h177)
      refine aw_iload_n rfl rfl ?_
      exact aw_ri rfl rfl rfl eo_rf en_rf hC.2.2.1
    | succ d ih =>
      intro i a hi hX
      simp only [fd] at hX
      refine aw_iload_n rfl rfl ?_
      refine aw_aload_n rfl rfl ?_
      refine pg_39_26 rfl kl_X12_291 ?_
      refine aw_icmp_ge (tgt := 199) rfl (by decide) (fun h177 => absurd h177 (by rw [hTe]; exact nI_ge (by omega) (by omega))) (fun h177 => ?_)
      refine aw_iload_n rfl rfl ?_
      refine aw_aload_n rfl rfl ?_
      refine pg_39_32 rfl kl_X12_61 ?_
      refine aw_iconst (v := 3) rfl (by decide) ?_
      refine aw_iload_n rfl rfl ?_
      refine aw_imul rfl ?_
      refine aw_iconst (v := 1) rfl (by decide) ?_
      refine aw_iadd rfl ?_
      refine pl_52 rfl (i3 i 1) (by omega) ?_
      refine aw_iadd rfl ?_
      refine aw_istore_n rfl (by decide) ?_
      refine aw_inc1 rfl rfl (by decide) ?_
      refine aw_goto (tgt := 172) rfl (by decide) ?_
      refine aw_wk (ih (i + 1) (a + S 52 (3 * i + 1)) (by omega) hX) (And.intro rfl (And.intro rfl (And.intro rfl (And.intro (congrArg (fun x => some (Value.int x)) (nI_1 i)) True.intro))))
  refine aw_aload_n rfl rfl ?_
  refine pg_39_26 rfl kl_X12_291 ?_
  refine aw_if_ne (tgt := 14) rfl (by decide) (fun h9 => ?_) (fun h9 => ?_)
  · refine aw_iconst (v := 0) rfl (by decide) ?_
    refine aw_istore_n rfl (by decide) ?_
    refine aw_iload_n rfl rfl ?_
    refine aw_sw 0 (fun h17_0 => ?_) (fun h17_0 => ?_)
    · refine aw_tabIn (off := 55) (tgt := 72) rfl (by decide) (by decide) (by decide) (by decide) ?_
      refine aw_aload_n rfl rfl ?_
      refine aw_iload_n rfl rfl ?_
      refine aw_rV (q0 := 39) (ci := 12) rfl cw_X12_469 rfl rfl rfl (c_m_greatest hC hr) rfl rfl (Nat.le_of_ble_eq_true rfl) (by decide) (by decide) (by decide) (by decide) (fun s1 n1 e1 f1 m1 => ?_)
      first
      | exact aw_ri rfl rfl (Eq.symm (by unfold m_all; rw [if_neg h9, if_pos h17_0])) e1 f1 m1
      | exact aw_ri rfl rfl (Eq.symm (by unfold m_all; rw [if_neg h9, if_neg h17_0, if_pos h17_1])) e1 f1 m1
      | exact aw_ri rfl rfl (Eq.symm (by unfold m_all; rw [if_neg h9, if_neg h17_0, if_neg h17_1, if_pos h17_2])) e1 f1 m1
      | fail "x"
    · skip
      refine aw_sw 1 (fun h17_1 => ?_) (fun h17_1 => ?_)
      · refine aw_tabIn (off := 55) (tgt := 72) rfl (by decide) (by decide) (by decide) (by decide) ?_
        refine aw_aload_n rfl rfl ?_
        refine aw_iload_n rfl rfl ?_
        refine aw_rV (q0 := 39) (ci := 12) rfl cw_X12_469 rfl rfl rfl (c_m_greatest hC hr) rfl rfl (Nat.le_of_ble_eq_true rfl) (by decide) (by decide) (by decide) (by decide) (fun s1 n1 e1 f1 m1 => ?_)
        first
        | exact aw_ri rfl rfl (Eq.symm (by unfold m_all; rw [if_neg h9, if_pos h17_0])) e1 f1 m1
        | exact aw_ri rfl rfl (Eq.symm (by unfold m_all; rw [if_neg h9, if_neg h17_0, if_pos h17_1])) e1 f1 m1
        | exact aw_ri rfl rfl (Eq.symm (by unfold m_all; rw [if_neg h9, if_neg h17_0, if_neg h17_1, if_pos h17_2])) e1 f1 m1
        | fail "x"
      · skip
        refine aw_sw 2 (fun h17_2 => ?_) (fun h17_2 => ?_)
        · refine aw_tabIn (off := 55) (tgt := 72) rfl (by decide) (by decide) (by decide) (by decide) ?_
          refine aw_aload_n rfl rfl ?_
          refine aw_iload_n rfl rfl ?_
          refine aw_rV (q0 := 39) (ci := 12) rfl cw_X12_469 rfl rfl rfl (c_m_greatest hC hr) rfl rfl (Nat.le_of_ble_eq_true rfl) (by decide) (by decide) (by decide) (by decide) (fun s1 n1 e1 f1 m1 => ?_)
          first
          | exact aw_ri rfl rfl (Eq.symm (by unfold m_all; rw [if_neg h9, if_pos h17_0])) e1 f1 m1
          | exact aw_ri rfl rfl (Eq.symm (by unfold m_all; rw [if_neg h9, if_neg h17_0, if_pos h17_1])) e1 f1 m1
          | exact aw_ri rfl rfl (Eq.symm (by unfold m_all; rw [if_neg h9, if_neg h17_0, if_neg h17_1, if_pos h17_2])) e1 f1 m1
          | fail "x"
        · skip
          refine aw_sw 3 (fun h17_3 => ?_) (fun h17_3 => ?_)
          · refine aw_tabIn (off := 61) (tgt := 78) rfl (by decide) (by decide) (by decide) (by decide) ?_
            refine aw_aload_n rfl rfl ?_
            refine aw_iload_n rfl rfl ?_
            refine aw_iconst (v := 3) rfl (by decide) ?_
            refine aw_isub rfl ?_
            first
            | refine aw_iV (q0 := 39) (ci := 12) rfl cw_X12_472 rfl rfl rfl (show aw_F l g mi_X12_greatestRing 0 [.ref (g_ad g 39), .int (x - 3)] (hp g S n) (.int (fd (gR S 0) 1 (Q - 1) 0)) (hp g S n) from by (rw [h17_3]; exact c_m_greatestRing (y := 0) hC.1.2.2.1 hC.1.2.2.2.1 (by decide))) rfl rfl (Nat.le_of_ble_eq_true rfl) (by decide) (by decide) (by decide) (by decide) ?_
            | refine aw_iV (q0 := 39) (ci := 12) rfl cw_X12_472 rfl rfl rfl (show aw_F l g mi_X12_greatestRing 0 [.ref (g_ad g 39), .int (x - 3)] (hp g S n) (.int (fd (gR S 1) 1 (Q - 1) 0)) (hp g S n) from by (rw [h17_4]; exact c_m_greatestRing (y := 1) hC.1.2.2.1 hC.1.2.2.2.1 (by decide))) rfl rfl (Nat.le_of_ble_eq_true rfl) (by decide) (by decide) (by decide) (by decide) ?_
            first
            | exact aw_ri rfl rfl (Eq.symm (by unfold m_all; rw [if_neg h9, if_neg h17_0, if_neg h17_1, if_neg h17_2, if_pos h17_3])) eo_rf en_rf hC.2.2.1
            | exact aw_ri rfl rfl (Eq.symm (by unfold m_all; rw [if_neg h9, if_neg h17_0, if_neg h17_1, if_neg h17_2, if_neg h17_3, if_pos h17_4])) eo_rf en_rf hC.2.2.1
            | fail "x"
          · skip
            refine aw_sw 4 (fun h17_4 => ?_) (fun h17_4 => ?_)
            · refine aw_tabIn (off := 61) (tgt := 78) rfl (by decide) (by decide) (by decide) (by decide) ?_
              refine aw_aload_n rfl rfl ?_
              refine aw_iload_n rfl rfl ?_
              refine aw_iconst (v := 3) rfl (by decide) ?_
              refine aw_isub rfl ?_
              first
              | refine aw_iV (q0 := 39) (ci := 12) rfl cw_X12_472 rfl rfl rfl (show aw_F l g mi_X12_greatestRing 0 [.ref (g_ad g 39), .int (x - 3)] (hp g S n) (.int (fd (gR S 0) 1 (Q - 1) 0)) (hp g S n) from by (rw [h17_3]; exact c_m_greatestRing (y := 0) hC.1.2.2.1 hC.1.2.2.2.1 (by decide))) rfl rfl (Nat.le_of_ble_eq_true rfl) (by decide) (by decide) (by decide) (by decide) ?_
              | refine aw_iV (q0 := 39) (ci := 12) rfl cw_X12_472 rfl rfl rfl (show aw_F l g mi_X12_greatestRing 0 [.ref (g_ad g 39), .int (x - 3)] (hp g S n) (.int (fd (gR S 1) 1 (Q - 1) 0)) (hp g S n) from by (rw [h17_4]; exact c_m_greatestRing (y := 1) hC.1.2.2.1 hC.1.2.2.2.1 (by decide))) rfl rfl (Nat.le_of_ble_eq_true rfl) (by decide) (by decide) (by decide) (by decide) ?_
              first
              | exact aw_ri rfl rfl (Eq.symm (by unfold m_all; rw [if_neg h9, if_neg h17_0, if_neg h17_1, if_neg h17_2, if_pos h17_3])) eo_rf en_rf hC.2.2.1
              | exact aw_ri rfl rfl (Eq.symm (by unfold m_all; rw [if_neg h9, if_neg h17_0, if_neg h17_1, if_neg h17_2, if_neg h17_3, if_pos h17_4])) eo_rf en_rf hC.2.2.1
              | fail "x"
            · skip
              refine aw_sw 5 (fun h17_5 => ?_) (fun h17_5 => ?_)
              · refine aw_tabIn (off := 69) (tgt := 86) rfl (by decide) (by decide) (by decide) (by decide) ?_
                refine aw_iconst (v := 0) rfl (by decide) ?_
                refine aw_istore_n rfl (by decide) ?_
                exact aw_wk (loop5 _ T 0 0 (by omega) (Eq.symm (by unfold m_all; rw [if_neg h9, if_neg h17_0, if_neg h17_1, if_neg h17_2, if_neg h17_3, if_neg h17_4, if_pos h17_5]))) (And.intro rfl (And.intro rfl (And.intro rfl (And.intro rfl True.intro))))
              · skip
                refine aw_sw 6 (fun h17_6 => ?_) (fun h17_6 => ?_)
                · refine aw_tabIn (off := 108) (tgt := 125) rfl (by decide) (by decide) (by decide) (by decide) ?_
                  refine aw_iconst (v := 0) rfl (by decide) ?_
                  refine aw_istore_n rfl (by decide) ?_
                  exact aw_wk (loop6 _ T 0 0 (by omega) (Eq.symm (by unfold m_all; rw [if_neg h9, if_neg h17_0, if_neg h17_1, if_neg h17_2, if_neg h17_3, if_neg h17_4, if_neg h17_5, if_pos h17_6]))) (And.intro rfl (And.intro rfl (And.intro rfl (And.intro rfl True.intro))))
                · skip
                  refine aw_sw 7 (fun h17_7 => ?_) (fun h17_7 => ?_)
                  · refine aw_tabIn (off := 153) (tgt := 170) rfl (by decide) (by decide) (by decide) (by decide) ?_
                    refine aw_iconst (v := 0) rfl (by decide) ?_
                    refine aw_istore_n rfl (by decide) ?_
                    exact aw_wk (loop7 _ T 0 0 (by omega) (Eq.symm (by unfold m_all; rw [if_neg h9, if_neg h17_0, if_neg h17_1, if_neg h17_2, if_neg h17_3, if_neg h17_4, if_neg h17_5, if_neg h17_6, if_pos h17_7]))) (And.intro rfl (And.intro rfl (And.intro rfl (And.intro rfl True.intro))))
                  · skip
                    refine aw_sw 8 (fun h17_8 => ?_) (fun h17_8 => ?_)
                    · refine aw_tabIn (off := 184) (tgt := 201) rfl (by decide) (by decide) (by decide) (by decide) ?_
                      refine aw_aload_n rfl rfl ?_
                      refine pg_39_32 rfl kl_X12_61 ?_
                      refine aw_bipush (v := 34) rfl (by decide) ?_
                      refine pl_52 (j := 34) rfl rfl (by decide) ?_
                      exact aw_ri rfl rfl (Eq.symm (by unfold m_all; rw [if_neg h9, if_neg h17_0, if_neg h17_1, if_neg h17_2, if_neg h17_3, if_neg h17_4, if_neg h17_5, if_neg h17_6, if_neg h17_7, if_pos h17_8])) eo_rf en_rf hC.2.2.1
                    · skip
                      refine aw_sw 9 (fun h17_9 => ?_) (fun h17_9 => ?_)
                      · refine aw_tabIn (off := 192) (tgt := 209) rfl (by decide) (by decide) (by decide) (by decide) ?_
                        refine aw_bipush (v := 12) rfl (by decide) ?_
                        refine aw_aload_n rfl rfl ?_
                        refine pg_39_32 rfl kl_X12_61 ?_
                        refine aw_bipush (v := 35) rfl (by decide) ?_
                        refine pl_52 (j := 35) rfl rfl (by decide) ?_
                        refine aw_bipush (v := 12) rfl (by decide) ?_
                        refine aw_irem rfl (by decide) ?_
                        refine aw_isub rfl ?_
                        refine aw_bipush (v := 12) rfl (by decide) ?_
                        refine aw_irem rfl (by decide) ?_
                        exact aw_ri rfl rfl (Eq.symm (by unfold m_all; rw [if_neg h9, if_neg h17_0, if_neg h17_1, if_neg h17_2, if_neg h17_3, if_neg h17_4, if_neg h17_5, if_neg h17_6, if_neg h17_7, if_neg h17_8, if_pos h17_9]; rfl)) eo_rf en_rf hC.2.2.1
                      · skip
                        refine aw_tabOut (tgt := 226) rfl (by have e0 := ne_toInt h17_0 (i := 0) (by decide); have e1 := ne_toInt h17_1 (i := 1) (by decide); have e2 := ne_toInt h17_2 (i := 2) (by decide); have e3 := ne_toInt h17_3 (i := 3) (by decide); have e4 := ne_toInt h17_4 (i := 4) (by decide); have e5 := ne_toInt h17_5 (i := 5) (by decide); have e6 := ne_toInt h17_6 (i := 6) (by decide); have e7 := ne_toInt h17_7 (i := 7) (by decide); have e8 := ne_toInt h17_8 (i := 8) (by decide); have e9 := ne_toInt h17_9 (i := 9) (by decide); omega) (by decide) ?_
                        refine aw_iconst (v := -1) rfl (by decide) ?_
                        exact aw_ri rfl rfl (Eq.symm (by unfold m_all; rw [if_neg h9, if_neg h17_0, if_neg h17_1, if_neg h17_2, if_neg h17_3, if_neg h17_4, if_neg h17_5, if_neg h17_6, if_neg h17_7, if_neg h17_8, if_neg h17_9])) eo_rf en_rf hC.2.2.1
  · refine aw_iconst (v := -1) rfl (by decide) ?_
    exact aw_ri rfl rfl (Eq.symm (by unfold m_all; rw [if_pos h9])) eo_rf en_rf hC.2.2.1
set_option maxRecDepth 4000 in
theorem c_m_thing {l : Launch} {g : ag_G} {s : am_S} {n : am_N} {MI : am_S → am_N → Prop} {V : (Nat → Int32) → Int32} {T Q : Nat} (hC : MC l g MI V s n T Q) (hr : rwb (s 52) T Q) {t x : Int32} : aw_R l g mi_X12_thing 102 skM [.ref (g_ad g 39), .int t, .int x] s n MI (.int (if okT s t x = true then m_thing V s t x else 0)) (up s 39 0 (if okT s t x = true then 0 else 1)) := by
  have hT := hC.1.2.1
  have hC0 := hC.th 0
  have rest : okT s t x = true → aw_W l g mi_X12_thing (aw_rm 102 0 0) (aw_Z g (fun r w => ∃ s' n', r = some (.int (if okT s t x = true then m_thing V s t x else 0)) ∧ w = hp g s' n' ∧ eo skM (up s 39 0 (if okT s t x = true then 0 else 1)) s' ∧ en n n' ∧ MI s' n') 0 0) 0 0 (hp g (up s 39 0 0) n) 38 [some (.ref (g_ad g 39)), some (.int t), some (.int x)] [] := by
    intro hok
    obtain ⟨q1, q2⟩ := Bool.and_eq_true_iff.mp hok
    obtain ⟨j, hj, rfl⟩ := isTm_nI hC.1 q1
    obtain ⟨c, hc, rfl⟩ := inn_nI (M := 6) (by decide) (by decide) q2
    have hcj : cl (nI j) = j := cl_nI (by omega)
    have hcc : cl (nI c) = c := cl_nI (by omega)
    rw [if_pos hok, if_pos hok]
    refine aw_iload_n rfl rfl ?_
    refine aw_sw 3 (fun h39_3 => ?_) (fun h39_3 => ?_)
    · refine aw_tabIn (off := 29) (tgt := 68) rfl (by decide) (by decide) (by decide) (by decide) ?_
      refine aw_aload_n rfl rfl ?_
      refine pg_39_32 rfl kl_X12_61 ?_
      refine aw_iconst (v := 3) rfl (by decide) ?_
      refine aw_iload_n rfl rfl ?_
      refine aw_imul rfl ?_
      refine aw_iconst (v := 0) rfl (by decide) ?_
      refine aw_iadd rfl ?_
      refine pl_52 rfl (i3 j 0) (by omega) ?_
      exact aw_ri rfl rfl (Eq.symm (by unfold m_thing; rw [if_pos h39_3, hcj]; rfl)) eo_rf en_rf hC0.2.2.1
    · skip
      refine aw_sw 4 (fun h39_4 => ?_) (fun h39_4 => ?_)
      · refine aw_tabIn (off := 40) (tgt := 79) rfl (by decide) (by decide) (by decide) (by decide) ?_
        refine aw_aload_n rfl rfl ?_
        refine pg_39_32 rfl kl_X12_61 ?_
        refine aw_iconst (v := 3) rfl (by decide) ?_
        refine aw_iload_n rfl rfl ?_
        refine aw_imul rfl ?_
        refine aw_iconst (v := 1) rfl (by decide) ?_
        refine aw_iadd rfl ?_
        refine pl_52 rfl (i3 j 1) (by omega) ?_
        exact aw_ri rfl rfl (Eq.symm (by unfold m_thing; rw [if_neg h39_3, if_pos h39_4, hcj]; rfl)) eo_rf en_rf hC0.2.2.1
      · skip
        refine aw_sw 5 (fun h39_5 => ?_) (fun h39_5 => ?_)
        · refine aw_tabIn (off := 51) (tgt := 90) rfl (by decide) (by decide) (by decide) (by decide) ?_
          refine aw_aload_n rfl rfl ?_
          refine pg_39_32 rfl kl_X12_61 ?_
          refine aw_iconst (v := 3) rfl (by decide) ?_
          refine aw_iload_n rfl rfl ?_
          refine aw_imul rfl ?_
          refine aw_iconst (v := 2) rfl (by decide) ?_
          refine aw_iadd rfl ?_
          refine pl_52 rfl (i3 j 2) (by omega) ?_
          exact aw_ri rfl rfl (Eq.symm (by unfold m_thing; rw [if_neg h39_3, if_neg h39_4, if_pos h39_5, hcj]; rfl)) eo_rf en_rf hC0.2.2.1
        · skip
          refine aw_sw 6 (fun h39_6 => ?_) (fun h39_6 => ?_)
          · refine aw_tabIn (off := 62) (tgt := 101) rfl (by decide) (by decide) (by decide) (by decide) ?_
            refine aw_aload_n rfl rfl ?_
            refine aw_aload_n rfl rfl ?_
            refine pg_39_32 rfl kl_X12_61 ?_
            refine aw_iload_n rfl rfl ?_
            refine aw_rV (q0 := 39) (ci := 12) rfl cw_X12_342 rfl rfl rfl (c_m_holds_52 (s := up s 39 0 0) hC0 hr hj) rfl rfl (Nat.le_of_ble_eq_true rfl) (by decide) (by decide) (by decide) (by decide) (fun s1 n1 e1 f1 m1 => ?_)
            exact aw_ri rfl rfl (Eq.symm (by unfold m_thing; rw [if_neg h39_3, if_neg h39_4, if_neg h39_5, if_pos h39_6, hcj]; rfl)) e1 f1 m1
          · skip
            refine aw_tabOut (tgt := 111) rfl (by have e3 := ne_toInt h39_3 (i := 3) (by decide); have e4 := ne_toInt h39_4 (i := 4) (by decide); have e5 := ne_toInt h39_5 (i := 5) (by decide); have e6 := ne_toInt h39_6 (i := 6) (by decide); omega) (by decide) ?_
            refine aw_aload_n rfl rfl ?_
            refine aw_iload_n rfl rfl ?_
            refine aw_iload_n rfl rfl ?_
            have hc3 : c ≠ 3 ∧ c ≠ 4 ∧ c ≠ 5 ∧ c ≠ 6 := ⟨fun e => h39_3 (by rw [e]; rfl), fun e => h39_4 (by rw [e]; rfl), fun e => h39_5 (by rw [e]; rfl), fun e => h39_6 (by rw [e]; rfl)⟩
            refine aw_iV (q0 := 39) (ci := 12) rfl cw_X12_319 rfl rfl rfl (c_m_of (j := j) (c := c) (by omega) (by omega)) rfl rfl (Nat.le_of_ble_eq_true rfl) (by decide) (by decide) (by decide) (by decide) ?_
            exact aw_ri rfl rfl (Eq.symm (by unfold m_thing; rw [if_neg h39_3, if_neg h39_4, if_neg h39_5, if_neg h39_6, hcj, hcc]; rfl)) eo_rf en_rf hC0.2.2.1
  refine aw_R_of mo_X12_thing (by decide) (Nat.le_of_ble_eq_true rfl) ?_
  refine aw_aload_n rfl rfl ?_
  refine aw_aload_n rfl rfl ?_
  refine aw_iload_n rfl rfl ?_
  refine aw_iV (q0 := 39) (ci := 12) rfl cw_X12_346 rfl rfl rfl (c_m_isThing) rfl rfl (Nat.le_of_ble_eq_true rfl) (by decide) (by decide) (by decide) (by decide) ?_
  refine aw_if_eq (tgt := 25) rfl (by decide) (fun h6 => ?_) (fun h6 => ?_)
  · refine aw_iconst (v := 1) rfl (by decide) ?_
    refine pp_39_0 rfl kl_X12_96 ?_
    refine aw_aload_n rfl rfl ?_
    refine pg_39_0 rfl kl_X12_96 ?_
    refine aw_if_le (tgt := 38) rfl (by decide) (fun h33 => ?_) (fun h33 => ?_)
    · first | exact aw_wk (rest (by unfold okT; rw [bB_n0.mp h6, bB_n0.mp h18]; rfl)) (And.intro rfl (And.intro rfl (And.intro rfl True.intro))) | exact absurd (show (1 : Int32) ≤ 0 from h33) (by decide)
    · refine aw_iconst (v := 0) rfl (by decide) ?_
      first
      | exact absurd (show (0 : Int32) ≤ 0 from by decide) h33
      | (have q : ¬ okT s t x = true := by (unfold okT; first | (rw [bB_0.mp h6]; exact Bool.false_ne_true) | (rw [bB_0.mp h18, Bool.and_false]; exact Bool.false_ne_true))
         rw [if_neg q, if_neg q]
         exact aw_ri rfl rfl rfl eo_rf en_rf (hC.th 1).2.2.1)
  · refine aw_iload_n rfl rfl ?_
    refine aw_i2l rfl ?_
    refine aw_lconst (v := 0) rfl (by decide) ?_
    refine aw_ldc2 (v := 6) rfl (aw_t7 100 rfl rfl) ?_
    refine aw_iS rfl cw_X12_217 (c_m_isIn) rfl rfl (Nat.le_of_ble_eq_true rfl) (by decide) (by decide) (by decide) (by decide) ?_
    refine aw_if_eq (tgt := 25) rfl (by decide) (fun h18 => ?_) (fun h18 => ?_)
    · refine aw_iconst (v := 1) rfl (by decide) ?_
      refine pp_39_0 rfl kl_X12_96 ?_
      refine aw_aload_n rfl rfl ?_
      refine pg_39_0 rfl kl_X12_96 ?_
      refine aw_if_le (tgt := 38) rfl (by decide) (fun h33 => ?_) (fun h33 => ?_)
      · first | exact aw_wk (rest (by unfold okT; rw [bB_n0.mp h6, bB_n0.mp h18]; rfl)) (And.intro rfl (And.intro rfl (And.intro rfl True.intro))) | exact absurd (show (1 : Int32) ≤ 0 from h33) (by decide)
      · refine aw_iconst (v := 0) rfl (by decide) ?_
        first
        | exact absurd (show (0 : Int32) ≤ 0 from by decide) h33
        | (have q : ¬ okT s t x = true := by (unfold okT; first | (rw [bB_0.mp h6]; exact Bool.false_ne_true) | (rw [bB_0.mp h18, Bool.and_false]; exact Bool.false_ne_true))
           rw [if_neg q, if_neg q]
           exact aw_ri rfl rfl rfl eo_rf en_rf (hC.th 1).2.2.1)
    · refine aw_iconst (v := 0) rfl (by decide) ?_
      refine aw_goto (tgt := 26) rfl (by decide) ?_
      refine pp_39_0 rfl kl_X12_96 ?_
      refine aw_aload_n rfl rfl ?_
      refine pg_39_0 rfl kl_X12_96 ?_
      refine aw_if_le (tgt := 38) rfl (by decide) (fun h33 => ?_) (fun h33 => ?_)
      · first | exact aw_wk (rest (by unfold okT; rw [bB_n0.mp h6, bB_n0.mp h18]; rfl)) (And.intro rfl (And.intro rfl (And.intro rfl True.intro))) | exact absurd (show (1 : Int32) ≤ 0 from h33) (by decide)
      · refine aw_iconst (v := 0) rfl (by decide) ?_
        first
        | exact absurd (show (0 : Int32) ≤ 0 from by decide) h33
        | (have q : ¬ okT s t x = true := by (unfold okT; first | (rw [bB_0.mp h6]; exact Bool.false_ne_true) | (rw [bB_0.mp h18, Bool.and_false]; exact Bool.false_ne_true))
           rw [if_neg q, if_neg q]
           exact aw_ri rfl rfl rfl eo_rf en_rf (hC.th 1).2.2.1)
def igm (s : am_S) (p q t : Int32) : Bool := isRm s p && (isRm s q && (!decide (p = q) && (shm s (s 52) t && (!decide (s 46 (5 * cl t) = p) && !decide (s 46 (5 * cl t) = q)))))
def gmO (s : am_S) (j p q : Nat) (x y v : Int32) : Int32 := if (if v = 0 then x else y) = 0 then 0 else
  (fun sh : Int32 => if (!(decide (v = 1) && (decide (x = 1) && !skm (s 52) j p)) && !skm (s 52) j (if v = 0 then p else q)) = true then sh - 3 else sh) (if x + y = 2 then s 46 (5 * j + 2) / 2 else s 46 (5 * j + 2))
def m_game (s : am_S) (p q t x y v : Int32) : Int32 := if igm s p q t = true then (if inn x.toInt64 0 1 = true then (if inn y.toInt64 0 1 = true then (if inn v.toInt64 0 1 = true then gmO s (cl t) (cl p) (cl q) x y v else -1000000) else -1000000) else -1000000) else -1000000
def rsP (s : am_S) (j p q : Nat) (a b : Int32) : Bool := decide (gmO s j p q (1 - a) b 0 ≤ gmO s j p q a b 0) && decide (gmO s j p q a (1 - b) 1 ≤ gmO s j p q a b 1)
def rsL (s : am_S) (j p q : Nat) (i : Int32) : List (Int32 × Int32) → Int32 → Int32
  | [], m => if i = -1 then m else -1
  | z :: r, m => if rsP s j p q z.1 z.2 = true then (if m = i then 10 * z.1 + z.2 else rsL s j p q i r (m + 1)) else rsL s j p q i r m
def m_rests (s : am_S) (p q t i : Int32) : Int32 := if igm s p q t = true then (if -1 ≤ i then rsL s (cl t) (cl p) (cl q) i [(0, 0), (0, 1), (1, 0), (1, 1)] 0 else -1) else -1
set_option maxRecDepth 4000 in
theorem c_m_isGame {l : Launch} {g : ag_G} {s : am_S} {n : am_N} {p q t : Int32} {T Q : Nat} (hb : mb s T Q) : aw_F l g mi_X12_isGame 2 [.ref (g_ad g 39), .int p, .int q, .int t] (hp g s n) (.int (bB (igm s p q t))) (hp g s n) := by
  have hT := hb.2.1
  refine aw_F_of mo_X12_isGame (by decide) (Nat.le_of_ble_eq_true rfl) ?_
  refine aw_aload_n rfl rfl ?_
  refine aw_iload_n rfl rfl ?_
  refine aw_iV (q0 := 39) (ci := 12) rfl cw_X12_351 rfl rfl rfl (c_m_isRing) rfl rfl (Nat.le_of_ble_eq_true rfl) (by decide) (by decide) (by decide) (by decide) ?_
  refine aw_if_eq (tgt := 57) rfl (by decide) (fun h5 => ?_) (fun h5 => ?_)
  · refine aw_iconst (v := 0) rfl (by decide) ?_
    exact aw_fz rfl rfl (by first | exact Or.inl rfl | exact Or.inr rfl | exact bB_01) (by unfold igm; first | (rw [bB_0.mp h5]; rfl) | (rw [bB_n0.mp h5, bB_0.mp h13]; rfl) | (rw [bB_n0.mp h5, bB_n0.mp h13, decide_eq_true h18]; rfl) | (rw [bB_n0.mp h5, bB_n0.mp h13, decide_eq_false h18, bB_0.mp h30]; rfl) | (rw [bB_n0.mp h5, bB_n0.mp h13, decide_eq_false h18, bB_n0.mp h30, hcj, decide_eq_true (show s 46 (5 * j) = p from h40)]; rfl) | (rw [bB_n0.mp h5, bB_n0.mp h13, decide_eq_false h18, bB_n0.mp h30, hcj, decide_eq_false (show ¬ s 46 (5 * j) = p from h40), decide_eq_true (show s 46 (5 * j) = q from h50)]; rfl) | (rw [bB_n0.mp h5, bB_n0.mp h13, decide_eq_false h18, bB_n0.mp h30, hcj, decide_eq_false (show ¬ s 46 (5 * j) = p from h40), decide_eq_false (show ¬ s 46 (5 * j) = q from h50)]; rfl) | fail "x") rfl
  · refine aw_aload_n rfl rfl ?_
    refine aw_iload_n rfl rfl ?_
    refine aw_iV (q0 := 39) (ci := 12) rfl cw_X12_351 rfl rfl rfl (c_m_isRing) rfl rfl (Nat.le_of_ble_eq_true rfl) (by decide) (by decide) (by decide) (by decide) ?_
    refine aw_if_eq (tgt := 57) rfl (by decide) (fun h13 => ?_) (fun h13 => ?_)
    · refine aw_iconst (v := 0) rfl (by decide) ?_
      exact aw_fz rfl rfl (by first | exact Or.inl rfl | exact Or.inr rfl | exact bB_01) (by unfold igm; first | (rw [bB_0.mp h5]; rfl) | (rw [bB_n0.mp h5, bB_0.mp h13]; rfl) | (rw [bB_n0.mp h5, bB_n0.mp h13, decide_eq_true h18]; rfl) | (rw [bB_n0.mp h5, bB_n0.mp h13, decide_eq_false h18, bB_0.mp h30]; rfl) | (rw [bB_n0.mp h5, bB_n0.mp h13, decide_eq_false h18, bB_n0.mp h30, hcj, decide_eq_true (show s 46 (5 * j) = p from h40)]; rfl) | (rw [bB_n0.mp h5, bB_n0.mp h13, decide_eq_false h18, bB_n0.mp h30, hcj, decide_eq_false (show ¬ s 46 (5 * j) = p from h40), decide_eq_true (show s 46 (5 * j) = q from h50)]; rfl) | (rw [bB_n0.mp h5, bB_n0.mp h13, decide_eq_false h18, bB_n0.mp h30, hcj, decide_eq_false (show ¬ s 46 (5 * j) = p from h40), decide_eq_false (show ¬ s 46 (5 * j) = q from h50)]; rfl) | fail "x") rfl
    · refine aw_iload_n rfl rfl ?_
      refine aw_iload_n rfl rfl ?_
      refine aw_icmp_eq (tgt := 57) rfl (by decide) (fun h18 => ?_) (fun h18 => ?_)
      · refine aw_iconst (v := 0) rfl (by decide) ?_
        exact aw_fz rfl rfl (by first | exact Or.inl rfl | exact Or.inr rfl | exact bB_01) (by unfold igm; first | (rw [bB_0.mp h5]; rfl) | (rw [bB_n0.mp h5, bB_0.mp h13]; rfl) | (rw [bB_n0.mp h5, bB_n0.mp h13, decide_eq_true h18]; rfl) | (rw [bB_n0.mp h5, bB_n0.mp h13, decide_eq_false h18, bB_0.mp h30]; rfl) | (rw [bB_n0.mp h5, bB_n0.mp h13, decide_eq_false h18, bB_n0.mp h30, hcj, decide_eq_true (show s 46 (5 * j) = p from h40)]; rfl) | (rw [bB_n0.mp h5, bB_n0.mp h13, decide_eq_false h18, bB_n0.mp h30, hcj, decide_eq_false (show ¬ s 46 (5 * j) = p from h40), decide_eq_true (show s 46 (5 * j) = q from h50)]; rfl) | (rw [bB_n0.mp h5, bB_n0.mp h13, decide_eq_false h18, bB_n0.mp h30, hcj, decide_eq_false (show ¬ s 46 (5 * j) = p from h40), decide_eq_false (show ¬ s 46 (5 * j) = q from h50)]; rfl) | fail "x") rfl
      · refine aw_aload_n rfl rfl ?_
        refine aw_aload_n rfl rfl ?_
        refine pg_39_32 rfl kl_X12_61 ?_
        refine aw_iload_n rfl rfl ?_
        refine aw_iV (q0 := 39) (ci := 12) rfl cw_X12_379 rfl rfl rfl (c_m_isShut_52 hb) rfl rfl (Nat.le_of_ble_eq_true rfl) (by decide) (by decide) (by decide) (by decide) ?_
        refine aw_if_eq (tgt := 57) rfl (by decide) (fun h30 => ?_) (fun h30 => ?_)
        · refine aw_iconst (v := 0) rfl (by decide) ?_
          exact aw_fz rfl rfl (by first | exact Or.inl rfl | exact Or.inr rfl | exact bB_01) (by unfold igm; first | (rw [bB_0.mp h5]; rfl) | (rw [bB_n0.mp h5, bB_0.mp h13]; rfl) | (rw [bB_n0.mp h5, bB_n0.mp h13, decide_eq_true h18]; rfl) | (rw [bB_n0.mp h5, bB_n0.mp h13, decide_eq_false h18, bB_0.mp h30]; rfl) | (rw [bB_n0.mp h5, bB_n0.mp h13, decide_eq_false h18, bB_n0.mp h30, hcj, decide_eq_true (show s 46 (5 * j) = p from h40)]; rfl) | (rw [bB_n0.mp h5, bB_n0.mp h13, decide_eq_false h18, bB_n0.mp h30, hcj, decide_eq_false (show ¬ s 46 (5 * j) = p from h40), decide_eq_true (show s 46 (5 * j) = q from h50)]; rfl) | (rw [bB_n0.mp h5, bB_n0.mp h13, decide_eq_false h18, bB_n0.mp h30, hcj, decide_eq_false (show ¬ s 46 (5 * j) = p from h40), decide_eq_false (show ¬ s 46 (5 * j) = q from h50)]; rfl) | fail "x") rfl
        · obtain ⟨j, hj, rfl⟩ := isTm_nI hb (Bool.and_eq_true_iff.mp (bB_n0.mp h30)).1
          have hcj : cl (nI j) = j := cl_nI (by omega)
          refine aw_aload_n rfl rfl ?_
          refine aw_iload_n rfl rfl ?_
          refine aw_iconst (v := 0) rfl (by decide) ?_
          refine aw_iV (q0 := 39) (ci := 12) rfl cw_X12_319 rfl rfl rfl (c_m_of (j := j) (c := 0) (by omega) (by decide)) rfl rfl (Nat.le_of_ble_eq_true rfl) (by decide) (by decide) (by decide) (by decide) ?_
          refine aw_iload_n rfl rfl ?_
          refine aw_icmp_eq (tgt := 57) rfl (by decide) (fun h40 => ?_) (fun h40 => ?_)
          · refine aw_iconst (v := 0) rfl (by decide) ?_
            exact aw_fz rfl rfl (by first | exact Or.inl rfl | exact Or.inr rfl | exact bB_01) (by unfold igm; first | (rw [bB_0.mp h5]; rfl) | (rw [bB_n0.mp h5, bB_0.mp h13]; rfl) | (rw [bB_n0.mp h5, bB_n0.mp h13, decide_eq_true h18]; rfl) | (rw [bB_n0.mp h5, bB_n0.mp h13, decide_eq_false h18, bB_0.mp h30]; rfl) | (rw [bB_n0.mp h5, bB_n0.mp h13, decide_eq_false h18, bB_n0.mp h30, hcj, decide_eq_true (show s 46 (5 * j) = p from h40)]; rfl) | (rw [bB_n0.mp h5, bB_n0.mp h13, decide_eq_false h18, bB_n0.mp h30, hcj, decide_eq_false (show ¬ s 46 (5 * j) = p from h40), decide_eq_true (show s 46 (5 * j) = q from h50)]; rfl) | (rw [bB_n0.mp h5, bB_n0.mp h13, decide_eq_false h18, bB_n0.mp h30, hcj, decide_eq_false (show ¬ s 46 (5 * j) = p from h40), decide_eq_false (show ¬ s 46 (5 * j) = q from h50)]; rfl) | fail "x") rfl
          · refine aw_aload_n rfl rfl ?_
            refine aw_iload_n rfl rfl ?_
            refine aw_iconst (v := 0) rfl (by decide) ?_
            refine aw_iV (q0 := 39) (ci := 12) rfl cw_X12_319 rfl rfl rfl (c_m_of (j := j) (c := 0) (by omega) (by decide)) rfl rfl (Nat.le_of_ble_eq_true rfl) (by decide) (by decide) (by decide) (by decide) ?_
            refine aw_iload_n rfl rfl ?_
            refine aw_icmp_eq (tgt := 57) rfl (by decide) (fun h50 => ?_) (fun h50 => ?_)
            · refine aw_iconst (v := 0) rfl (by decide) ?_
              exact aw_fz rfl rfl (by first | exact Or.inl rfl | exact Or.inr rfl | exact bB_01) (by unfold igm; first | (rw [bB_0.mp h5]; rfl) | (rw [bB_n0.mp h5, bB_0.mp h13]; rfl) | (rw [bB_n0.mp h5, bB_n0.mp h13, decide_eq_true h18]; rfl) | (rw [bB_n0.mp h5, bB_n0.mp h13, decide_eq_false h18, bB_0.mp h30]; rfl) | (rw [bB_n0.mp h5, bB_n0.mp h13, decide_eq_false h18, bB_n0.mp h30, hcj, decide_eq_true (show s 46 (5 * j) = p from h40)]; rfl) | (rw [bB_n0.mp h5, bB_n0.mp h13, decide_eq_false h18, bB_n0.mp h30, hcj, decide_eq_false (show ¬ s 46 (5 * j) = p from h40), decide_eq_true (show s 46 (5 * j) = q from h50)]; rfl) | (rw [bB_n0.mp h5, bB_n0.mp h13, decide_eq_false h18, bB_n0.mp h30, hcj, decide_eq_false (show ¬ s 46 (5 * j) = p from h40), decide_eq_false (show ¬ s 46 (5 * j) = q from h50)]; rfl) | fail "x") rfl
            · refine aw_iconst (v := 1) rfl (by decide) ?_
              refine aw_goto (tgt := 58) rfl (by decide) ?_
              exact aw_fz rfl rfl (by first | exact Or.inl rfl | exact Or.inr rfl | exact bB_01) (by unfold igm; first | (rw [bB_0.mp h5]; rfl) | (rw [bB_n0.mp h5, bB_0.mp h13]; rfl) | (rw [bB_n0.mp h5, bB_n0.mp h13, decide_eq_true h18]; rfl) | (rw [bB_n0.mp h5, bB_n0.mp h13, decide_eq_false h18, bB_0.mp h30]; rfl) | (rw [bB_n0.mp h5, bB_n0.mp h13, decide_eq_false h18, bB_n0.mp h30, hcj, decide_eq_true (show s 46 (5 * j) = p from h40)]; rfl) | (rw [bB_n0.mp h5, bB_n0.mp h13, decide_eq_false h18, bB_n0.mp h30, hcj, decide_eq_false (show ¬ s 46 (5 * j) = p from h40), decide_eq_true (show s 46 (5 * j) = q from h50)]; rfl) | (rw [bB_n0.mp h5, bB_n0.mp h13, decide_eq_false h18, bB_n0.mp h30, hcj, decide_eq_false (show ¬ s 46 (5 * j) = p from h40), decide_eq_false (show ¬ s 46 (5 * j) = q from h50)]; rfl) | fail "x") rfl
set_option maxRecDepth 4000 in
set_option maxHeartbeats 1000000 in
theorem c_m_gameOf {l : Launch} {g : ag_G} {s : am_S} {n : am_N} {j p q : Nat} {x y v : Int32} (hj : j < 7) (hp5 : p < 5) (hq5 : q < 5) : aw_F l g mi_X12_gameOf 1 [.ref (g_ad g 39), .int (nI p), .int (nI q), .int (nI j), .int x, .int y, .int v] (hp g s n) (.int (gmO s j p q x y v)) (hp g s n) := by
  refine aw_F_of mo_X12_gameOf (by decide) (Nat.le_of_ble_eq_true rfl) ?_
  refine aw_iload rfl rfl ?_
  refine aw_if_ne (tgt := 10) rfl (by decide) (fun h2 => ?_) (fun h2 => ?_)
  · refine aw_iload rfl rfl ?_
    refine aw_if_ne (tgt := 17) rfl (by decide) (fun h12 => ?_) (fun h12 => ?_)
    · refine aw_iload rfl rfl ?_
      refine aw_iload rfl rfl ?_
      refine aw_iadd rfl ?_
      refine aw_iconst (v := 2) rfl (by decide) ?_
      refine aw_icmp_ne (tgt := 37) rfl (by decide) (fun h23 => ?_) (fun h23 => ?_)
      · refine aw_aload_n rfl rfl ?_
        refine aw_iload_n rfl rfl ?_
        refine aw_iconst (v := 2) rfl (by decide) ?_
        refine aw_iV (q0 := 39) (ci := 12) rfl cw_X12_319 rfl rfl rfl (c_m_of (j := j) (c := 2) (by omega) (by decide)) rfl rfl (Nat.le_of_ble_eq_true rfl) (by decide) (by decide) (by decide) (by decide) ?_
        refine aw_istore rfl (by decide) ?_
        refine aw_iload rfl rfl ?_
        refine aw_iconst (v := 1) rfl (by decide) ?_
        refine aw_icmp_ne (tgt := 73) rfl (by decide) (fun h48 => ?_) (fun h48 => ?_)
        · refine aw_iconst (v := 0) rfl (by decide) ?_
          refine aw_istore rfl (by decide) ?_
          refine aw_iload rfl rfl ?_
          refine aw_if_ne (tgt := 106) rfl (by decide) (fun h78 => absurd h78 (by decide)) (fun h78 => ?_)
          refine aw_aload_n rfl rfl ?_
          refine pg_39_32 rfl kl_X12_61 ?_
          refine aw_iload_n rfl rfl ?_
          refine aw_iload rfl rfl ?_
          refine aw_if_ne (tgt := 95) rfl (by decide) (fun h88 => ?_) (fun h88 => ?_)
          · refine aw_iload_n rfl rfl ?_
            refine aw_iS rfl cw_X12_386 (c_m_isSkilled_52 (by omega) (by omega)) rfl rfl (Nat.le_of_ble_eq_true rfl) (by decide) (by decide) (by decide) (by decide) ?_
            refine aw_if_ne (tgt := 106) rfl (by decide) (fun h99 => ?_) (fun h99 => ?_)
            · refine aw_iconst (v := 0) rfl (by decide) ?_
              refine aw_istore rfl (by decide) ?_
              refine aw_iload rfl rfl ?_
              refine aw_if_eq (tgt := 121) rfl (by decide) (fun h111 => ?_) (fun h111 => absurd h111 (by decide))
              refine aw_iload rfl rfl ?_
              exact aw_fi rfl rfl (by (first | (rw [bB_0] at h66) | skip); (first | (rw [bB_0] at h99) | skip); simp_all [gmO]) rfl
            · refine aw_iconst (v := 1) rfl (by decide) ?_
              refine aw_goto (tgt := 107) rfl (by decide) ?_
              refine aw_istore rfl (by decide) ?_
              refine aw_iload rfl rfl ?_
              refine aw_if_eq (tgt := 121) rfl (by decide) (fun h111 => absurd h111 (by decide)) (fun h111 => ?_)
              refine aw_iload rfl rfl ?_
              refine aw_iconst (v := 3) rfl (by decide) ?_
              refine aw_isub rfl ?_
              refine aw_goto (tgt := 123) rfl (by decide) ?_
              exact aw_fi rfl rfl (by (first | (rw [bB_0] at h66) | skip); (first | (rw [bB_0] at h99) | skip); simp_all [gmO]) rfl
          · refine aw_iload_n rfl rfl ?_
            refine aw_goto (tgt := 96) rfl (by decide) ?_
            refine aw_iS rfl cw_X12_386 (c_m_isSkilled_52 (by omega) (by omega)) rfl rfl (Nat.le_of_ble_eq_true rfl) (by decide) (by decide) (by decide) (by decide) ?_
            refine aw_if_ne (tgt := 106) rfl (by decide) (fun h99 => ?_) (fun h99 => ?_)
            · refine aw_iconst (v := 0) rfl (by decide) ?_
              refine aw_istore rfl (by decide) ?_
              refine aw_iload rfl rfl ?_
              refine aw_if_eq (tgt := 121) rfl (by decide) (fun h111 => ?_) (fun h111 => absurd h111 (by decide))
              refine aw_iload rfl rfl ?_
              exact aw_fi rfl rfl (by (first | (rw [bB_0] at h66) | skip); (first | (rw [bB_0] at h99) | skip); simp_all [gmO]) rfl
            · refine aw_iconst (v := 1) rfl (by decide) ?_
              refine aw_goto (tgt := 107) rfl (by decide) ?_
              refine aw_istore rfl (by decide) ?_
              refine aw_iload rfl rfl ?_
              refine aw_if_eq (tgt := 121) rfl (by decide) (fun h111 => absurd h111 (by decide)) (fun h111 => ?_)
              refine aw_iload rfl rfl ?_
              refine aw_iconst (v := 3) rfl (by decide) ?_
              refine aw_isub rfl ?_
              refine aw_goto (tgt := 123) rfl (by decide) ?_
              exact aw_fi rfl rfl (by (first | (rw [bB_0] at h66) | skip); (first | (rw [bB_0] at h99) | skip); simp_all [gmO]) rfl
        · refine aw_iload rfl rfl ?_
          refine aw_iconst (v := 1) rfl (by decide) ?_
          refine aw_icmp_ne (tgt := 73) rfl (by decide) (fun h54 => ?_) (fun h54 => ?_)
          · refine aw_iconst (v := 0) rfl (by decide) ?_
            refine aw_istore rfl (by decide) ?_
            refine aw_iload rfl rfl ?_
            refine aw_if_ne (tgt := 106) rfl (by decide) (fun h78 => absurd h78 (by decide)) (fun h78 => ?_)
            refine aw_aload_n rfl rfl ?_
            refine pg_39_32 rfl kl_X12_61 ?_
            refine aw_iload_n rfl rfl ?_
            refine aw_iload rfl rfl ?_
            refine aw_if_ne (tgt := 95) rfl (by decide) (fun h88 => ?_) (fun h88 => ?_)
            · refine aw_iload_n rfl rfl ?_
              refine aw_iS rfl cw_X12_386 (c_m_isSkilled_52 (by omega) (by omega)) rfl rfl (Nat.le_of_ble_eq_true rfl) (by decide) (by decide) (by decide) (by decide) ?_
              refine aw_if_ne (tgt := 106) rfl (by decide) (fun h99 => ?_) (fun h99 => ?_)
              · refine aw_iconst (v := 0) rfl (by decide) ?_
                refine aw_istore rfl (by decide) ?_
                refine aw_iload rfl rfl ?_
                refine aw_if_eq (tgt := 121) rfl (by decide) (fun h111 => ?_) (fun h111 => absurd h111 (by decide))
                refine aw_iload rfl rfl ?_
                exact aw_fi rfl rfl (by (first | (rw [bB_0] at h66) | skip); (first | (rw [bB_0] at h99) | skip); simp_all [gmO]) rfl
              · refine aw_iconst (v := 1) rfl (by decide) ?_
                refine aw_goto (tgt := 107) rfl (by decide) ?_
                refine aw_istore rfl (by decide) ?_
                refine aw_iload rfl rfl ?_
                refine aw_if_eq (tgt := 121) rfl (by decide) (fun h111 => absurd h111 (by decide)) (fun h111 => ?_)
                refine aw_iload rfl rfl ?_
                refine aw_iconst (v := 3) rfl (by decide) ?_
                refine aw_isub rfl ?_
                refine aw_goto (tgt := 123) rfl (by decide) ?_
                exact aw_fi rfl rfl (by (first | (rw [bB_0] at h66) | skip); (first | (rw [bB_0] at h99) | skip); simp_all [gmO]) rfl
            · refine aw_iload_n rfl rfl ?_
              refine aw_goto (tgt := 96) rfl (by decide) ?_
              refine aw_iS rfl cw_X12_386 (c_m_isSkilled_52 (by omega) (by omega)) rfl rfl (Nat.le_of_ble_eq_true rfl) (by decide) (by decide) (by decide) (by decide) ?_
              refine aw_if_ne (tgt := 106) rfl (by decide) (fun h99 => ?_) (fun h99 => ?_)
              · refine aw_iconst (v := 0) rfl (by decide) ?_
                refine aw_istore rfl (by decide) ?_
                refine aw_iload rfl rfl ?_
                refine aw_if_eq (tgt := 121) rfl (by decide) (fun h111 => ?_) (fun h111 => absurd h111 (by decide))
                refine aw_iload rfl rfl ?_
                exact aw_fi rfl rfl (by (first | (rw [bB_0] at h66) | skip); (first | (rw [bB_0] at h99) | skip); simp_all [gmO]) rfl
              · refine aw_iconst (v := 1) rfl (by decide) ?_
                refine aw_goto (tgt := 107) rfl (by decide) ?_
                refine aw_istore rfl (by decide) ?_
                refine aw_iload rfl rfl ?_
                refine aw_if_eq (tgt := 121) rfl (by decide) (fun h111 => absurd h111 (by decide)) (fun h111 => ?_)
                refine aw_iload rfl rfl ?_
                refine aw_iconst (v := 3) rfl (by decide) ?_
                refine aw_isub rfl ?_
                refine aw_goto (tgt := 123) rfl (by decide) ?_
                exact aw_fi rfl rfl (by (first | (rw [bB_0] at h66) | skip); (first | (rw [bB_0] at h99) | skip); simp_all [gmO]) rfl
          · refine aw_aload_n rfl rfl ?_
            refine pg_39_32 rfl kl_X12_61 ?_
            refine aw_iload_n rfl rfl ?_
            refine aw_iload_n rfl rfl ?_
            refine aw_iS rfl cw_X12_386 (c_m_isSkilled_52 (by omega) (by omega)) rfl rfl (Nat.le_of_ble_eq_true rfl) (by decide) (by decide) (by decide) (by decide) ?_
            refine aw_if_ne (tgt := 73) rfl (by decide) (fun h66 => ?_) (fun h66 => ?_)
            · refine aw_iconst (v := 0) rfl (by decide) ?_
              refine aw_istore rfl (by decide) ?_
              refine aw_iload rfl rfl ?_
              refine aw_if_ne (tgt := 106) rfl (by decide) (fun h78 => absurd h78 (by decide)) (fun h78 => ?_)
              refine aw_aload_n rfl rfl ?_
              refine pg_39_32 rfl kl_X12_61 ?_
              refine aw_iload_n rfl rfl ?_
              refine aw_iload rfl rfl ?_
              refine aw_if_ne (tgt := 95) rfl (by decide) (fun h88 => ?_) (fun h88 => ?_)
              · refine aw_iload_n rfl rfl ?_
                refine aw_iS rfl cw_X12_386 (c_m_isSkilled_52 (by omega) (by omega)) rfl rfl (Nat.le_of_ble_eq_true rfl) (by decide) (by decide) (by decide) (by decide) ?_
                refine aw_if_ne (tgt := 106) rfl (by decide) (fun h99 => ?_) (fun h99 => ?_)
                · refine aw_iconst (v := 0) rfl (by decide) ?_
                  refine aw_istore rfl (by decide) ?_
                  refine aw_iload rfl rfl ?_
                  refine aw_if_eq (tgt := 121) rfl (by decide) (fun h111 => ?_) (fun h111 => absurd h111 (by decide))
                  refine aw_iload rfl rfl ?_
                  exact aw_fi rfl rfl (by (first | (rw [bB_0] at h66) | skip); (first | (rw [bB_0] at h99) | skip); simp_all [gmO]) rfl
                · refine aw_iconst (v := 1) rfl (by decide) ?_
                  refine aw_goto (tgt := 107) rfl (by decide) ?_
                  refine aw_istore rfl (by decide) ?_
                  refine aw_iload rfl rfl ?_
                  refine aw_if_eq (tgt := 121) rfl (by decide) (fun h111 => absurd h111 (by decide)) (fun h111 => ?_)
                  refine aw_iload rfl rfl ?_
                  refine aw_iconst (v := 3) rfl (by decide) ?_
                  refine aw_isub rfl ?_
                  refine aw_goto (tgt := 123) rfl (by decide) ?_
                  exact aw_fi rfl rfl (by (first | (rw [bB_0] at h66) | skip); (first | (rw [bB_0] at h99) | skip); simp_all [gmO]) rfl
              · refine aw_iload_n rfl rfl ?_
                refine aw_goto (tgt := 96) rfl (by decide) ?_
                refine aw_iS rfl cw_X12_386 (c_m_isSkilled_52 (by omega) (by omega)) rfl rfl (Nat.le_of_ble_eq_true rfl) (by decide) (by decide) (by decide) (by decide) ?_
                refine aw_if_ne (tgt := 106) rfl (by decide) (fun h99 => ?_) (fun h99 => ?_)
                · refine aw_iconst (v := 0) rfl (by decide) ?_
                  refine aw_istore rfl (by decide) ?_
                  refine aw_iload rfl rfl ?_
                  refine aw_if_eq (tgt := 121) rfl (by decide) (fun h111 => ?_) (fun h111 => absurd h111 (by decide))
                  refine aw_iload rfl rfl ?_
                  exact aw_fi rfl rfl (by (first | (rw [bB_0] at h66) | skip); (first | (rw [bB_0] at h99) | skip); simp_all [gmO]) rfl
                · refine aw_iconst (v := 1) rfl (by decide) ?_
                  refine aw_goto (tgt := 107) rfl (by decide) ?_
                  refine aw_istore rfl (by decide) ?_
                  refine aw_iload rfl rfl ?_
                  refine aw_if_eq (tgt := 121) rfl (by decide) (fun h111 => absurd h111 (by decide)) (fun h111 => ?_)
                  refine aw_iload rfl rfl ?_
                  refine aw_iconst (v := 3) rfl (by decide) ?_
                  refine aw_isub rfl ?_
                  refine aw_goto (tgt := 123) rfl (by decide) ?_
                  exact aw_fi rfl rfl (by (first | (rw [bB_0] at h66) | skip); (first | (rw [bB_0] at h99) | skip); simp_all [gmO]) rfl
            · refine aw_iconst (v := 1) rfl (by decide) ?_
              refine aw_goto (tgt := 74) rfl (by decide) ?_
              refine aw_istore rfl (by decide) ?_
              refine aw_iload rfl rfl ?_
              refine aw_if_ne (tgt := 106) rfl (by decide) (fun h78 => ?_) (fun h78 => absurd h78 (by decide))
              refine aw_iconst (v := 0) rfl (by decide) ?_
              refine aw_istore rfl (by decide) ?_
              refine aw_iload rfl rfl ?_
              refine aw_if_eq (tgt := 121) rfl (by decide) (fun h111 => ?_) (fun h111 => absurd h111 (by decide))
              refine aw_iload rfl rfl ?_
              exact aw_fi rfl rfl (by (first | (rw [bB_0] at h66) | skip); (first | (rw [bB_0] at h99) | skip); simp_all [gmO]) rfl
      · refine aw_aload_n rfl rfl ?_
        refine aw_iload_n rfl rfl ?_
        refine aw_iconst (v := 2) rfl (by decide) ?_
        refine aw_iV (q0 := 39) (ci := 12) rfl cw_X12_319 rfl rfl rfl (c_m_of (j := j) (c := 2) (by omega) (by decide)) rfl rfl (Nat.le_of_ble_eq_true rfl) (by decide) (by decide) (by decide) (by decide) ?_
        refine aw_iconst (v := 2) rfl (by decide) ?_
        refine aw_idiv rfl (by decide) ?_
        refine aw_goto (tgt := 43) rfl (by decide) ?_
        refine aw_istore rfl (by decide) ?_
        refine aw_iload rfl rfl ?_
        refine aw_iconst (v := 1) rfl (by decide) ?_
        refine aw_icmp_ne (tgt := 73) rfl (by decide) (fun h48 => ?_) (fun h48 => ?_)
        · refine aw_iconst (v := 0) rfl (by decide) ?_
          refine aw_istore rfl (by decide) ?_
          refine aw_iload rfl rfl ?_
          refine aw_if_ne (tgt := 106) rfl (by decide) (fun h78 => absurd h78 (by decide)) (fun h78 => ?_)
          refine aw_aload_n rfl rfl ?_
          refine pg_39_32 rfl kl_X12_61 ?_
          refine aw_iload_n rfl rfl ?_
          refine aw_iload rfl rfl ?_
          refine aw_if_ne (tgt := 95) rfl (by decide) (fun h88 => ?_) (fun h88 => ?_)
          · refine aw_iload_n rfl rfl ?_
            refine aw_iS rfl cw_X12_386 (c_m_isSkilled_52 (by omega) (by omega)) rfl rfl (Nat.le_of_ble_eq_true rfl) (by decide) (by decide) (by decide) (by decide) ?_
            refine aw_if_ne (tgt := 106) rfl (by decide) (fun h99 => ?_) (fun h99 => ?_)
            · refine aw_iconst (v := 0) rfl (by decide) ?_
              refine aw_istore rfl (by decide) ?_
              refine aw_iload rfl rfl ?_
              refine aw_if_eq (tgt := 121) rfl (by decide) (fun h111 => ?_) (fun h111 => absurd h111 (by decide))
              refine aw_iload rfl rfl ?_
              exact aw_fi rfl rfl (by (first | (rw [bB_0] at h66) | skip); (first | (rw [bB_0] at h99) | skip); simp_all [gmO]) rfl
            · refine aw_iconst (v := 1) rfl (by decide) ?_
              refine aw_goto (tgt := 107) rfl (by decide) ?_
              refine aw_istore rfl (by decide) ?_
              refine aw_iload rfl rfl ?_
              refine aw_if_eq (tgt := 121) rfl (by decide) (fun h111 => absurd h111 (by decide)) (fun h111 => ?_)
              refine aw_iload rfl rfl ?_
              refine aw_iconst (v := 3) rfl (by decide) ?_
              refine aw_isub rfl ?_
              refine aw_goto (tgt := 123) rfl (by decide) ?_
              exact aw_fi rfl rfl (by (first | (rw [bB_0] at h66) | skip); (first | (rw [bB_0] at h99) | skip); simp_all [gmO]) rfl
          · refine aw_iload_n rfl rfl ?_
            refine aw_goto (tgt := 96) rfl (by decide) ?_
            refine aw_iS rfl cw_X12_386 (c_m_isSkilled_52 (by omega) (by omega)) rfl rfl (Nat.le_of_ble_eq_true rfl) (by decide) (by decide) (by decide) (by decide) ?_
            refine aw_if_ne (tgt := 106) rfl (by decide) (fun h99 => ?_) (fun h99 => ?_)
            · refine aw_iconst (v := 0) rfl (by decide) ?_
              refine aw_istore rfl (by decide) ?_
              refine aw_iload rfl rfl ?_
              refine aw_if_eq (tgt := 121) rfl (by decide) (fun h111 => ?_) (fun h111 => absurd h111 (by decide))
              refine aw_iload rfl rfl ?_
              exact aw_fi rfl rfl (by (first | (rw [bB_0] at h66) | skip); (first | (rw [bB_0] at h99) | skip); simp_all [gmO]) rfl
            · refine aw_iconst (v := 1) rfl (by decide) ?_
              refine aw_goto (tgt := 107) rfl (by decide) ?_
              refine aw_istore rfl (by decide) ?_
              refine aw_iload rfl rfl ?_
              refine aw_if_eq (tgt := 121) rfl (by decide) (fun h111 => absurd h111 (by decide)) (fun h111 => ?_)
              refine aw_iload rfl rfl ?_
              refine aw_iconst (v := 3) rfl (by decide) ?_
              refine aw_isub rfl ?_
              refine aw_goto (tgt := 123) rfl (by decide) ?_
              exact aw_fi rfl rfl (by (first | (rw [bB_0] at h66) | skip); (first | (rw [bB_0] at h99) | skip); simp_all [gmO]) rfl
        · refine aw_iload rfl rfl ?_
          refine aw_iconst (v := 1) rfl (by decide) ?_
          refine aw_icmp_ne (tgt := 73) rfl (by decide) (fun h54 => ?_) (fun h54 => ?_)
          · refine aw_iconst (v := 0) rfl (by decide) ?_
            refine aw_istore rfl (by decide) ?_
            refine aw_iload rfl rfl ?_
            refine aw_if_ne (tgt := 106) rfl (by decide) (fun h78 => absurd h78 (by decide)) (fun h78 => ?_)
            refine aw_aload_n rfl rfl ?_
            refine pg_39_32 rfl kl_X12_61 ?_
            refine aw_iload_n rfl rfl ?_
            refine aw_iload rfl rfl ?_
            refine aw_if_ne (tgt := 95) rfl (by decide) (fun h88 => ?_) (fun h88 => ?_)
            · refine aw_iload_n rfl rfl ?_
              refine aw_iS rfl cw_X12_386 (c_m_isSkilled_52 (by omega) (by omega)) rfl rfl (Nat.le_of_ble_eq_true rfl) (by decide) (by decide) (by decide) (by decide) ?_
              refine aw_if_ne (tgt := 106) rfl (by decide) (fun h99 => ?_) (fun h99 => ?_)
              · refine aw_iconst (v := 0) rfl (by decide) ?_
                refine aw_istore rfl (by decide) ?_
                refine aw_iload rfl rfl ?_
                refine aw_if_eq (tgt := 121) rfl (by decide) (fun h111 => ?_) (fun h111 => absurd h111 (by decide))
                refine aw_iload rfl rfl ?_
                exact aw_fi rfl rfl (by (first | (rw [bB_0] at h66) | skip); (first | (rw [bB_0] at h99) | skip); simp_all [gmO]) rfl
              · refine aw_iconst (v := 1) rfl (by decide) ?_
                refine aw_goto (tgt := 107) rfl (by decide) ?_
                refine aw_istore rfl (by decide) ?_
                refine aw_iload rfl rfl ?_
                refine aw_if_eq (tgt := 121) rfl (by decide) (fun h111 => absurd h111 (by decide)) (fun h111 => ?_)
                refine aw_iload rfl rfl ?_
                refine aw_iconst (v := 3) rfl (by decide) ?_
                refine aw_isub rfl ?_
                refine aw_goto (tgt := 123) rfl (by decide) ?_
                exact aw_fi rfl rfl (by (first | (rw [bB_0] at h66) | skip); (first | (rw [bB_0] at h99) | skip); simp_all [gmO]) rfl
            · refine aw_iload_n rfl rfl ?_
              refine aw_goto (tgt := 96) rfl (by decide) ?_
              refine aw_iS rfl cw_X12_386 (c_m_isSkilled_52 (by omega) (by omega)) rfl rfl (Nat.le_of_ble_eq_true rfl) (by decide) (by decide) (by decide) (by decide) ?_
              refine aw_if_ne (tgt := 106) rfl (by decide) (fun h99 => ?_) (fun h99 => ?_)
              · refine aw_iconst (v := 0) rfl (by decide) ?_
                refine aw_istore rfl (by decide) ?_
                refine aw_iload rfl rfl ?_
                refine aw_if_eq (tgt := 121) rfl (by decide) (fun h111 => ?_) (fun h111 => absurd h111 (by decide))
                refine aw_iload rfl rfl ?_
                exact aw_fi rfl rfl (by (first | (rw [bB_0] at h66) | skip); (first | (rw [bB_0] at h99) | skip); simp_all [gmO]) rfl
              · refine aw_iconst (v := 1) rfl (by decide) ?_
                refine aw_goto (tgt := 107) rfl (by decide) ?_
                refine aw_istore rfl (by decide) ?_
                refine aw_iload rfl rfl ?_
                refine aw_if_eq (tgt := 121) rfl (by decide) (fun h111 => absurd h111 (by decide)) (fun h111 => ?_)
                refine aw_iload rfl rfl ?_
                refine aw_iconst (v := 3) rfl (by decide) ?_
                refine aw_isub rfl ?_
                refine aw_goto (tgt := 123) rfl (by decide) ?_
                exact aw_fi rfl rfl (by (first | (rw [bB_0] at h66) | skip); (first | (rw [bB_0] at h99) | skip); simp_all [gmO]) rfl
          · refine aw_aload_n rfl rfl ?_
            refine pg_39_32 rfl kl_X12_61 ?_
            refine aw_iload_n rfl rfl ?_
            refine aw_iload_n rfl rfl ?_
            refine aw_iS rfl cw_X12_386 (c_m_isSkilled_52 (by omega) (by omega)) rfl rfl (Nat.le_of_ble_eq_true rfl) (by decide) (by decide) (by decide) (by decide) ?_
            refine aw_if_ne (tgt := 73) rfl (by decide) (fun h66 => ?_) (fun h66 => ?_)
            · refine aw_iconst (v := 0) rfl (by decide) ?_
              refine aw_istore rfl (by decide) ?_
              refine aw_iload rfl rfl ?_
              refine aw_if_ne (tgt := 106) rfl (by decide) (fun h78 => absurd h78 (by decide)) (fun h78 => ?_)
              refine aw_aload_n rfl rfl ?_
              refine pg_39_32 rfl kl_X12_61 ?_
              refine aw_iload_n rfl rfl ?_
              refine aw_iload rfl rfl ?_
              refine aw_if_ne (tgt := 95) rfl (by decide) (fun h88 => ?_) (fun h88 => ?_)
              · refine aw_iload_n rfl rfl ?_
                refine aw_iS rfl cw_X12_386 (c_m_isSkilled_52 (by omega) (by omega)) rfl rfl (Nat.le_of_ble_eq_true rfl) (by decide) (by decide) (by decide) (by decide) ?_
                refine aw_if_ne (tgt := 106) rfl (by decide) (fun h99 => ?_) (fun h99 => ?_)
                · refine aw_iconst (v := 0) rfl (by decide) ?_
                  refine aw_istore rfl (by decide) ?_
                  refine aw_iload rfl rfl ?_
                  refine aw_if_eq (tgt := 121) rfl (by decide) (fun h111 => ?_) (fun h111 => absurd h111 (by decide))
                  refine aw_iload rfl rfl ?_
                  exact aw_fi rfl rfl (by (first | (rw [bB_0] at h66) | skip); (first | (rw [bB_0] at h99) | skip); simp_all [gmO]) rfl
                · refine aw_iconst (v := 1) rfl (by decide) ?_
                  refine aw_goto (tgt := 107) rfl (by decide) ?_
                  refine aw_istore rfl (by decide) ?_
                  refine aw_iload rfl rfl ?_
                  refine aw_if_eq (tgt := 121) rfl (by decide) (fun h111 => absurd h111 (by decide)) (fun h111 => ?_)
                  refine aw_iload rfl rfl ?_
                  refine aw_iconst (v := 3) rfl (by decide) ?_
                  refine aw_isub rfl ?_
                  refine aw_goto (tgt := 123) rfl (by decide) ?_
                  exact aw_fi rfl rfl (by (first | (rw [bB_0] at h66) | skip); (first | (rw [bB_0] at h99) | skip); simp_all [gmO]) rfl
              · refine aw_iload_n rfl rfl ?_
                refine aw_goto (tgt := 96) rfl (by decide) ?_
                refine aw_iS rfl cw_X12_386 (c_m_isSkilled_52 (by omega) (by omega)) rfl rfl (Nat.le_of_ble_eq_true rfl) (by decide) (by decide) (by decide) (by decide) ?_
                refine aw_if_ne (tgt := 106) rfl (by decide) (fun h99 => ?_) (fun h99 => ?_)
                · refine aw_iconst (v := 0) rfl (by decide) ?_
                  refine aw_istore rfl (by decide) ?_
                  refine aw_iload rfl rfl ?_
                  refine aw_if_eq (tgt := 121) rfl (by decide) (fun h111 => ?_) (fun h111 => absurd h111 (by decide))
                  refine aw_iload rfl rfl ?_
                  exact aw_fi rfl rfl (by (first | (rw [bB_0] at h66) | skip); (first | (rw [bB_0] at h99) | skip); simp_all [gmO]) rfl
                · refine aw_iconst (v := 1) rfl (by decide) ?_
                  refine aw_goto (tgt := 107) rfl (by decide) ?_
                  refine aw_istore rfl (by decide) ?_
                  refine aw_iload rfl rfl ?_
                  refine aw_if_eq (tgt := 121) rfl (by decide) (fun h111 => absurd h111 (by decide)) (fun h111 => ?_)
                  refine aw_iload rfl rfl ?_
                  refine aw_iconst (v := 3) rfl (by decide) ?_
                  refine aw_isub rfl ?_
                  refine aw_goto (tgt := 123) rfl (by decide) ?_
                  exact aw_fi rfl rfl (by (first | (rw [bB_0] at h66) | skip); (first | (rw [bB_0] at h99) | skip); simp_all [gmO]) rfl
            · refine aw_iconst (v := 1) rfl (by decide) ?_
              refine aw_goto (tgt := 74) rfl (by decide) ?_
              refine aw_istore rfl (by decide) ?_
              refine aw_iload rfl rfl ?_
              refine aw_if_ne (tgt := 106) rfl (by decide) (fun h78 => ?_) (fun h78 => absurd h78 (by decide))
              refine aw_iconst (v := 0) rfl (by decide) ?_
              refine aw_istore rfl (by decide) ?_
              refine aw_iload rfl rfl ?_
              refine aw_if_eq (tgt := 121) rfl (by decide) (fun h111 => ?_) (fun h111 => absurd h111 (by decide))
              refine aw_iload rfl rfl ?_
              exact aw_fi rfl rfl (by (first | (rw [bB_0] at h66) | skip); (first | (rw [bB_0] at h99) | skip); simp_all [gmO]) rfl
    · refine aw_iconst (v := 0) rfl (by decide) ?_
      exact aw_fi rfl rfl (by (first | (rw [bB_0] at h66) | skip); (first | (rw [bB_0] at h99) | skip); simp_all [gmO]) rfl
  · refine aw_iload rfl rfl ?_
    refine aw_goto (tgt := 12) rfl (by decide) ?_
    refine aw_if_ne (tgt := 17) rfl (by decide) (fun h12 => ?_) (fun h12 => ?_)
    · refine aw_iload rfl rfl ?_
      refine aw_iload rfl rfl ?_
      refine aw_iadd rfl ?_
      refine aw_iconst (v := 2) rfl (by decide) ?_
      refine aw_icmp_ne (tgt := 37) rfl (by decide) (fun h23 => ?_) (fun h23 => ?_)
      · refine aw_aload_n rfl rfl ?_
        refine aw_iload_n rfl rfl ?_
        refine aw_iconst (v := 2) rfl (by decide) ?_
        refine aw_iV (q0 := 39) (ci := 12) rfl cw_X12_319 rfl rfl rfl (c_m_of (j := j) (c := 2) (by omega) (by decide)) rfl rfl (Nat.le_of_ble_eq_true rfl) (by decide) (by decide) (by decide) (by decide) ?_
        refine aw_istore rfl (by decide) ?_
        refine aw_iload rfl rfl ?_
        refine aw_iconst (v := 1) rfl (by decide) ?_
        refine aw_icmp_ne (tgt := 73) rfl (by decide) (fun h48 => ?_) (fun h48 => ?_)
        · refine aw_iconst (v := 0) rfl (by decide) ?_
          refine aw_istore rfl (by decide) ?_
          refine aw_iload rfl rfl ?_
          refine aw_if_ne (tgt := 106) rfl (by decide) (fun h78 => absurd h78 (by decide)) (fun h78 => ?_)
          refine aw_aload_n rfl rfl ?_
          refine pg_39_32 rfl kl_X12_61 ?_
          refine aw_iload_n rfl rfl ?_
          refine aw_iload rfl rfl ?_
          refine aw_if_ne (tgt := 95) rfl (by decide) (fun h88 => ?_) (fun h88 => ?_)
          · refine aw_iload_n rfl rfl ?_
            refine aw_iS rfl cw_X12_386 (c_m_isSkilled_52 (by omega) (by omega)) rfl rfl (Nat.le_of_ble_eq_true rfl) (by decide) (by decide) (by decide) (by decide) ?_
            refine aw_if_ne (tgt := 106) rfl (by decide) (fun h99 => ?_) (fun h99 => ?_)
            · refine aw_iconst (v := 0) rfl (by decide) ?_
              refine aw_istore rfl (by decide) ?_
              refine aw_iload rfl rfl ?_
              refine aw_if_eq (tgt := 121) rfl (by decide) (fun h111 => ?_) (fun h111 => absurd h111 (by decide))
              refine aw_iload rfl rfl ?_
              exact aw_fi rfl rfl (by (first | (rw [bB_0] at h66) | skip); (first | (rw [bB_0] at h99) | skip); simp_all [gmO]) rfl
            · refine aw_iconst (v := 1) rfl (by decide) ?_
              refine aw_goto (tgt := 107) rfl (by decide) ?_
              refine aw_istore rfl (by decide) ?_
              refine aw_iload rfl rfl ?_
              refine aw_if_eq (tgt := 121) rfl (by decide) (fun h111 => absurd h111 (by decide)) (fun h111 => ?_)
              refine aw_iload rfl rfl ?_
              refine aw_iconst (v := 3) rfl (by decide) ?_
              refine aw_isub rfl ?_
              refine aw_goto (tgt := 123) rfl (by decide) ?_
              exact aw_fi rfl rfl (by (first | (rw [bB_0] at h66) | skip); (first | (rw [bB_0] at h99) | skip); simp_all [gmO]) rfl
          · refine aw_iload_n rfl rfl ?_
            refine aw_goto (tgt := 96) rfl (by decide) ?_
            refine aw_iS rfl cw_X12_386 (c_m_isSkilled_52 (by omega) (by omega)) rfl rfl (Nat.le_of_ble_eq_true rfl) (by decide) (by decide) (by decide) (by decide) ?_
            refine aw_if_ne (tgt := 106) rfl (by decide) (fun h99 => ?_) (fun h99 => ?_)
            · refine aw_iconst (v := 0) rfl (by decide) ?_
              refine aw_istore rfl (by decide) ?_
              refine aw_iload rfl rfl ?_
              refine aw_if_eq (tgt := 121) rfl (by decide) (fun h111 => ?_) (fun h111 => absurd h111 (by decide))
              refine aw_iload rfl rfl ?_
              exact aw_fi rfl rfl (by (first | (rw [bB_0] at h66) | skip); (first | (rw [bB_0] at h99) | skip); simp_all [gmO]) rfl
            · refine aw_iconst (v := 1) rfl (by decide) ?_
              refine aw_goto (tgt := 107) rfl (by decide) ?_
              refine aw_istore rfl (by decide) ?_
              refine aw_iload rfl rfl ?_
              refine aw_if_eq (tgt := 121) rfl (by decide) (fun h111 => absurd h111 (by decide)) (fun h111 => ?_)
              refine aw_iload rfl rfl ?_
              refine aw_iconst (v := 3) rfl (by decide) ?_
              refine aw_isub rfl ?_
              refine aw_goto (tgt := 123) rfl (by decide) ?_
              exact aw_fi rfl rfl (by (first | (rw [bB_0] at h66) | skip); (first | (rw [bB_0] at h99) | skip); simp_all [gmO]) rfl
        · refine aw_iload rfl rfl ?_
          refine aw_iconst (v := 1) rfl (by decide) ?_
          refine aw_icmp_ne (tgt := 73) rfl (by decide) (fun h54 => ?_) (fun h54 => ?_)
          · refine aw_iconst (v := 0) rfl (by decide) ?_
            refine aw_istore rfl (by decide) ?_
            refine aw_iload rfl rfl ?_
            refine aw_if_ne (tgt := 106) rfl (by decide) (fun h78 => absurd h78 (by decide)) (fun h78 => ?_)
            refine aw_aload_n rfl rfl ?_
            refine pg_39_32 rfl kl_X12_61 ?_
            refine aw_iload_n rfl rfl ?_
            refine aw_iload rfl rfl ?_
            refine aw_if_ne (tgt := 95) rfl (by decide) (fun h88 => ?_) (fun h88 => ?_)
            · refine aw_iload_n rfl rfl ?_
              refine aw_iS rfl cw_X12_386 (c_m_isSkilled_52 (by omega) (by omega)) rfl rfl (Nat.le_of_ble_eq_true rfl) (by decide) (by decide) (by decide) (by decide) ?_
              refine aw_if_ne (tgt := 106) rfl (by decide) (fun h99 => ?_) (fun h99 => ?_)
              · refine aw_iconst (v := 0) rfl (by decide) ?_
                refine aw_istore rfl (by decide) ?_
                refine aw_iload rfl rfl ?_
                refine aw_if_eq (tgt := 121) rfl (by decide) (fun h111 => ?_) (fun h111 => absurd h111 (by decide))
                refine aw_iload rfl rfl ?_
                exact aw_fi rfl rfl (by (first | (rw [bB_0] at h66) | skip); (first | (rw [bB_0] at h99) | skip); simp_all [gmO]) rfl
              · refine aw_iconst (v := 1) rfl (by decide) ?_
                refine aw_goto (tgt := 107) rfl (by decide) ?_
                refine aw_istore rfl (by decide) ?_
                refine aw_iload rfl rfl ?_
                refine aw_if_eq (tgt := 121) rfl (by decide) (fun h111 => absurd h111 (by decide)) (fun h111 => ?_)
                refine aw_iload rfl rfl ?_
                refine aw_iconst (v := 3) rfl (by decide) ?_
                refine aw_isub rfl ?_
                refine aw_goto (tgt := 123) rfl (by decide) ?_
                exact aw_fi rfl rfl (by (first | (rw [bB_0] at h66) | skip); (first | (rw [bB_0] at h99) | skip); simp_all [gmO]) rfl
            · refine aw_iload_n rfl rfl ?_
              refine aw_goto (tgt := 96) rfl (by decide) ?_
              refine aw_iS rfl cw_X12_386 (c_m_isSkilled_52 (by omega) (by omega)) rfl rfl (Nat.le_of_ble_eq_true rfl) (by decide) (by decide) (by decide) (by decide) ?_
              refine aw_if_ne (tgt := 106) rfl (by decide) (fun h99 => ?_) (fun h99 => ?_)
              · refine aw_iconst (v := 0) rfl (by decide) ?_
                refine aw_istore rfl (by decide) ?_
                refine aw_iload rfl rfl ?_
                refine aw_if_eq (tgt := 121) rfl (by decide) (fun h111 => ?_) (fun h111 => absurd h111 (by decide))
                refine aw_iload rfl rfl ?_
                exact aw_fi rfl rfl (by (first | (rw [bB_0] at h66) | skip); (first | (rw [bB_0] at h99) | skip); simp_all [gmO]) rfl
              · refine aw_iconst (v := 1) rfl (by decide) ?_
                refine aw_goto (tgt := 107) rfl (by decide) ?_
                refine aw_istore rfl (by decide) ?_
                refine aw_iload rfl rfl ?_
                refine aw_if_eq (tgt := 121) rfl (by decide) (fun h111 => absurd h111 (by decide)) (fun h111 => ?_)
                refine aw_iload rfl rfl ?_
                refine aw_iconst (v := 3) rfl (by decide) ?_
                refine aw_isub rfl ?_
                refine aw_goto (tgt := 123) rfl (by decide) ?_
                exact aw_fi rfl rfl (by (first | (rw [bB_0] at h66) | skip); (first | (rw [bB_0] at h99) | skip); simp_all [gmO]) rfl
          · refine aw_aload_n rfl rfl ?_
            refine pg_39_32 rfl kl_X12_61 ?_
            refine aw_iload_n rfl rfl ?_
            refine aw_iload_n rfl rfl ?_
            refine aw_iS rfl cw_X12_386 (c_m_isSkilled_52 (by omega) (by omega)) rfl rfl (Nat.le_of_ble_eq_true rfl) (by decide) (by decide) (by decide) (by decide) ?_
            refine aw_if_ne (tgt := 73) rfl (by decide) (fun h66 => ?_) (fun h66 => ?_)
            · refine aw_iconst (v := 0) rfl (by decide) ?_
              refine aw_istore rfl (by decide) ?_
              refine aw_iload rfl rfl ?_
              refine aw_if_ne (tgt := 106) rfl (by decide) (fun h78 => absurd h78 (by decide)) (fun h78 => ?_)
              refine aw_aload_n rfl rfl ?_
              refine pg_39_32 rfl kl_X12_61 ?_
              refine aw_iload_n rfl rfl ?_
              refine aw_iload rfl rfl ?_
              refine aw_if_ne (tgt := 95) rfl (by decide) (fun h88 => ?_) (fun h88 => ?_)
              · refine aw_iload_n rfl rfl ?_
                refine aw_iS rfl cw_X12_386 (c_m_isSkilled_52 (by omega) (by omega)) rfl rfl (Nat.le_of_ble_eq_true rfl) (by decide) (by decide) (by decide) (by decide) ?_
                refine aw_if_ne (tgt := 106) rfl (by decide) (fun h99 => ?_) (fun h99 => ?_)
                · refine aw_iconst (v := 0) rfl (by decide) ?_
                  refine aw_istore rfl (by decide) ?_
                  refine aw_iload rfl rfl ?_
                  refine aw_if_eq (tgt := 121) rfl (by decide) (fun h111 => ?_) (fun h111 => absurd h111 (by decide))
                  refine aw_iload rfl rfl ?_
                  exact aw_fi rfl rfl (by (first | (rw [bB_0] at h66) | skip); (first | (rw [bB_0] at h99) | skip); simp_all [gmO]) rfl
                · refine aw_iconst (v := 1) rfl (by decide) ?_
                  refine aw_goto (tgt := 107) rfl (by decide) ?_
                  refine aw_istore rfl (by decide) ?_
                  refine aw_iload rfl rfl ?_
                  refine aw_if_eq (tgt := 121) rfl (by decide) (fun h111 => absurd h111 (by decide)) (fun h111 => ?_)
                  refine aw_iload rfl rfl ?_
                  refine aw_iconst (v := 3) rfl (by decide) ?_
                  refine aw_isub rfl ?_
                  refine aw_goto (tgt := 123) rfl (by decide) ?_
                  exact aw_fi rfl rfl (by (first | (rw [bB_0] at h66) | skip); (first | (rw [bB_0] at h99) | skip); simp_all [gmO]) rfl
              · refine aw_iload_n rfl rfl ?_
                refine aw_goto (tgt := 96) rfl (by decide) ?_
                refine aw_iS rfl cw_X12_386 (c_m_isSkilled_52 (by omega) (by omega)) rfl rfl (Nat.le_of_ble_eq_true rfl) (by decide) (by decide) (by decide) (by decide) ?_
                refine aw_if_ne (tgt := 106) rfl (by decide) (fun h99 => ?_) (fun h99 => ?_)
                · refine aw_iconst (v := 0) rfl (by decide) ?_
                  refine aw_istore rfl (by decide) ?_
                  refine aw_iload rfl rfl ?_
                  refine aw_if_eq (tgt := 121) rfl (by decide) (fun h111 => ?_) (fun h111 => absurd h111 (by decide))
                  refine aw_iload rfl rfl ?_
                  exact aw_fi rfl rfl (by (first | (rw [bB_0] at h66) | skip); (first | (rw [bB_0] at h99) | skip); simp_all [gmO]) rfl
                · refine aw_iconst (v := 1) rfl (by decide) ?_
                  refine aw_goto (tgt := 107) rfl (by decide) ?_
                  refine aw_istore rfl (by decide) ?_
                  refine aw_iload rfl rfl ?_
                  refine aw_if_eq (tgt := 121) rfl (by decide) (fun h111 => absurd h111 (by decide)) (fun h111 => ?_)
                  refine aw_iload rfl rfl ?_
                  refine aw_iconst (v := 3) rfl (by decide) ?_
                  refine aw_isub rfl ?_
                  refine aw_goto (tgt := 123) rfl (by decide) ?_
                  exact aw_fi rfl rfl (by (first | (rw [bB_0] at h66) | skip); (first | (rw [bB_0] at h99) | skip); simp_all [gmO]) rfl
            · refine aw_iconst (v := 1) rfl (by decide) ?_
              refine aw_goto (tgt := 74) rfl (by decide) ?_
              refine aw_istore rfl (by decide) ?_
              refine aw_iload rfl rfl ?_
              refine aw_if_ne (tgt := 106) rfl (by decide) (fun h78 => ?_) (fun h78 => absurd h78 (by decide))
              refine aw_iconst (v := 0) rfl (by decide) ?_
              refine aw_istore rfl (by decide) ?_
              refine aw_iload rfl rfl ?_
              refine aw_if_eq (tgt := 121) rfl (by decide) (fun h111 => ?_) (fun h111 => absurd h111 (by decide))
              refine aw_iload rfl rfl ?_
              exact aw_fi rfl rfl (by (first | (rw [bB_0] at h66) | skip); (first | (rw [bB_0] at h99) | skip); simp_all [gmO]) rfl
      · refine aw_aload_n rfl rfl ?_
        refine aw_iload_n rfl rfl ?_
        refine aw_iconst (v := 2) rfl (by decide) ?_
        refine aw_iV (q0 := 39) (ci := 12) rfl cw_X12_319 rfl rfl rfl (c_m_of (j := j) (c := 2) (by omega) (by decide)) rfl rfl (Nat.le_of_ble_eq_true rfl) (by decide) (by decide) (by decide) (by decide) ?_
        refine aw_iconst (v := 2) rfl (by decide) ?_
        refine aw_idiv rfl (by decide) ?_
        refine aw_goto (tgt := 43) rfl (by decide) ?_
        refine aw_istore rfl (by decide) ?_
        refine aw_iload rfl rfl ?_
        refine aw_iconst (v := 1) rfl (by decide) ?_
        refine aw_icmp_ne (tgt := 73) rfl (by decide) (fun h48 => ?_) (fun h48 => ?_)
        · refine aw_iconst (v := 0) rfl (by decide) ?_
          refine aw_istore rfl (by decide) ?_
          refine aw_iload rfl rfl ?_
          refine aw_if_ne (tgt := 106) rfl (by decide) (fun h78 => absurd h78 (by decide)) (fun h78 => ?_)
          refine aw_aload_n rfl rfl ?_
          refine pg_39_32 rfl kl_X12_61 ?_
          refine aw_iload_n rfl rfl ?_
          refine aw_iload rfl rfl ?_
          refine aw_if_ne (tgt := 95) rfl (by decide) (fun h88 => ?_) (fun h88 => ?_)
          · refine aw_iload_n rfl rfl ?_
            refine aw_iS rfl cw_X12_386 (c_m_isSkilled_52 (by omega) (by omega)) rfl rfl (Nat.le_of_ble_eq_true rfl) (by decide) (by decide) (by decide) (by decide) ?_
            refine aw_if_ne (tgt := 106) rfl (by decide) (fun h99 => ?_) (fun h99 => ?_)
            · refine aw_iconst (v := 0) rfl (by decide) ?_
              refine aw_istore rfl (by decide) ?_
              refine aw_iload rfl rfl ?_
              refine aw_if_eq (tgt := 121) rfl (by decide) (fun h111 => ?_) (fun h111 => absurd h111 (by decide))
              refine aw_iload rfl rfl ?_
              exact aw_fi rfl rfl (by (first | (rw [bB_0] at h66) | skip); (first | (rw [bB_0] at h99) | skip); simp_all [gmO]) rfl
            · refine aw_iconst (v := 1) rfl (by decide) ?_
              refine aw_goto (tgt := 107) rfl (by decide) ?_
              refine aw_istore rfl (by decide) ?_
              refine aw_iload rfl rfl ?_
              refine aw_if_eq (tgt := 121) rfl (by decide) (fun h111 => absurd h111 (by decide)) (fun h111 => ?_)
              refine aw_iload rfl rfl ?_
              refine aw_iconst (v := 3) rfl (by decide) ?_
              refine aw_isub rfl ?_
              refine aw_goto (tgt := 123) rfl (by decide) ?_
              exact aw_fi rfl rfl (by (first | (rw [bB_0] at h66) | skip); (first | (rw [bB_0] at h99) | skip); simp_all [gmO]) rfl
          · refine aw_iload_n rfl rfl ?_
            refine aw_goto (tgt := 96) rfl (by decide) ?_
            refine aw_iS rfl cw_X12_386 (c_m_isSkilled_52 (by omega) (by omega)) rfl rfl (Nat.le_of_ble_eq_true rfl) (by decide) (by decide) (by decide) (by decide) ?_
            refine aw_if_ne (tgt := 106) rfl (by decide) (fun h99 => ?_) (fun h99 => ?_)
            · refine aw_iconst (v := 0) rfl (by decide) ?_
              refine aw_istore rfl (by decide) ?_
              refine aw_iload rfl rfl ?_
              refine aw_if_eq (tgt := 121) rfl (by decide) (fun h111 => ?_) (fun h111 => absurd h111 (by decide))
              refine aw_iload rfl rfl ?_
              exact aw_fi rfl rfl (by (first | (rw [bB_0] at h66) | skip); (first | (rw [bB_0] at h99) | skip); simp_all [gmO]) rfl
            · refine aw_iconst (v := 1) rfl (by decide) ?_
              refine aw_goto (tgt := 107) rfl (by decide) ?_
              refine aw_istore rfl (by decide) ?_
              refine aw_iload rfl rfl ?_
              refine aw_if_eq (tgt := 121) rfl (by decide) (fun h111 => absurd h111 (by decide)) (fun h111 => ?_)
              refine aw_iload rfl rfl ?_
              refine aw_iconst (v := 3) rfl (by decide) ?_
              refine aw_isub rfl ?_
              refine aw_goto (tgt := 123) rfl (by decide) ?_
              exact aw_fi rfl rfl (by (first | (rw [bB_0] at h66) | skip); (first | (rw [bB_0] at h99) | skip); simp_all [gmO]) rfl
        · refine aw_iload rfl rfl ?_
          refine aw_iconst (v := 1) rfl (by decide) ?_
          refine aw_icmp_ne (tgt := 73) rfl (by decide) (fun h54 => ?_) (fun h54 => ?_)
          · refine aw_iconst (v := 0) rfl (by decide) ?_
            refine aw_istore rfl (by decide) ?_
            refine aw_iload rfl rfl ?_
            refine aw_if_ne (tgt := 106) rfl (by decide) (fun h78 => absurd h78 (by decide)) (fun h78 => ?_)
            refine aw_aload_n rfl rfl ?_
            refine pg_39_32 rfl kl_X12_61 ?_
            refine aw_iload_n rfl rfl ?_
            refine aw_iload rfl rfl ?_
            refine aw_if_ne (tgt := 95) rfl (by decide) (fun h88 => ?_) (fun h88 => ?_)
            · refine aw_iload_n rfl rfl ?_
              refine aw_iS rfl cw_X12_386 (c_m_isSkilled_52 (by omega) (by omega)) rfl rfl (Nat.le_of_ble_eq_true rfl) (by decide) (by decide) (by decide) (by decide) ?_
              refine aw_if_ne (tgt := 106) rfl (by decide) (fun h99 => ?_) (fun h99 => ?_)
              · refine aw_iconst (v := 0) rfl (by decide) ?_
                refine aw_istore rfl (by decide) ?_
                refine aw_iload rfl rfl ?_
                refine aw_if_eq (tgt := 121) rfl (by decide) (fun h111 => ?_) (fun h111 => absurd h111 (by decide))
                refine aw_iload rfl rfl ?_
                exact aw_fi rfl rfl (by (first | (rw [bB_0] at h66) | skip); (first | (rw [bB_0] at h99) | skip); simp_all [gmO]) rfl
              · refine aw_iconst (v := 1) rfl (by decide) ?_
                refine aw_goto (tgt := 107) rfl (by decide) ?_
                refine aw_istore rfl (by decide) ?_
                refine aw_iload rfl rfl ?_
                refine aw_if_eq (tgt := 121) rfl (by decide) (fun h111 => absurd h111 (by decide)) (fun h111 => ?_)
                refine aw_iload rfl rfl ?_
                refine aw_iconst (v := 3) rfl (by decide) ?_
                refine aw_isub rfl ?_
                refine aw_goto (tgt := 123) rfl (by decide) ?_
                exact aw_fi rfl rfl (by (first | (rw [bB_0] at h66) | skip); (first | (rw [bB_0] at h99) | skip); simp_all [gmO]) rfl
            · refine aw_iload_n rfl rfl ?_
              refine aw_goto (tgt := 96) rfl (by decide) ?_
              refine aw_iS rfl cw_X12_386 (c_m_isSkilled_52 (by omega) (by omega)) rfl rfl (Nat.le_of_ble_eq_true rfl) (by decide) (by decide) (by decide) (by decide) ?_
              refine aw_if_ne (tgt := 106) rfl (by decide) (fun h99 => ?_) (fun h99 => ?_)
              · refine aw_iconst (v := 0) rfl (by decide) ?_
                refine aw_istore rfl (by decide) ?_
                refine aw_iload rfl rfl ?_
                refine aw_if_eq (tgt := 121) rfl (by decide) (fun h111 => ?_) (fun h111 => absurd h111 (by decide))
                refine aw_iload rfl rfl ?_
                exact aw_fi rfl rfl (by (first | (rw [bB_0] at h66) | skip); (first | (rw [bB_0] at h99) | skip); simp_all [gmO]) rfl
              · refine aw_iconst (v := 1) rfl (by decide) ?_
                refine aw_goto (tgt := 107) rfl (by decide) ?_
                refine aw_istore rfl (by decide) ?_
                refine aw_iload rfl rfl ?_
                refine aw_if_eq (tgt := 121) rfl (by decide) (fun h111 => absurd h111 (by decide)) (fun h111 => ?_)
                refine aw_iload rfl rfl ?_
                refine aw_iconst (v := 3) rfl (by decide) ?_
                refine aw_isub rfl ?_
                refine aw_goto (tgt := 123) rfl (by decide) ?_
                exact aw_fi rfl rfl (by (first | (rw [bB_0] at h66) | skip); (first | (rw [bB_0] at h99) | skip); simp_all [gmO]) rfl
          · refine aw_aload_n rfl rfl ?_
            refine pg_39_32 rfl kl_X12_61 ?_
            refine aw_iload_n rfl rfl ?_
            refine aw_iload_n rfl rfl ?_
            refine aw_iS rfl cw_X12_386 (c_m_isSkilled_52 (by omega) (by omega)) rfl rfl (Nat.le_of_ble_eq_true rfl) (by decide) (by decide) (by decide) (by decide) ?_
            refine aw_if_ne (tgt := 73) rfl (by decide) (fun h66 => ?_) (fun h66 => ?_)
            · refine aw_iconst (v := 0) rfl (by decide) ?_
              refine aw_istore rfl (by decide) ?_
              refine aw_iload rfl rfl ?_
              refine aw_if_ne (tgt := 106) rfl (by decide) (fun h78 => absurd h78 (by decide)) (fun h78 => ?_)
              refine aw_aload_n rfl rfl ?_
              refine pg_39_32 rfl kl_X12_61 ?_
              refine aw_iload_n rfl rfl ?_
              refine aw_iload rfl rfl ?_
              refine aw_if_ne (tgt := 95) rfl (by decide) (fun h88 => ?_) (fun h88 => ?_)
              · refine aw_iload_n rfl rfl ?_
                refine aw_iS rfl cw_X12_386 (c_m_isSkilled_52 (by omega) (by omega)) rfl rfl (Nat.le_of_ble_eq_true rfl) (by decide) (by decide) (by decide) (by decide) ?_
                refine aw_if_ne (tgt := 106) rfl (by decide) (fun h99 => ?_) (fun h99 => ?_)
                · refine aw_iconst (v := 0) rfl (by decide) ?_
                  refine aw_istore rfl (by decide) ?_
                  refine aw_iload rfl rfl ?_
                  refine aw_if_eq (tgt := 121) rfl (by decide) (fun h111 => ?_) (fun h111 => absurd h111 (by decide))
                  refine aw_iload rfl rfl ?_
                  exact aw_fi rfl rfl (by (first | (rw [bB_0] at h66) | skip); (first | (rw [bB_0] at h99) | skip); simp_all [gmO]) rfl
                · refine aw_iconst (v := 1) rfl (by decide) ?_
                  refine aw_goto (tgt := 107) rfl (by decide) ?_
                  refine aw_istore rfl (by decide) ?_
                  refine aw_iload rfl rfl ?_
                  refine aw_if_eq (tgt := 121) rfl (by decide) (fun h111 => absurd h111 (by decide)) (fun h111 => ?_)
                  refine aw_iload rfl rfl ?_
                  refine aw_iconst (v := 3) rfl (by decide) ?_
                  refine aw_isub rfl ?_
                  refine aw_goto (tgt := 123) rfl (by decide) ?_
                  exact aw_fi rfl rfl (by (first | (rw [bB_0] at h66) | skip); (first | (rw [bB_0] at h99) | skip); simp_all [gmO]) rfl
              · refine aw_iload_n rfl rfl ?_
                refine aw_goto (tgt := 96) rfl (by decide) ?_
                refine aw_iS rfl cw_X12_386 (c_m_isSkilled_52 (by omega) (by omega)) rfl rfl (Nat.le_of_ble_eq_true rfl) (by decide) (by decide) (by decide) (by decide) ?_
                refine aw_if_ne (tgt := 106) rfl (by decide) (fun h99 => ?_) (fun h99 => ?_)
                · refine aw_iconst (v := 0) rfl (by decide) ?_
                  refine aw_istore rfl (by decide) ?_
                  refine aw_iload rfl rfl ?_
                  refine aw_if_eq (tgt := 121) rfl (by decide) (fun h111 => ?_) (fun h111 => absurd h111 (by decide))
                  refine aw_iload rfl rfl ?_
                  exact aw_fi rfl rfl (by (first | (rw [bB_0] at h66) | skip); (first | (rw [bB_0] at h99) | skip); simp_all [gmO]) rfl
                · refine aw_iconst (v := 1) rfl (by decide) ?_
                  refine aw_goto (tgt := 107) rfl (by decide) ?_
                  refine aw_istore rfl (by decide) ?_
                  refine aw_iload rfl rfl ?_
                  refine aw_if_eq (tgt := 121) rfl (by decide) (fun h111 => absurd h111 (by decide)) (fun h111 => ?_)
                  refine aw_iload rfl rfl ?_
                  refine aw_iconst (v := 3) rfl (by decide) ?_
                  refine aw_isub rfl ?_
                  refine aw_goto (tgt := 123) rfl (by decide) ?_
                  exact aw_fi rfl rfl (by (first | (rw [bB_0] at h66) | skip); (first | (rw [bB_0] at h99) | skip); simp_all [gmO]) rfl
            · refine aw_iconst (v := 1) rfl (by decide) ?_
              refine aw_goto (tgt := 74) rfl (by decide) ?_
              refine aw_istore rfl (by decide) ?_
              refine aw_iload rfl rfl ?_
              refine aw_if_ne (tgt := 106) rfl (by decide) (fun h78 => ?_) (fun h78 => absurd h78 (by decide))
              refine aw_iconst (v := 0) rfl (by decide) ?_
              refine aw_istore rfl (by decide) ?_
              refine aw_iload rfl rfl ?_
              refine aw_if_eq (tgt := 121) rfl (by decide) (fun h111 => ?_) (fun h111 => absurd h111 (by decide))
              refine aw_iload rfl rfl ?_
              exact aw_fi rfl rfl (by (first | (rw [bB_0] at h66) | skip); (first | (rw [bB_0] at h99) | skip); simp_all [gmO]) rfl
    · refine aw_iconst (v := 0) rfl (by decide) ?_
      exact aw_fi rfl rfl (by (first | (rw [bB_0] at h66) | skip); (first | (rw [bB_0] at h99) | skip); simp_all [gmO]) rfl
set_option maxRecDepth 4000 in
theorem c_m_game {l : Launch} {g : ag_G} {s : am_S} {n : am_N} {p q t x y v : Int32} {T Q : Nat} (hb : mb s T Q) : aw_F l g mi_X12_game 3 [.ref (g_ad g 39), .int p, .int q, .int t, .int x, .int y, .int v] (hp g s n) (.int (m_game (up s 39 0 0) p q t x y v)) (hp g ((up s 39 0 0)) n) := by
  refine aw_F_of mo_X12_game (by decide) (Nat.le_of_ble_eq_true rfl) ?_
  refine aw_aload_n rfl rfl ?_
  refine aw_iconst (v := 0) rfl (by decide) ?_
  refine pp_39_0 rfl kl_X12_96 ?_
  have hb : mb (up s 39 0 0) T Q := hb
  skip
  generalize up s 39 0 0 = S at *
  have hT := hb.2.1
  have hQ := hb.2.2.2.1
  refine aw_aload_n rfl rfl ?_
  refine aw_iload_n rfl rfl ?_
  refine aw_iload_n rfl rfl ?_
  refine aw_iload_n rfl rfl ?_
  refine aw_iV (q0 := 39) (ci := 12) rfl cw_X12_458 rfl rfl rfl (c_m_isGame hb) rfl rfl (Nat.le_of_ble_eq_true rfl) (by decide) (by decide) (by decide) (by decide) ?_
  refine aw_if_eq (tgt := 64) rfl (by decide) (fun h12 => ?_) (fun h12 => ?_)
  · refine aw_ldcw (v := -1000000) rfl (aw_t7 227 rfl rfl) ?_
    refine aw_fi rfl rfl ?_ rfl
    unfold m_game
    first
      | (rw [if_neg (by rw [bB_0.mp h12]; exact Bool.false_ne_true)]; done)
      | (rw [if_pos q0, if_neg (by rw [bB_0.mp h23]; exact Bool.false_ne_true)]; done)
      | (rw [if_pos q0, if_pos (bB_n0.mp h23), if_neg (by rw [bB_0.mp h34]; exact Bool.false_ne_true)]; done)
      | (rw [if_pos q0, if_pos (bB_n0.mp h23), if_pos (bB_n0.mp h34), if_neg (by rw [bB_0.mp h45]; exact Bool.false_ne_true)]; done)
      | (rw [if_pos q0, if_pos (bB_n0.mp h23), if_pos (bB_n0.mp h34), if_pos (bB_n0.mp h45), hcj, hcp, hcq]; done)
      | fail "x"
  · have q0 := bB_n0.mp h12
    have qq := q0
    unfold igm shm at qq
    simp only [Bool.and_eq_true] at qq
    obtain ⟨j, hj, rfl⟩ := isTm_nI hb qq.2.2.2.1.1
    obtain ⟨p, hp1, rfl⟩ := isRm_nI hb qq.1
    obtain ⟨q, hq1, rfl⟩ := isRm_nI hb qq.2.1
    have hcj : cl (nI j) = j := cl_nI (by omega)
    have hcp : cl (nI p) = p := cl_nI (by omega)
    have hcq : cl (nI q) = q := cl_nI (by omega)
    refine aw_iload rfl rfl ?_
    refine aw_i2l rfl ?_
    refine aw_lconst (v := 0) rfl (by decide) ?_
    refine aw_lconst (v := 1) rfl (by decide) ?_
    refine aw_iS rfl cw_X12_217 (c_m_isIn) rfl rfl (Nat.le_of_ble_eq_true rfl) (by decide) (by decide) (by decide) (by decide) ?_
    refine aw_if_eq (tgt := 64) rfl (by decide) (fun h23 => ?_) (fun h23 => ?_)
    · refine aw_ldcw (v := -1000000) rfl (aw_t7 227 rfl rfl) ?_
      refine aw_fi rfl rfl ?_ rfl
      unfold m_game
      first
        | (rw [if_neg (by rw [bB_0.mp h12]; exact Bool.false_ne_true)]; done)
        | (rw [if_pos q0, if_neg (by rw [bB_0.mp h23]; exact Bool.false_ne_true)]; done)
        | (rw [if_pos q0, if_pos (bB_n0.mp h23), if_neg (by rw [bB_0.mp h34]; exact Bool.false_ne_true)]; done)
        | (rw [if_pos q0, if_pos (bB_n0.mp h23), if_pos (bB_n0.mp h34), if_neg (by rw [bB_0.mp h45]; exact Bool.false_ne_true)]; done)
        | (rw [if_pos q0, if_pos (bB_n0.mp h23), if_pos (bB_n0.mp h34), if_pos (bB_n0.mp h45), hcj, hcp, hcq]; done)
        | fail "x"
    · refine aw_iload rfl rfl ?_
      refine aw_i2l rfl ?_
      refine aw_lconst (v := 0) rfl (by decide) ?_
      refine aw_lconst (v := 1) rfl (by decide) ?_
      refine aw_iS rfl cw_X12_217 (c_m_isIn) rfl rfl (Nat.le_of_ble_eq_true rfl) (by decide) (by decide) (by decide) (by decide) ?_
      refine aw_if_eq (tgt := 64) rfl (by decide) (fun h34 => ?_) (fun h34 => ?_)
      · refine aw_ldcw (v := -1000000) rfl (aw_t7 227 rfl rfl) ?_
        refine aw_fi rfl rfl ?_ rfl
        unfold m_game
        first
          | (rw [if_neg (by rw [bB_0.mp h12]; exact Bool.false_ne_true)]; done)
          | (rw [if_pos q0, if_neg (by rw [bB_0.mp h23]; exact Bool.false_ne_true)]; done)
          | (rw [if_pos q0, if_pos (bB_n0.mp h23), if_neg (by rw [bB_0.mp h34]; exact Bool.false_ne_true)]; done)
          | (rw [if_pos q0, if_pos (bB_n0.mp h23), if_pos (bB_n0.mp h34), if_neg (by rw [bB_0.mp h45]; exact Bool.false_ne_true)]; done)
          | (rw [if_pos q0, if_pos (bB_n0.mp h23), if_pos (bB_n0.mp h34), if_pos (bB_n0.mp h45), hcj, hcp, hcq]; done)
          | fail "x"
      · refine aw_iload rfl rfl ?_
        refine aw_i2l rfl ?_
        refine aw_lconst (v := 0) rfl (by decide) ?_
        refine aw_lconst (v := 1) rfl (by decide) ?_
        refine aw_iS rfl cw_X12_217 (c_m_isIn) rfl rfl (Nat.le_of_ble_eq_true rfl) (by decide) (by decide) (by decide) (by decide) ?_
        refine aw_if_eq (tgt := 64) rfl (by decide) (fun h45 => ?_) (fun h45 => ?_)
        · refine aw_ldcw (v := -1000000) rfl (aw_t7 227 rfl rfl) ?_
          refine aw_fi rfl rfl ?_ rfl
          unfold m_game
          first
            | (rw [if_neg (by rw [bB_0.mp h12]; exact Bool.false_ne_true)]; done)
            | (rw [if_pos q0, if_neg (by rw [bB_0.mp h23]; exact Bool.false_ne_true)]; done)
            | (rw [if_pos q0, if_pos (bB_n0.mp h23), if_neg (by rw [bB_0.mp h34]; exact Bool.false_ne_true)]; done)
            | (rw [if_pos q0, if_pos (bB_n0.mp h23), if_pos (bB_n0.mp h34), if_neg (by rw [bB_0.mp h45]; exact Bool.false_ne_true)]; done)
            | (rw [if_pos q0, if_pos (bB_n0.mp h23), if_pos (bB_n0.mp h34), if_pos (bB_n0.mp h45), hcj, hcp, hcq]; done)
            | fail "x"
        · refine aw_aload_n rfl rfl ?_
          refine aw_iload_n rfl rfl ?_
          refine aw_iload_n rfl rfl ?_
          refine aw_iload_n rfl rfl ?_
          refine aw_iload rfl rfl ?_
          refine aw_iload rfl rfl ?_
          refine aw_iload rfl rfl ?_
          refine aw_iV (q0 := 39) (ci := 12) rfl cw_X12_461 rfl rfl rfl (c_m_gameOf (by omega) (by omega) (by omega)) rfl rfl (Nat.le_of_ble_eq_true rfl) (by decide) (by decide) (by decide) (by decide) ?_
          refine aw_goto (tgt := 67) rfl (by decide) ?_
          refine aw_fi rfl rfl ?_ rfl
          unfold m_game
          first
            | (rw [if_neg (by rw [bB_0.mp h12]; exact Bool.false_ne_true)]; done)
            | (rw [if_pos q0, if_neg (by rw [bB_0.mp h23]; exact Bool.false_ne_true)]; done)
            | (rw [if_pos q0, if_pos (bB_n0.mp h23), if_neg (by rw [bB_0.mp h34]; exact Bool.false_ne_true)]; done)
            | (rw [if_pos q0, if_pos (bB_n0.mp h23), if_pos (bB_n0.mp h34), if_neg (by rw [bB_0.mp h45]; exact Bool.false_ne_true)]; done)
            | (rw [if_pos q0, if_pos (bB_n0.mp h23), if_pos (bB_n0.mp h34), if_pos (bB_n0.mp h45), hcj, hcp, hcq]; done)
            | fail "x"
set_option maxRecDepth 4000 in
theorem c_m_rests {l : Launch} {g : ag_G} {s : am_S} {n : am_N} {p q t i : Int32} {T Q : Nat} (hb : mb s T Q) : aw_F l g mi_X12_rests 3 [.ref (g_ad g 39), .int p, .int q, .int t, .int i] (hp g s n) (.int (m_rests (up s 39 0 0) p q t i)) (hp g ((up s 39 0 0)) n) := by
  refine aw_F_of mo_X12_rests (by decide) (Nat.le_of_ble_eq_true rfl) ?_
  refine aw_aload_n rfl rfl ?_
  refine aw_iconst (v := 0) rfl (by decide) ?_
  refine pp_39_0 rfl kl_X12_96 ?_
  have hb : mb (up s 39 0 0) T Q := hb
  skip
  generalize up s 39 0 0 = S at *
  have hT := hb.2.1
  have hQ := hb.2.2.2.1
  refine aw_aload_n rfl rfl ?_
  refine aw_iload_n rfl rfl ?_
  refine aw_iload_n rfl rfl ?_
  refine aw_iload_n rfl rfl ?_
  refine aw_iV (q0 := 39) (ci := 12) rfl cw_X12_458 rfl rfl rfl (c_m_isGame hb) rfl rfl (Nat.le_of_ble_eq_true rfl) (by decide) (by decide) (by decide) (by decide) ?_
  refine aw_if_eq (tgt := 21) rfl (by decide) (fun h12 => ?_) (fun h12 => ?_)
  · refine aw_iconst (v := -1) rfl (by decide) ?_
    refine aw_fi rfl rfl ?_ rfl
    unfold m_rests
    first
      | (rw [if_neg (by rw [bB_0.mp h12]; exact Bool.false_ne_true)]; done)
      | (rw [if_pos q0, if_neg h18]; done)
      | fail "x"
  · have q0 := bB_n0.mp h12
    have qq := q0
    unfold igm shm at qq
    simp only [Bool.and_eq_true] at qq
    obtain ⟨j, hj, rfl⟩ := isTm_nI hb qq.2.2.2.1.1
    obtain ⟨p, hp1, rfl⟩ := isRm_nI hb qq.1
    obtain ⟨q, hq1, rfl⟩ := isRm_nI hb qq.2.1
    have hcj : cl (nI j) = j := cl_nI (by omega)
    have hcp : cl (nI p) = p := cl_nI (by omega)
    have hcq : cl (nI q) = q := cl_nI (by omega)
    refine aw_iload rfl rfl ?_
    refine aw_iconst (v := -1) rfl (by decide) ?_
    refine aw_icmp_ge (tgt := 23) rfl (by decide) (fun h18 => ?_) (fun h18 => ?_)
    · rw [show m_rests S (nI p) (nI q) (nI j) i = rsL S j p q i [(0, 0), (0, 1), (1, 0), (1, 1)] 0 from by (unfold m_rests; rw [if_pos q0, if_pos h18, hcj, hcp, hcq])]
      obtain ⟨X, hXX⟩ : ∃ z, z = rsL S j p q i [(0, 0), (0, 1), (1, 0), (1, 1)] 0 := ⟨_, rfl⟩
      rw [← hXX]
      have st3 : ∀ m : Int32, rsL S j p q i [(1, 1)] m = X → aw_W l g mi_X12_rests (aw_rm 3 0 0) (aw_Z g (fun r w => r = some (.int X) ∧ w = hp g S n) 0 0) 0 0 (hp g S n) 38 [some (.ref (g_ad g 39)), some (.int (nI p)), some (.int (nI q)), some (.int (nI j)), some (.int i), some (.int m), some (.int 1), some (.int 1)] [] := by
        intro m hX
        simp only [rsL] at hX
        refine aw_iload rfl rfl ?_
        refine aw_iconst (v := 2) rfl (by decide) ?_
        refine aw_icmp_ge (tgt := 130) rfl (by decide) (fun h41 => absurd h41 (by decide)) (fun h41 => ?_)
        refine aw_aload_n rfl rfl ?_
        refine aw_iload_n rfl rfl ?_
        refine aw_iload_n rfl rfl ?_
        refine aw_iload_n rfl rfl ?_
        refine aw_iconst (v := 1) rfl (by decide) ?_
        refine aw_iload rfl rfl ?_
        refine aw_isub rfl ?_
        refine aw_iload rfl rfl ?_
        refine aw_iconst (v := 0) rfl (by decide) ?_
        refine aw_iV (q0 := 39) (ci := 12) rfl cw_X12_461 rfl rfl rfl (c_m_gameOf (by omega) (by omega) (by omega)) rfl rfl (Nat.le_of_ble_eq_true rfl) (by decide) (by decide) (by decide) (by decide) ?_
        refine aw_aload_n rfl rfl ?_
        refine aw_iload_n rfl rfl ?_
        refine aw_iload_n rfl rfl ?_
        refine aw_iload_n rfl rfl ?_
        refine aw_iload rfl rfl ?_
        refine aw_iload rfl rfl ?_
        refine aw_iconst (v := 0) rfl (by decide) ?_
        refine aw_iV (q0 := 39) (ci := 12) rfl cw_X12_461 rfl rfl rfl (c_m_gameOf (by omega) (by omega) (by omega)) rfl rfl (Nat.le_of_ble_eq_true rfl) (by decide) (by decide) (by decide) (by decide) ?_
        refine aw_icmp_gt (tgt := 124) rfl (by decide) (fun h70 => ?_) (fun h70 => ?_)
        · refine aw_inc1 rfl rfl (by decide) ?_
          refine aw_goto (tgt := 38) rfl (by decide) ?_
          refine aw_iload rfl rfl ?_
          refine aw_iconst (v := 2) rfl (by decide) ?_
          refine aw_icmp_ge (tgt := 130) rfl (by decide) (fun h41 => ?_) (fun h41 => absurd h41 (by decide))
          refine aw_inc1 rfl rfl (by decide) ?_
          refine aw_goto (tgt := 29) rfl (by decide) ?_
          refine aw_iload rfl rfl ?_
          refine aw_iconst (v := 2) rfl (by decide) ?_
          refine aw_icmp_ge (tgt := 136) rfl (by decide) (fun h32 => ?_) (fun h32 => absurd h32 (by decide))
          refine aw_iload rfl rfl ?_
          refine aw_iconst (v := -1) rfl (by decide) ?_
          refine aw_icmp_ne (tgt := 147) rfl (by decide) (fun h139 => ?_) (fun h139 => ?_)
          · refine aw_iconst (v := -1) rfl (by decide) ?_
            first
            | exact aw_fi rfl rfl (by rw [if_neg (by unfold rsP; rw [decide_eq_false (Int32.not_le.mpr h70)]; exact Bool.false_ne_true)] at hX; rw [if_pos h139] at hX; exact hX) rfl
            | exact aw_fi rfl rfl (by rw [if_neg (by unfold rsP; rw [decide_eq_false (Int32.not_le.mpr h70)]; exact Bool.false_ne_true)] at hX; rw [if_neg h139] at hX; exact hX) rfl
            | exact aw_fi rfl rfl (by rw [if_neg (by unfold rsP; rw [decide_eq_false (show ¬ gmO S j p q 1 (1 - 1) 1 ≤ gmO S j p q 1 1 1 from h99), Bool.and_false]; exact Bool.false_ne_true)] at hX; rw [if_pos h139] at hX; exact hX) rfl
            | exact aw_fi rfl rfl (by rw [if_neg (by unfold rsP; rw [decide_eq_false (show ¬ gmO S j p q 1 (1 - 1) 1 ≤ gmO S j p q 1 1 1 from h99), Bool.and_false]; exact Bool.false_ne_true)] at hX; rw [if_neg h139] at hX; exact hX) rfl
            | exact aw_fi rfl rfl (by rw [if_pos (by unfold rsP; rw [decide_eq_true (Int32.not_lt.mp h70), decide_eq_true h99]; rfl)] at hX; rw [if_neg h109] at hX; rw [if_pos h139] at hX; exact hX) rfl
            | exact aw_fi rfl rfl (by rw [if_pos (by unfold rsP; rw [decide_eq_true (Int32.not_lt.mp h70), decide_eq_true h99]; rfl)] at hX; rw [if_neg h109] at hX; rw [if_neg h139] at hX; exact hX) rfl
            | fail "x"
          · refine aw_iload rfl rfl ?_
            refine aw_goto (tgt := 148) rfl (by decide) ?_
            first
            | exact aw_fi rfl rfl (by rw [if_neg (by unfold rsP; rw [decide_eq_false (Int32.not_le.mpr h70)]; exact Bool.false_ne_true)] at hX; rw [if_pos h139] at hX; exact hX) rfl
            | exact aw_fi rfl rfl (by rw [if_neg (by unfold rsP; rw [decide_eq_false (Int32.not_le.mpr h70)]; exact Bool.false_ne_true)] at hX; rw [if_neg h139] at hX; exact hX) rfl
            | exact aw_fi rfl rfl (by rw [if_neg (by unfold rsP; rw [decide_eq_false (show ¬ gmO S j p q 1 (1 - 1) 1 ≤ gmO S j p q 1 1 1 from h99), Bool.and_false]; exact Bool.false_ne_true)] at hX; rw [if_pos h139] at hX; exact hX) rfl
            | exact aw_fi rfl rfl (by rw [if_neg (by unfold rsP; rw [decide_eq_false (show ¬ gmO S j p q 1 (1 - 1) 1 ≤ gmO S j p q 1 1 1 from h99), Bool.and_false]; exact Bool.false_ne_true)] at hX; rw [if_neg h139] at hX; exact hX) rfl
            | exact aw_fi rfl rfl (by rw [if_pos (by unfold rsP; rw [decide_eq_true (Int32.not_lt.mp h70), decide_eq_true h99]; rfl)] at hX; rw [if_neg h109] at hX; rw [if_pos h139] at hX; exact hX) rfl
            | exact aw_fi rfl rfl (by rw [if_pos (by unfold rsP; rw [decide_eq_true (Int32.not_lt.mp h70), decide_eq_true h99]; rfl)] at hX; rw [if_neg h109] at hX; rw [if_neg h139] at hX; exact hX) rfl
            | fail "x"
        · refine aw_aload_n rfl rfl ?_
          refine aw_iload_n rfl rfl ?_
          refine aw_iload_n rfl rfl ?_
          refine aw_iload_n rfl rfl ?_
          refine aw_iload rfl rfl ?_
          refine aw_iconst (v := 1) rfl (by decide) ?_
          refine aw_iload rfl rfl ?_
          refine aw_isub rfl ?_
          refine aw_iconst (v := 1) rfl (by decide) ?_
          refine aw_iV (q0 := 39) (ci := 12) rfl cw_X12_461 rfl rfl rfl (c_m_gameOf (by omega) (by omega) (by omega)) rfl rfl (Nat.le_of_ble_eq_true rfl) (by decide) (by decide) (by decide) (by decide) ?_
          refine aw_aload_n rfl rfl ?_
          refine aw_iload_n rfl rfl ?_
          refine aw_iload_n rfl rfl ?_
          refine aw_iload_n rfl rfl ?_
          refine aw_iload rfl rfl ?_
          refine aw_iload rfl rfl ?_
          refine aw_iconst (v := 1) rfl (by decide) ?_
          refine aw_iV (q0 := 39) (ci := 12) rfl cw_X12_461 rfl rfl rfl (c_m_gameOf (by omega) (by omega) (by omega)) rfl rfl (Nat.le_of_ble_eq_true rfl) (by decide) (by decide) (by decide) (by decide) ?_
          refine aw_icmp_le (tgt := 105) rfl (by decide) (fun h99 => ?_) (fun h99 => ?_)
          · refine aw_iload rfl rfl ?_
            refine aw_iload rfl rfl ?_
            refine aw_icmp_ne (tgt := 121) rfl (by decide) (fun h109 => ?_) (fun h109 => ?_)
            · refine aw_inc1 rfl rfl (by decide) ?_
              refine aw_inc1 rfl rfl (by decide) ?_
              refine aw_goto (tgt := 38) rfl (by decide) ?_
              refine aw_iload rfl rfl ?_
              refine aw_iconst (v := 2) rfl (by decide) ?_
              refine aw_icmp_ge (tgt := 130) rfl (by decide) (fun h41 => ?_) (fun h41 => absurd h41 (by decide))
              refine aw_inc1 rfl rfl (by decide) ?_
              refine aw_goto (tgt := 29) rfl (by decide) ?_
              refine aw_iload rfl rfl ?_
              refine aw_iconst (v := 2) rfl (by decide) ?_
              refine aw_icmp_ge (tgt := 136) rfl (by decide) (fun h32 => ?_) (fun h32 => absurd h32 (by decide))
              refine aw_iload rfl rfl ?_
              refine aw_iconst (v := -1) rfl (by decide) ?_
              refine aw_icmp_ne (tgt := 147) rfl (by decide) (fun h139 => ?_) (fun h139 => ?_)
              · refine aw_iconst (v := -1) rfl (by decide) ?_
                first
                | exact aw_fi rfl rfl (by rw [if_neg (by unfold rsP; rw [decide_eq_false (Int32.not_le.mpr h70)]; exact Bool.false_ne_true)] at hX; rw [if_pos h139] at hX; exact hX) rfl
                | exact aw_fi rfl rfl (by rw [if_neg (by unfold rsP; rw [decide_eq_false (Int32.not_le.mpr h70)]; exact Bool.false_ne_true)] at hX; rw [if_neg h139] at hX; exact hX) rfl
                | exact aw_fi rfl rfl (by rw [if_neg (by unfold rsP; rw [decide_eq_false (show ¬ gmO S j p q 1 (1 - 1) 1 ≤ gmO S j p q 1 1 1 from h99), Bool.and_false]; exact Bool.false_ne_true)] at hX; rw [if_pos h139] at hX; exact hX) rfl
                | exact aw_fi rfl rfl (by rw [if_neg (by unfold rsP; rw [decide_eq_false (show ¬ gmO S j p q 1 (1 - 1) 1 ≤ gmO S j p q 1 1 1 from h99), Bool.and_false]; exact Bool.false_ne_true)] at hX; rw [if_neg h139] at hX; exact hX) rfl
                | exact aw_fi rfl rfl (by rw [if_pos (by unfold rsP; rw [decide_eq_true (Int32.not_lt.mp h70), decide_eq_true h99]; rfl)] at hX; rw [if_neg h109] at hX; rw [if_pos h139] at hX; exact hX) rfl
                | exact aw_fi rfl rfl (by rw [if_pos (by unfold rsP; rw [decide_eq_true (Int32.not_lt.mp h70), decide_eq_true h99]; rfl)] at hX; rw [if_neg h109] at hX; rw [if_neg h139] at hX; exact hX) rfl
                | fail "x"
              · refine aw_iload rfl rfl ?_
                refine aw_goto (tgt := 148) rfl (by decide) ?_
                first
                | exact aw_fi rfl rfl (by rw [if_neg (by unfold rsP; rw [decide_eq_false (Int32.not_le.mpr h70)]; exact Bool.false_ne_true)] at hX; rw [if_pos h139] at hX; exact hX) rfl
                | exact aw_fi rfl rfl (by rw [if_neg (by unfold rsP; rw [decide_eq_false (Int32.not_le.mpr h70)]; exact Bool.false_ne_true)] at hX; rw [if_neg h139] at hX; exact hX) rfl
                | exact aw_fi rfl rfl (by rw [if_neg (by unfold rsP; rw [decide_eq_false (show ¬ gmO S j p q 1 (1 - 1) 1 ≤ gmO S j p q 1 1 1 from h99), Bool.and_false]; exact Bool.false_ne_true)] at hX; rw [if_pos h139] at hX; exact hX) rfl
                | exact aw_fi rfl rfl (by rw [if_neg (by unfold rsP; rw [decide_eq_false (show ¬ gmO S j p q 1 (1 - 1) 1 ≤ gmO S j p q 1 1 1 from h99), Bool.and_false]; exact Bool.false_ne_true)] at hX; rw [if_neg h139] at hX; exact hX) rfl
                | exact aw_fi rfl rfl (by rw [if_pos (by unfold rsP; rw [decide_eq_true (Int32.not_lt.mp h70), decide_eq_true h99]; rfl)] at hX; rw [if_neg h109] at hX; rw [if_pos h139] at hX; exact hX) rfl
                | exact aw_fi rfl rfl (by rw [if_pos (by unfold rsP; rw [decide_eq_true (Int32.not_lt.mp h70), decide_eq_true h99]; rfl)] at hX; rw [if_neg h109] at hX; rw [if_neg h139] at hX; exact hX) rfl
                | fail "x"
            · refine aw_bipush (v := 10) rfl (by decide) ?_
              refine aw_iload rfl rfl ?_
              refine aw_imul rfl ?_
              refine aw_iload rfl rfl ?_
              refine aw_iadd rfl ?_
              exact aw_fi rfl rfl (by rw [if_pos (by unfold rsP; rw [decide_eq_true (Int32.not_lt.mp h70), decide_eq_true h99]; rfl)] at hX; rw [if_pos h109] at hX; exact hX) rfl
          · refine aw_goto (tgt := 124) rfl (by decide) ?_
            refine aw_inc1 rfl rfl (by decide) ?_
            refine aw_goto (tgt := 38) rfl (by decide) ?_
            refine aw_iload rfl rfl ?_
            refine aw_iconst (v := 2) rfl (by decide) ?_
            refine aw_icmp_ge (tgt := 130) rfl (by decide) (fun h41 => ?_) (fun h41 => absurd h41 (by decide))
            refine aw_inc1 rfl rfl (by decide) ?_
            refine aw_goto (tgt := 29) rfl (by decide) ?_
            refine aw_iload rfl rfl ?_
            refine aw_iconst (v := 2) rfl (by decide) ?_
            refine aw_icmp_ge (tgt := 136) rfl (by decide) (fun h32 => ?_) (fun h32 => absurd h32 (by decide))
            refine aw_iload rfl rfl ?_
            refine aw_iconst (v := -1) rfl (by decide) ?_
            refine aw_icmp_ne (tgt := 147) rfl (by decide) (fun h139 => ?_) (fun h139 => ?_)
            · refine aw_iconst (v := -1) rfl (by decide) ?_
              first
              | exact aw_fi rfl rfl (by rw [if_neg (by unfold rsP; rw [decide_eq_false (Int32.not_le.mpr h70)]; exact Bool.false_ne_true)] at hX; rw [if_pos h139] at hX; exact hX) rfl
              | exact aw_fi rfl rfl (by rw [if_neg (by unfold rsP; rw [decide_eq_false (Int32.not_le.mpr h70)]; exact Bool.false_ne_true)] at hX; rw [if_neg h139] at hX; exact hX) rfl
              | exact aw_fi rfl rfl (by rw [if_neg (by unfold rsP; rw [decide_eq_false (show ¬ gmO S j p q 1 (1 - 1) 1 ≤ gmO S j p q 1 1 1 from h99), Bool.and_false]; exact Bool.false_ne_true)] at hX; rw [if_pos h139] at hX; exact hX) rfl
              | exact aw_fi rfl rfl (by rw [if_neg (by unfold rsP; rw [decide_eq_false (show ¬ gmO S j p q 1 (1 - 1) 1 ≤ gmO S j p q 1 1 1 from h99), Bool.and_false]; exact Bool.false_ne_true)] at hX; rw [if_neg h139] at hX; exact hX) rfl
              | exact aw_fi rfl rfl (by rw [if_pos (by unfold rsP; rw [decide_eq_true (Int32.not_lt.mp h70), decide_eq_true h99]; rfl)] at hX; rw [if_neg h109] at hX; rw [if_pos h139] at hX; exact hX) rfl
              | exact aw_fi rfl rfl (by rw [if_pos (by unfold rsP; rw [decide_eq_true (Int32.not_lt.mp h70), decide_eq_true h99]; rfl)] at hX; rw [if_neg h109] at hX; rw [if_neg h139] at hX; exact hX) rfl
              | fail "x"
            · refine aw_iload rfl rfl ?_
              refine aw_goto (tgt := 148) rfl (by decide) ?_
              first
              | exact aw_fi rfl rfl (by rw [if_neg (by unfold rsP; rw [decide_eq_false (Int32.not_le.mpr h70)]; exact Bool.false_ne_true)] at hX; rw [if_pos h139] at hX; exact hX) rfl
              | exact aw_fi rfl rfl (by rw [if_neg (by unfold rsP; rw [decide_eq_false (Int32.not_le.mpr h70)]; exact Bool.false_ne_true)] at hX; rw [if_neg h139] at hX; exact hX) rfl
              | exact aw_fi rfl rfl (by rw [if_neg (by unfold rsP; rw [decide_eq_false (show ¬ gmO S j p q 1 (1 - 1) 1 ≤ gmO S j p q 1 1 1 from h99), Bool.and_false]; exact Bool.false_ne_true)] at hX; rw [if_pos h139] at hX; exact hX) rfl
              | exact aw_fi rfl rfl (by rw [if_neg (by unfold rsP; rw [decide_eq_false (show ¬ gmO S j p q 1 (1 - 1) 1 ≤ gmO S j p q 1 1 1 from h99), Bool.and_false]; exact Bool.false_ne_true)] at hX; rw [if_neg h139] at hX; exact hX) rfl
              | exact aw_fi rfl rfl (by rw [if_pos (by unfold rsP; rw [decide_eq_true (Int32.not_lt.mp h70), decide_eq_true h99]; rfl)] at hX; rw [if_neg h109] at hX; rw [if_pos h139] at hX; exact hX) rfl
              | exact aw_fi rfl rfl (by rw [if_pos (by unfold rsP; rw [decide_eq_true (Int32.not_lt.mp h70), decide_eq_true h99]; rfl)] at hX; rw [if_neg h109] at hX; rw [if_neg h139] at hX; exact hX) rfl
              | fail "x"
      have st2 : ∀ m : Int32, rsL S j p q i [(1, 0), (1, 1)] m = X → aw_W l g mi_X12_rests (aw_rm 3 0 0) (aw_Z g (fun r w => r = some (.int X) ∧ w = hp g S n) 0 0) 0 0 (hp g S n) 38 [some (.ref (g_ad g 39)), some (.int (nI p)), some (.int (nI q)), some (.int (nI j)), some (.int i), some (.int m), some (.int 1), some (.int 0)] [] := by
        intro m hX
        simp only [rsL] at hX
        refine aw_iload rfl rfl ?_
        refine aw_iconst (v := 2) rfl (by decide) ?_
        refine aw_icmp_ge (tgt := 130) rfl (by decide) (fun h41 => absurd h41 (by decide)) (fun h41 => ?_)
        refine aw_aload_n rfl rfl ?_
        refine aw_iload_n rfl rfl ?_
        refine aw_iload_n rfl rfl ?_
        refine aw_iload_n rfl rfl ?_
        refine aw_iconst (v := 1) rfl (by decide) ?_
        refine aw_iload rfl rfl ?_
        refine aw_isub rfl ?_
        refine aw_iload rfl rfl ?_
        refine aw_iconst (v := 0) rfl (by decide) ?_
        refine aw_iV (q0 := 39) (ci := 12) rfl cw_X12_461 rfl rfl rfl (c_m_gameOf (by omega) (by omega) (by omega)) rfl rfl (Nat.le_of_ble_eq_true rfl) (by decide) (by decide) (by decide) (by decide) ?_
        refine aw_aload_n rfl rfl ?_
        refine aw_iload_n rfl rfl ?_
        refine aw_iload_n rfl rfl ?_
        refine aw_iload_n rfl rfl ?_
        refine aw_iload rfl rfl ?_
        refine aw_iload rfl rfl ?_
        refine aw_iconst (v := 0) rfl (by decide) ?_
        refine aw_iV (q0 := 39) (ci := 12) rfl cw_X12_461 rfl rfl rfl (c_m_gameOf (by omega) (by omega) (by omega)) rfl rfl (Nat.le_of_ble_eq_true rfl) (by decide) (by decide) (by decide) (by decide) ?_
        refine aw_icmp_gt (tgt := 124) rfl (by decide) (fun h70 => ?_) (fun h70 => ?_)
        · refine aw_inc1 rfl rfl (by decide) ?_
          refine aw_goto (tgt := 38) rfl (by decide) ?_
          first
          | exact aw_wk (st3 _ (by rw [if_neg (by unfold rsP; rw [decide_eq_false (Int32.not_le.mpr h70)]; exact Bool.false_ne_true)] at hX; exact hX)) (And.intro rfl (And.intro rfl (And.intro rfl (And.intro rfl (And.intro rfl (And.intro rfl (And.intro rfl (And.intro rfl True.intro))))))))
          | exact aw_wk (st3 _ (by rw [if_neg (by unfold rsP; rw [decide_eq_false (show ¬ gmO S j p q 1 (1 - 0) 1 ≤ gmO S j p q 1 0 1 from h99), Bool.and_false]; exact Bool.false_ne_true)] at hX; exact hX)) (And.intro rfl (And.intro rfl (And.intro rfl (And.intro rfl (And.intro rfl (And.intro rfl (And.intro rfl (And.intro rfl True.intro))))))))
          | exact aw_wk (st3 _ (by rw [if_pos (by unfold rsP; rw [decide_eq_true (Int32.not_lt.mp h70), decide_eq_true h99]; rfl)] at hX; rw [if_neg h109] at hX; exact hX)) (And.intro rfl (And.intro rfl (And.intro rfl (And.intro rfl (And.intro rfl (And.intro rfl (And.intro rfl (And.intro rfl True.intro))))))))
          | fail "x"
        · refine aw_aload_n rfl rfl ?_
          refine aw_iload_n rfl rfl ?_
          refine aw_iload_n rfl rfl ?_
          refine aw_iload_n rfl rfl ?_
          refine aw_iload rfl rfl ?_
          refine aw_iconst (v := 1) rfl (by decide) ?_
          refine aw_iload rfl rfl ?_
          refine aw_isub rfl ?_
          refine aw_iconst (v := 1) rfl (by decide) ?_
          refine aw_iV (q0 := 39) (ci := 12) rfl cw_X12_461 rfl rfl rfl (c_m_gameOf (by omega) (by omega) (by omega)) rfl rfl (Nat.le_of_ble_eq_true rfl) (by decide) (by decide) (by decide) (by decide) ?_
          refine aw_aload_n rfl rfl ?_
          refine aw_iload_n rfl rfl ?_
          refine aw_iload_n rfl rfl ?_
          refine aw_iload_n rfl rfl ?_
          refine aw_iload rfl rfl ?_
          refine aw_iload rfl rfl ?_
          refine aw_iconst (v := 1) rfl (by decide) ?_
          refine aw_iV (q0 := 39) (ci := 12) rfl cw_X12_461 rfl rfl rfl (c_m_gameOf (by omega) (by omega) (by omega)) rfl rfl (Nat.le_of_ble_eq_true rfl) (by decide) (by decide) (by decide) (by decide) ?_
          refine aw_icmp_le (tgt := 105) rfl (by decide) (fun h99 => ?_) (fun h99 => ?_)
          · refine aw_iload rfl rfl ?_
            refine aw_iload rfl rfl ?_
            refine aw_icmp_ne (tgt := 121) rfl (by decide) (fun h109 => ?_) (fun h109 => ?_)
            · refine aw_inc1 rfl rfl (by decide) ?_
              refine aw_inc1 rfl rfl (by decide) ?_
              refine aw_goto (tgt := 38) rfl (by decide) ?_
              first
              | exact aw_wk (st3 _ (by rw [if_neg (by unfold rsP; rw [decide_eq_false (Int32.not_le.mpr h70)]; exact Bool.false_ne_true)] at hX; exact hX)) (And.intro rfl (And.intro rfl (And.intro rfl (And.intro rfl (And.intro rfl (And.intro rfl (And.intro rfl (And.intro rfl True.intro))))))))
              | exact aw_wk (st3 _ (by rw [if_neg (by unfold rsP; rw [decide_eq_false (show ¬ gmO S j p q 1 (1 - 0) 1 ≤ gmO S j p q 1 0 1 from h99), Bool.and_false]; exact Bool.false_ne_true)] at hX; exact hX)) (And.intro rfl (And.intro rfl (And.intro rfl (And.intro rfl (And.intro rfl (And.intro rfl (And.intro rfl (And.intro rfl True.intro))))))))
              | exact aw_wk (st3 _ (by rw [if_pos (by unfold rsP; rw [decide_eq_true (Int32.not_lt.mp h70), decide_eq_true h99]; rfl)] at hX; rw [if_neg h109] at hX; exact hX)) (And.intro rfl (And.intro rfl (And.intro rfl (And.intro rfl (And.intro rfl (And.intro rfl (And.intro rfl (And.intro rfl True.intro))))))))
              | fail "x"
            · refine aw_bipush (v := 10) rfl (by decide) ?_
              refine aw_iload rfl rfl ?_
              refine aw_imul rfl ?_
              refine aw_iload rfl rfl ?_
              refine aw_iadd rfl ?_
              exact aw_fi rfl rfl (by rw [if_pos (by unfold rsP; rw [decide_eq_true (Int32.not_lt.mp h70), decide_eq_true h99]; rfl)] at hX; rw [if_pos h109] at hX; exact hX) rfl
          · refine aw_goto (tgt := 124) rfl (by decide) ?_
            refine aw_inc1 rfl rfl (by decide) ?_
            refine aw_goto (tgt := 38) rfl (by decide) ?_
            first
            | exact aw_wk (st3 _ (by rw [if_neg (by unfold rsP; rw [decide_eq_false (Int32.not_le.mpr h70)]; exact Bool.false_ne_true)] at hX; exact hX)) (And.intro rfl (And.intro rfl (And.intro rfl (And.intro rfl (And.intro rfl (And.intro rfl (And.intro rfl (And.intro rfl True.intro))))))))
            | exact aw_wk (st3 _ (by rw [if_neg (by unfold rsP; rw [decide_eq_false (show ¬ gmO S j p q 1 (1 - 0) 1 ≤ gmO S j p q 1 0 1 from h99), Bool.and_false]; exact Bool.false_ne_true)] at hX; exact hX)) (And.intro rfl (And.intro rfl (And.intro rfl (And.intro rfl (And.intro rfl (And.intro rfl (And.intro rfl (And.intro rfl True.intro))))))))
            | exact aw_wk (st3 _ (by rw [if_pos (by unfold rsP; rw [decide_eq_true (Int32.not_lt.mp h70), decide_eq_true h99]; rfl)] at hX; rw [if_neg h109] at hX; exact hX)) (And.intro rfl (And.intro rfl (And.intro rfl (And.intro rfl (And.intro rfl (And.intro rfl (And.intro rfl (And.intro rfl True.intro))))))))
            | fail "x"
      have st1 : ∀ m : Int32, rsL S j p q i [(0, 1), (1, 0), (1, 1)] m = X → aw_W l g mi_X12_rests (aw_rm 3 0 0) (aw_Z g (fun r w => r = some (.int X) ∧ w = hp g S n) 0 0) 0 0 (hp g S n) 38 [some (.ref (g_ad g 39)), some (.int (nI p)), some (.int (nI q)), some (.int (nI j)), some (.int i), some (.int m), some (.int 0), some (.int 1)] [] := by
        intro m hX
        simp only [rsL] at hX
        refine aw_iload rfl rfl ?_
        refine aw_iconst (v := 2) rfl (by decide) ?_
        refine aw_icmp_ge (tgt := 130) rfl (by decide) (fun h41 => absurd h41 (by decide)) (fun h41 => ?_)
        refine aw_aload_n rfl rfl ?_
        refine aw_iload_n rfl rfl ?_
        refine aw_iload_n rfl rfl ?_
        refine aw_iload_n rfl rfl ?_
        refine aw_iconst (v := 1) rfl (by decide) ?_
        refine aw_iload rfl rfl ?_
        refine aw_isub rfl ?_
        refine aw_iload rfl rfl ?_
        refine aw_iconst (v := 0) rfl (by decide) ?_
        refine aw_iV (q0 := 39) (ci := 12) rfl cw_X12_461 rfl rfl rfl (c_m_gameOf (by omega) (by omega) (by omega)) rfl rfl (Nat.le_of_ble_eq_true rfl) (by decide) (by decide) (by decide) (by decide) ?_
        refine aw_aload_n rfl rfl ?_
        refine aw_iload_n rfl rfl ?_
        refine aw_iload_n rfl rfl ?_
        refine aw_iload_n rfl rfl ?_
        refine aw_iload rfl rfl ?_
        refine aw_iload rfl rfl ?_
        refine aw_iconst (v := 0) rfl (by decide) ?_
        refine aw_iV (q0 := 39) (ci := 12) rfl cw_X12_461 rfl rfl rfl (c_m_gameOf (by omega) (by omega) (by omega)) rfl rfl (Nat.le_of_ble_eq_true rfl) (by decide) (by decide) (by decide) (by decide) ?_
        refine aw_icmp_gt (tgt := 124) rfl (by decide) (fun h70 => ?_) (fun h70 => ?_)
        · refine aw_inc1 rfl rfl (by decide) ?_
          refine aw_goto (tgt := 38) rfl (by decide) ?_
          refine aw_iload rfl rfl ?_
          refine aw_iconst (v := 2) rfl (by decide) ?_
          refine aw_icmp_ge (tgt := 130) rfl (by decide) (fun h41 => ?_) (fun h41 => absurd h41 (by decide))
          refine aw_inc1 rfl rfl (by decide) ?_
          refine aw_goto (tgt := 29) rfl (by decide) ?_
          refine aw_iload rfl rfl ?_
          refine aw_iconst (v := 2) rfl (by decide) ?_
          refine aw_icmp_ge (tgt := 136) rfl (by decide) (fun h32 => absurd h32 (by decide)) (fun h32 => ?_)
          refine aw_iconst (v := 0) rfl (by decide) ?_
          refine aw_istore rfl (by decide) ?_
          first
          | exact aw_wk (st2 _ (by rw [if_neg (by unfold rsP; rw [decide_eq_false (Int32.not_le.mpr h70)]; exact Bool.false_ne_true)] at hX; exact hX)) (And.intro rfl (And.intro rfl (And.intro rfl (And.intro rfl (And.intro rfl (And.intro rfl (And.intro rfl (And.intro rfl True.intro))))))))
          | exact aw_wk (st2 _ (by rw [if_neg (by unfold rsP; rw [decide_eq_false (show ¬ gmO S j p q 0 (1 - 1) 1 ≤ gmO S j p q 0 1 1 from h99), Bool.and_false]; exact Bool.false_ne_true)] at hX; exact hX)) (And.intro rfl (And.intro rfl (And.intro rfl (And.intro rfl (And.intro rfl (And.intro rfl (And.intro rfl (And.intro rfl True.intro))))))))
          | exact aw_wk (st2 _ (by rw [if_pos (by unfold rsP; rw [decide_eq_true (Int32.not_lt.mp h70), decide_eq_true h99]; rfl)] at hX; rw [if_neg h109] at hX; exact hX)) (And.intro rfl (And.intro rfl (And.intro rfl (And.intro rfl (And.intro rfl (And.intro rfl (And.intro rfl (And.intro rfl True.intro))))))))
          | fail "x"
        · refine aw_aload_n rfl rfl ?_
          refine aw_iload_n rfl rfl ?_
          refine aw_iload_n rfl rfl ?_
          refine aw_iload_n rfl rfl ?_
          refine aw_iload rfl rfl ?_
          refine aw_iconst (v := 1) rfl (by decide) ?_
          refine aw_iload rfl rfl ?_
          refine aw_isub rfl ?_
          refine aw_iconst (v := 1) rfl (by decide) ?_
          refine aw_iV (q0 := 39) (ci := 12) rfl cw_X12_461 rfl rfl rfl (c_m_gameOf (by omega) (by omega) (by omega)) rfl rfl (Nat.le_of_ble_eq_true rfl) (by decide) (by decide) (by decide) (by decide) ?_
          refine aw_aload_n rfl rfl ?_
          refine aw_iload_n rfl rfl ?_
          refine aw_iload_n rfl rfl ?_
          refine aw_iload_n rfl rfl ?_
          refine aw_iload rfl rfl ?_
          refine aw_iload rfl rfl ?_
          refine aw_iconst (v := 1) rfl (by decide) ?_
          refine aw_iV (q0 := 39) (ci := 12) rfl cw_X12_461 rfl rfl rfl (c_m_gameOf (by omega) (by omega) (by omega)) rfl rfl (Nat.le_of_ble_eq_true rfl) (by decide) (by decide) (by decide) (by decide) ?_
          refine aw_icmp_le (tgt := 105) rfl (by decide) (fun h99 => ?_) (fun h99 => ?_)
          · refine aw_iload rfl rfl ?_
            refine aw_iload rfl rfl ?_
            refine aw_icmp_ne (tgt := 121) rfl (by decide) (fun h109 => ?_) (fun h109 => ?_)
            · refine aw_inc1 rfl rfl (by decide) ?_
              refine aw_inc1 rfl rfl (by decide) ?_
              refine aw_goto (tgt := 38) rfl (by decide) ?_
              refine aw_iload rfl rfl ?_
              refine aw_iconst (v := 2) rfl (by decide) ?_
              refine aw_icmp_ge (tgt := 130) rfl (by decide) (fun h41 => ?_) (fun h41 => absurd h41 (by decide))
              refine aw_inc1 rfl rfl (by decide) ?_
              refine aw_goto (tgt := 29) rfl (by decide) ?_
              refine aw_iload rfl rfl ?_
              refine aw_iconst (v := 2) rfl (by decide) ?_
              refine aw_icmp_ge (tgt := 136) rfl (by decide) (fun h32 => absurd h32 (by decide)) (fun h32 => ?_)
              refine aw_iconst (v := 0) rfl (by decide) ?_
              refine aw_istore rfl (by decide) ?_
              first
              | exact aw_wk (st2 _ (by rw [if_neg (by unfold rsP; rw [decide_eq_false (Int32.not_le.mpr h70)]; exact Bool.false_ne_true)] at hX; exact hX)) (And.intro rfl (And.intro rfl (And.intro rfl (And.intro rfl (And.intro rfl (And.intro rfl (And.intro rfl (And.intro rfl True.intro))))))))
              | exact aw_wk (st2 _ (by rw [if_neg (by unfold rsP; rw [decide_eq_false (show ¬ gmO S j p q 0 (1 - 1) 1 ≤ gmO S j p q 0 1 1 from h99), Bool.and_false]; exact Bool.false_ne_true)] at hX; exact hX)) (And.intro rfl (And.intro rfl (And.intro rfl (And.intro rfl (And.intro rfl (And.intro rfl (And.intro rfl (And.intro rfl True.intro))))))))
              | exact aw_wk (st2 _ (by rw [if_pos (by unfold rsP; rw [decide_eq_true (Int32.not_lt.mp h70), decide_eq_true h99]; rfl)] at hX; rw [if_neg h109] at hX; exact hX)) (And.intro rfl (And.intro rfl (And.intro rfl (And.intro rfl (And.intro rfl (And.intro rfl (And.intro rfl (And.intro rfl True.intro))))))))
              | fail "x"
            · refine aw_bipush (v := 10) rfl (by decide) ?_
              refine aw_iload rfl rfl ?_
              refine aw_imul rfl ?_
              refine aw_iload rfl rfl ?_
              refine aw_iadd rfl ?_
              exact aw_fi rfl rfl (by rw [if_pos (by unfold rsP; rw [decide_eq_true (Int32.not_lt.mp h70), decide_eq_true h99]; rfl)] at hX; rw [if_pos h109] at hX; exact hX) rfl
          · refine aw_goto (tgt := 124) rfl (by decide) ?_
            refine aw_inc1 rfl rfl (by decide) ?_
            refine aw_goto (tgt := 38) rfl (by decide) ?_
            refine aw_iload rfl rfl ?_
            refine aw_iconst (v := 2) rfl (by decide) ?_
            refine aw_icmp_ge (tgt := 130) rfl (by decide) (fun h41 => ?_) (fun h41 => absurd h41 (by decide))
            refine aw_inc1 rfl rfl (by decide) ?_
            refine aw_goto (tgt := 29) rfl (by decide) ?_
            refine aw_iload rfl rfl ?_
            refine aw_iconst (v := 2) rfl (by decide) ?_
            refine aw_icmp_ge (tgt := 136) rfl (by decide) (fun h32 => absurd h32 (by decide)) (fun h32 => ?_)
            refine aw_iconst (v := 0) rfl (by decide) ?_
            refine aw_istore rfl (by decide) ?_
            first
            | exact aw_wk (st2 _ (by rw [if_neg (by unfold rsP; rw [decide_eq_false (Int32.not_le.mpr h70)]; exact Bool.false_ne_true)] at hX; exact hX)) (And.intro rfl (And.intro rfl (And.intro rfl (And.intro rfl (And.intro rfl (And.intro rfl (And.intro rfl (And.intro rfl True.intro))))))))
            | exact aw_wk (st2 _ (by rw [if_neg (by unfold rsP; rw [decide_eq_false (show ¬ gmO S j p q 0 (1 - 1) 1 ≤ gmO S j p q 0 1 1 from h99), Bool.and_false]; exact Bool.false_ne_true)] at hX; exact hX)) (And.intro rfl (And.intro rfl (And.intro rfl (And.intro rfl (And.intro rfl (And.intro rfl (And.intro rfl (And.intro rfl True.intro))))))))
            | exact aw_wk (st2 _ (by rw [if_pos (by unfold rsP; rw [decide_eq_true (Int32.not_lt.mp h70), decide_eq_true h99]; rfl)] at hX; rw [if_neg h109] at hX; exact hX)) (And.intro rfl (And.intro rfl (And.intro rfl (And.intro rfl (And.intro rfl (And.intro rfl (And.intro rfl (And.intro rfl True.intro))))))))
            | fail "x"
      have st0 : ∀ m : Int32, rsL S j p q i [(0, 0), (0, 1), (1, 0), (1, 1)] m = X → aw_W l g mi_X12_rests (aw_rm 3 0 0) (aw_Z g (fun r w => r = some (.int X) ∧ w = hp g S n) 0 0) 0 0 (hp g S n) 38 [some (.ref (g_ad g 39)), some (.int (nI p)), some (.int (nI q)), some (.int (nI j)), some (.int i), some (.int m), some (.int 0), some (.int 0)] [] := by
        intro m hX
        simp only [rsL] at hX
        refine aw_iload rfl rfl ?_
        refine aw_iconst (v := 2) rfl (by decide) ?_
        refine aw_icmp_ge (tgt := 130) rfl (by decide) (fun h41 => absurd h41 (by decide)) (fun h41 => ?_)
        refine aw_aload_n rfl rfl ?_
        refine aw_iload_n rfl rfl ?_
        refine aw_iload_n rfl rfl ?_
        refine aw_iload_n rfl rfl ?_
        refine aw_iconst (v := 1) rfl (by decide) ?_
        refine aw_iload rfl rfl ?_
        refine aw_isub rfl ?_
        refine aw_iload rfl rfl ?_
        refine aw_iconst (v := 0) rfl (by decide) ?_
        refine aw_iV (q0 := 39) (ci := 12) rfl cw_X12_461 rfl rfl rfl (c_m_gameOf (by omega) (by omega) (by omega)) rfl rfl (Nat.le_of_ble_eq_true rfl) (by decide) (by decide) (by decide) (by decide) ?_
        refine aw_aload_n rfl rfl ?_
        refine aw_iload_n rfl rfl ?_
        refine aw_iload_n rfl rfl ?_
        refine aw_iload_n rfl rfl ?_
        refine aw_iload rfl rfl ?_
        refine aw_iload rfl rfl ?_
        refine aw_iconst (v := 0) rfl (by decide) ?_
        refine aw_iV (q0 := 39) (ci := 12) rfl cw_X12_461 rfl rfl rfl (c_m_gameOf (by omega) (by omega) (by omega)) rfl rfl (Nat.le_of_ble_eq_true rfl) (by decide) (by decide) (by decide) (by decide) ?_
        refine aw_icmp_gt (tgt := 124) rfl (by decide) (fun h70 => ?_) (fun h70 => ?_)
        · refine aw_inc1 rfl rfl (by decide) ?_
          refine aw_goto (tgt := 38) rfl (by decide) ?_
          first
          | exact aw_wk (st1 _ (by rw [if_neg (by unfold rsP; rw [decide_eq_false (Int32.not_le.mpr h70)]; exact Bool.false_ne_true)] at hX; exact hX)) (And.intro rfl (And.intro rfl (And.intro rfl (And.intro rfl (And.intro rfl (And.intro rfl (And.intro rfl (And.intro rfl True.intro))))))))
          | exact aw_wk (st1 _ (by rw [if_neg (by unfold rsP; rw [decide_eq_false (show ¬ gmO S j p q 0 (1 - 0) 1 ≤ gmO S j p q 0 0 1 from h99), Bool.and_false]; exact Bool.false_ne_true)] at hX; exact hX)) (And.intro rfl (And.intro rfl (And.intro rfl (And.intro rfl (And.intro rfl (And.intro rfl (And.intro rfl (And.intro rfl True.intro))))))))
          | exact aw_wk (st1 _ (by rw [if_pos (by unfold rsP; rw [decide_eq_true (Int32.not_lt.mp h70), decide_eq_true h99]; rfl)] at hX; rw [if_neg h109] at hX; exact hX)) (And.intro rfl (And.intro rfl (And.intro rfl (And.intro rfl (And.intro rfl (And.intro rfl (And.intro rfl (And.intro rfl True.intro))))))))
          | fail "x"
        · refine aw_aload_n rfl rfl ?_
          refine aw_iload_n rfl rfl ?_
          refine aw_iload_n rfl rfl ?_
          refine aw_iload_n rfl rfl ?_
          refine aw_iload rfl rfl ?_
          refine aw_iconst (v := 1) rfl (by decide) ?_
          refine aw_iload rfl rfl ?_
          refine aw_isub rfl ?_
          refine aw_iconst (v := 1) rfl (by decide) ?_
          refine aw_iV (q0 := 39) (ci := 12) rfl cw_X12_461 rfl rfl rfl (c_m_gameOf (by omega) (by omega) (by omega)) rfl rfl (Nat.le_of_ble_eq_true rfl) (by decide) (by decide) (by decide) (by decide) ?_
          refine aw_aload_n rfl rfl ?_
          refine aw_iload_n rfl rfl ?_
          refine aw_iload_n rfl rfl ?_
          refine aw_iload_n rfl rfl ?_
          refine aw_iload rfl rfl ?_
          refine aw_iload rfl rfl ?_
          refine aw_iconst (v := 1) rfl (by decide) ?_
          refine aw_iV (q0 := 39) (ci := 12) rfl cw_X12_461 rfl rfl rfl (c_m_gameOf (by omega) (by omega) (by omega)) rfl rfl (Nat.le_of_ble_eq_true rfl) (by decide) (by decide) (by decide) (by decide) ?_
          refine aw_icmp_le (tgt := 105) rfl (by decide) (fun h99 => ?_) (fun h99 => ?_)
          · refine aw_iload rfl rfl ?_
            refine aw_iload rfl rfl ?_
            refine aw_icmp_ne (tgt := 121) rfl (by decide) (fun h109 => ?_) (fun h109 => ?_)
            · refine aw_inc1 rfl rfl (by decide) ?_
              refine aw_inc1 rfl rfl (by decide) ?_
              refine aw_goto (tgt := 38) rfl (by decide) ?_
              first
              | exact aw_wk (st1 _ (by rw [if_neg (by unfold rsP; rw [decide_eq_false (Int32.not_le.mpr h70)]; exact Bool.false_ne_true)] at hX; exact hX)) (And.intro rfl (And.intro rfl (And.intro rfl (And.intro rfl (And.intro rfl (And.intro rfl (And.intro rfl (And.intro rfl True.intro))))))))
              | exact aw_wk (st1 _ (by rw [if_neg (by unfold rsP; rw [decide_eq_false (show ¬ gmO S j p q 0 (1 - 0) 1 ≤ gmO S j p q 0 0 1 from h99), Bool.and_false]; exact Bool.false_ne_true)] at hX; exact hX)) (And.intro rfl (And.intro rfl (And.intro rfl (And.intro rfl (And.intro rfl (And.intro rfl (And.intro rfl (And.intro rfl True.intro))))))))
              | exact aw_wk (st1 _ (by rw [if_pos (by unfold rsP; rw [decide_eq_true (Int32.not_lt.mp h70), decide_eq_true h99]; rfl)] at hX; rw [if_neg h109] at hX; exact hX)) (And.intro rfl (And.intro rfl (And.intro rfl (And.intro rfl (And.intro rfl (And.intro rfl (And.intro rfl (And.intro rfl True.intro))))))))
              | fail "x"
            · refine aw_bipush (v := 10) rfl (by decide) ?_
              refine aw_iload rfl rfl ?_
              refine aw_imul rfl ?_
              refine aw_iload rfl rfl ?_
              refine aw_iadd rfl ?_
              exact aw_fi rfl rfl (by rw [if_pos (by unfold rsP; rw [decide_eq_true (Int32.not_lt.mp h70), decide_eq_true h99]; rfl)] at hX; rw [if_pos h109] at hX; exact hX) rfl
          · refine aw_goto (tgt := 124) rfl (by decide) ?_
            refine aw_inc1 rfl rfl (by decide) ?_
            refine aw_goto (tgt := 38) rfl (by decide) ?_
            first
            | exact aw_wk (st1 _ (by rw [if_neg (by unfold rsP; rw [decide_eq_false (Int32.not_le.mpr h70)]; exact Bool.false_ne_true)] at hX; exact hX)) (And.intro rfl (And.intro rfl (And.intro rfl (And.intro rfl (And.intro rfl (And.intro rfl (And.intro rfl (And.intro rfl True.intro))))))))
            | exact aw_wk (st1 _ (by rw [if_neg (by unfold rsP; rw [decide_eq_false (show ¬ gmO S j p q 0 (1 - 0) 1 ≤ gmO S j p q 0 0 1 from h99), Bool.and_false]; exact Bool.false_ne_true)] at hX; exact hX)) (And.intro rfl (And.intro rfl (And.intro rfl (And.intro rfl (And.intro rfl (And.intro rfl (And.intro rfl (And.intro rfl True.intro))))))))
            | exact aw_wk (st1 _ (by rw [if_pos (by unfold rsP; rw [decide_eq_true (Int32.not_lt.mp h70), decide_eq_true h99]; rfl)] at hX; rw [if_neg h109] at hX; exact hX)) (And.intro rfl (And.intro rfl (And.intro rfl (And.intro rfl (And.intro rfl (And.intro rfl (And.intro rfl (And.intro rfl True.intro))))))))
            | fail "x"
      refine aw_iconst (v := 0) rfl (by decide) ?_
      refine aw_istore rfl (by decide) ?_
      refine aw_iconst (v := 0) rfl (by decide) ?_
      refine aw_istore rfl (by decide) ?_
      refine aw_iload rfl rfl ?_
      refine aw_iconst (v := 2) rfl (by decide) ?_
      refine aw_icmp_ge (tgt := 136) rfl (by decide) (fun h32 => absurd h32 (by decide)) (fun h32 => ?_)
      refine aw_iconst (v := 0) rfl (by decide) ?_
      refine aw_istore rfl (by decide) ?_
      exact aw_wk (st0 0 hXX.symm) (And.intro rfl (And.intro rfl (And.intro rfl (And.intro rfl (And.intro rfl (And.intro rfl (And.intro rfl (And.intro rfl True.intro))))))))
    · refine aw_iconst (v := -1) rfl (by decide) ?_
      refine aw_fi rfl rfl ?_ rfl
      unfold m_rests
      first
        | (rw [if_neg (by rw [bB_0.mp h12]; exact Bool.false_ne_true)]; done)
        | (rw [if_pos q0, if_neg h18]; done)
        | fail "x"
