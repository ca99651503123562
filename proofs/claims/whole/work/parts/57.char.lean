/-! String.charAt, isAmong, spotOf -/
section AwZq
variable {l : Launch} {g : ag_G} {M : ag_M} {R : Room} {Z : ag_Z} {cells slots : Nat} {ws ws2 : va_W} {pc : Nat} {L : List (Option Value)} {st : List Value}
theorem aw_xgetq {index : Nat} {C n d : String} (hd : m_at M pc = some (.getstatic index, 3)) (hr : ∀ U, g_X g U → va_Zq C n d (aw_A g) U U.heap) (hl : Cond.fieldLink (m_y M).cls index C n d ∈ aw_tbl) (k0 : aw_W l g M R Z cells slots ws (pc + 3) L (.null :: st)) (k1 : ∀ t : Nat, aw_W l g M R Z cells slots ws (pc + 3) L (.ref t :: st)) : aw_W l g M R Z cells slots ws pc L st := by
  intro p e s m args below meth c H locs ls hC hH hL
  rcases hr s hC.2.2.2.2.2.2.2.2.1 with h | ⟨t, h⟩
  · exact va_gets hC.1 hC.2.1 h hH.2.2 hC.2.2.2.1 (hC.2.2.2.2.1 _ hl) (fun _ h => h) (hC.2.2.2.2.2.2.2.2.2.2.2.1 _ _ _ hd) (k0 p e s m args below meth c H locs ls hC hH hL)
  · exact va_gets hC.1 hC.2.1 h hH.2.2 hC.2.2.2.1 (hC.2.2.2.2.1 _ hl) (fun _ h => h) (hC.2.2.2.2.2.2.2.2.2.2.2.1 _ _ _ hd) (k1 t p e s m args below meth c H locs ls hC hH hL)
end AwZq
def xch (i j : Nat) : Int32 := (xByt.getD i []).getD j 0
theorem xch_c : ∀ i, i < 11 → ∀ j, j < xLen.getD i 0 → ((xch i j &&& 255).toUInt32 % 65536).toInt32 = xch i j ∧ narrow .char (.int (xch i j)) = .int (xch i j) := by decide +kernel
set_option maxRecDepth 4000 in
theorem c_checkIndex0 {l : Launch} {g : ag_G} {ws : va_W} {j N : Nat} (hj : j < N) (hN : N < 2 ^ 31) : aw_F l g mi_J3_checkIndex_8e157 0 [.int (nI j), .int (nI N), .null] (ws) (.int (nI j)) (ws) := by
  refine aw_F_of mo_J3_checkIndex_8e157 (by decide) (Nat.le_of_ble_eq_true rfl) ?_
  refine aw_iload_n rfl rfl ?_
  refine aw_if_lt (tgt := 9) rfl (by decide) (fun h1 => absurd h1 (nI_pos (by omega))) (fun h1 => ?_)
  refine aw_iload_n rfl rfl ?_
  refine aw_iload_n rfl rfl ?_
  refine aw_icmp_lt (tgt := 16) rfl (by decide) (fun h6 => ?_) (fun h6 => absurd (nI_lt hj hN) h6)
  refine aw_iload_n rfl rfl ?_
  exact aw_fi rfl rfl rfl rfl
set_option maxRecDepth 4000 in
theorem c_checkIndex1 {l : Launch} {g : ag_G} {ws : va_W} {t : Nat} {j N : Nat} (hj : j < N) (hN : N < 2 ^ 31) : aw_F l g mi_J3_checkIndex_8e157 0 [.int (nI j), .int (nI N), .ref t] (ws) (.int (nI j)) (ws) := by
  refine aw_F_of mo_J3_checkIndex_8e157 (by decide) (Nat.le_of_ble_eq_true rfl) ?_
  refine aw_iload_n rfl rfl ?_
  refine aw_if_lt (tgt := 9) rfl (by decide) (fun h1 => absurd h1 (nI_pos (by omega))) (fun h1 => ?_)
  refine aw_iload_n rfl rfl ?_
  refine aw_iload_n rfl rfl ?_
  refine aw_icmp_lt (tgt := 16) rfl (by decide) (fun h6 => ?_) (fun h6 => absurd (nI_lt hj hN) h6)
  refine aw_iload_n rfl rfl ?_
  exact aw_fi rfl rfl rfl rfl
set_option maxRecDepth 4000 in
theorem c_checkIndexS {l : Launch} {g : ag_G} {ws : va_W} (hx : aw_hx g) {j N : Nat} (hj : j < N) (hN : N < 2 ^ 31) : aw_V l g mi_J0_checkIndex_df160 1 [.int (nI j), .int (nI N)] (ws) (ws) := by
  refine aw_V_of mo_J0_checkIndex_df160 (by decide) (Nat.le_of_ble_eq_true rfl) ?_
  refine aw_iload_n rfl rfl ?_
  refine aw_iload_n rfl rfl ?_
  refine aw_xgetq rfl (fun U hU => (hx U hU).2.2.1) kl_J0_1053 ?_ (fun t => ?_)
  all_goals first
  | refine aw_iS rfl cw_J0_1059 (c_checkIndex0 hj hN) rfl rfl (Nat.le_of_ble_eq_true rfl) (by decide) (by decide) (by decide) (by decide) ?_
  | refine aw_iS rfl cw_J0_1059 (c_checkIndex1 hj hN) rfl rfl (Nat.le_of_ble_eq_true rfl) (by decide) (by decide) (by decide) (by decide) ?_
  all_goals refine aw_pop rfl rfl ?_
  all_goals exact aw_fv rfl rfl rfl
set_option maxRecDepth 4000 in
theorem c_charAtL {l : Launch} {g : ag_G} {ws : va_W} {i j : Nat} (hx : aw_hx g) (hi : i < 11) (hj : j < xLen.getD i 0) : aw_F l g mi_J1_charAt_3b067 2 [.ref (g_ad g (112 + i)), .int (nI j)] (ws) (.int (xch i j)) (ws) := by
  have hl := xs_small i hi
  have hc := xch_c i hi j hj
  refine aw_F_of mo_J1_charAt_3b067 (by decide) (Nat.le_of_ble_eq_true rfl) ?_
  refine aw_iload_n rfl rfl ?_
  refine aw_aload_n rfl rfl ?_
  refine aw_xlen rfl (xs_bytes hx hi) rfl ?_
  refine aw_vS rfl cw_J1_9 (c_checkIndexS hx hj (by omega)) rfl rfl (Nat.le_of_ble_eq_true rfl) (by decide) (by decide) (by decide) (by decide) ?_
  refine aw_aload_n rfl rfl ?_
  refine aw_iload_n rfl rfl ?_
  refine aw_xtb rfl (xs_bytes hx hi) (j := j) rfl hj (by omega) rfl ?_
  refine aw_sipush (v := 255) rfl (by decide) ?_
  refine aw_iand rfl ?_
  refine aw_i2c rfl ?_
  exact aw_fb rfl rfl (by rw [show (((xByt.getD i []).getD j 0 &&& 255).toUInt32 % 65536).toInt32 = xch i j from hc.1]; exact hc.2) hc.1 rfl
set_option maxRecDepth 4000 in
theorem c_charAt {l : Launch} {g : ag_G} {ws : va_W} {i j : Nat} (hx : aw_hx g) (hi : i < 11) (hj : j < xLen.getD i 0) : aw_F l g mi_J0_charAt_5068e 3 [.ref (g_ad g (100 + i)), .int (nI j)] (ws) (.int (xch i j)) (ws) := by
  have hc := xch_c i hi j hj
  refine aw_F_of mo_J0_charAt_5068e (by decide) (Nat.le_of_ble_eq_true rfl) ?_
  refine aw_aload_n rfl rfl ?_
  refine aw_iX rfl cw_J0_492 (xs_recv hx hi) (c_isLatin1 hx hi) rfl rfl (Nat.le_of_ble_eq_true rfl) (by decide) (by decide) (by decide) (by decide) ?_
  refine aw_if_eq (tgt := 16) rfl (by decide) (fun h4 => absurd h4 (by decide)) (fun h4 => ?_)
  refine aw_aload_n rfl rfl ?_
  refine aw_xget rfl (xs_value hx hi) kl_J0_9 ?_
  refine aw_iload_n rfl rfl ?_
  refine aw_iS rfl cw_J0_495 (c_charAtL hx hi hj) rfl rfl (Nat.le_of_ble_eq_true rfl) (by decide) (by decide) (by decide) (by decide) ?_
  exact aw_fb rfl rfl hc.2 rfl rfl
def xsp (i : Nat) (c : Int32) : Option Nat := fs (fun j => decide (xch i j = c)) 0 (xLen.getD i 0)
set_option maxRecDepth 4000 in
theorem c_m_isAmong {l : Launch} {g : ag_G} {ws : va_W} {i : Nat} {c : Int32} (hx : aw_hx g) (hi : i < 11) : aw_F l g mi_X12_isAmong 4 [.ref (g_ad g (100 + i)), .int c] ws (.int (bB (xsp i c).isSome)) ws := by
  have hl := xs_small i hi
  unfold xsp
  generalize hXX : fs (fun j => decide (xch i j = c)) 0 (xLen.getD i 0) = X
  have loop : ∀ (d j : Nat), j + d = xLen.getD i 0 → fs (fun j => decide (xch i j = c)) j d = X → aw_W l g mi_X12_isAmong (aw_rm 4 0 0) (aw_Z g (fun r w => r = some (.int (bB X.isSome)) ∧ w = ws) 0 0) 0 0 ws 2 [some (.ref (g_ad g (100 + i))), some (.int c), some (.int (nI j))] [] := by
    intro d
    induction d with
    | zero =>
      intro j hj hX
      refine aw_iload_n rfl rfl ?_
      refine aw_aload_n rfl rfl ?_
      refine aw_iX rfl cw_X12_99 (xs_recv hx hi) (c_length hx hi) rfl rfl (Nat.le_of_ble_eq_true rfl) (by decide) (by decide) (by decide) (by decide) ?_
      refine aw_icmp_ge (tgt := 27) rfl (by decide) (fun h7 => ?_) (fun h7 => absurd (nI_le (by omega) (by omega)) h7)
      refine aw_iconst (v := 0) rfl (by decide) ?_
      exact aw_fz rfl rfl (Or.inl rfl) (by rw [← hX]; rfl) rfl
    | succ d ih =>
      intro j hj hX
      refine aw_iload_n rfl rfl ?_
      refine aw_aload_n rfl rfl ?_
      refine aw_iX rfl cw_X12_99 (xs_recv hx hi) (c_length hx hi) rfl rfl (Nat.le_of_ble_eq_true rfl) (by decide) (by decide) (by decide) (by decide) ?_
      refine aw_icmp_ge (tgt := 27) rfl (by decide) (fun h7 => absurd h7 (nI_ge (by omega) (by omega))) (fun h7 => ?_)
      refine aw_aload_n rfl rfl ?_
      refine aw_iload_n rfl rfl ?_
      refine aw_iX rfl cw_X12_105 (xs_recv hx hi) (c_charAt hx hi (by omega)) rfl rfl (Nat.le_of_ble_eq_true rfl) (by decide) (by decide) (by decide) (by decide) ?_
      refine aw_iload_n rfl rfl ?_
      refine aw_icmp_ne (tgt := 21) rfl (by decide) (fun h16 => ?_) (fun h16 => ?_)
      · refine aw_inc1 rfl rfl (by decide) ?_
        refine aw_goto (tgt := 2) rfl (by decide) ?_
        refine aw_wk (ih (j + 1) (by omega) ?_) (And.intro rfl (And.intro rfl (And.intro (congrArg (fun x => some (Value.int x)) (nI_1 j)) True.intro)))
        rw [← hX]; simp only [fs]; rw [if_neg (fun z => h16 (of_decide_eq_true z))]
      · refine aw_iconst (v := 1) rfl (by decide) ?_
        exact aw_fz rfl rfl (Or.inr rfl) (by rw [← hX]; simp only [fs]; rw [if_pos (decide_eq_true h16)]; rfl) rfl
  refine aw_F_of mo_X12_isAmong (by decide) (Nat.le_of_ble_eq_true rfl) ?_
  refine aw_iconst (v := 0) rfl (by decide) ?_
  refine aw_istore_n rfl (by decide) ?_
  exact aw_wk (loop _ 0 (by omega) hXX) (And.intro rfl (And.intro rfl (And.intro rfl True.intro)))
set_option maxRecDepth 4000 in
theorem c_m_spotOf {l : Launch} {g : ag_G} {ws : va_W} {i : Nat} {c : Int32} (hx : aw_hx g) (hi : i < 11) : aw_F l g mi_X12_spotOf 4 [.ref (g_ad g (100 + i)), .int c] ws (.int (on (xsp i c))) ws := by
  have hl := xs_small i hi
  unfold xsp
  generalize hXX : fs (fun j => decide (xch i j = c)) 0 (xLen.getD i 0) = X
  have loop : ∀ (d j : Nat), j + d = xLen.getD i 0 → fs (fun j => decide (xch i j = c)) j d = X → aw_W l g mi_X12_spotOf (aw_rm 4 0 0) (aw_Z g (fun r w => r = some (.int (on X)) ∧ w = ws) 0 0) 0 0 ws 2 [some (.ref (g_ad g (100 + i))), some (.int c), some (.int (nI j))] [] := by
    intro d
    induction d with
    | zero =>
      intro j hj hX
      refine aw_iload_n rfl rfl ?_
      refine aw_aload_n rfl rfl ?_
      refine aw_iX rfl cw_X12_99 (xs_recv hx hi) (c_length hx hi) rfl rfl (Nat.le_of_ble_eq_true rfl) (by decide) (by decide) (by decide) (by decide) ?_
      refine aw_icmp_ge (tgt := 27) rfl (by decide) (fun h7 => ?_) (fun h7 => absurd (nI_le (by omega) (by omega)) h7)
      refine aw_iconst (v := -1) rfl (by decide) ?_
      exact aw_fi rfl rfl (by rw [← hX]; rfl) rfl
    | succ d ih =>
      intro j hj hX
      refine aw_iload_n rfl rfl ?_
      refine aw_aload_n rfl rfl ?_
      refine aw_iX rfl cw_X12_99 (xs_recv hx hi) (c_length hx hi) rfl rfl (Nat.le_of_ble_eq_true rfl) (by decide) (by decide) (by decide) (by decide) ?_
      refine aw_icmp_ge (tgt := 27) rfl (by decide) (fun h7 => absurd h7 (nI_ge (by omega) (by omega))) (fun h7 => ?_)
      refine aw_aload_n rfl rfl ?_
      refine aw_iload_n rfl rfl ?_
      refine aw_iX rfl cw_X12_105 (xs_recv hx hi) (c_charAt hx hi (by omega)) rfl rfl (Nat.le_of_ble_eq_true rfl) (by decide) (by decide) (by decide) (by decide) ?_
      refine aw_iload_n rfl rfl ?_
      refine aw_icmp_ne (tgt := 21) rfl (by decide) (fun h16 => ?_) (fun h16 => ?_)
      · refine aw_inc1 rfl rfl (by decide) ?_
        refine aw_goto (tgt := 2) rfl (by decide) ?_
        refine aw_wk (ih (j + 1) (by omega) ?_) (And.intro rfl (And.intro rfl (And.intro (congrArg (fun x => some (Value.int x)) (nI_1 j)) True.intro)))
        rw [← hX]; simp only [fs]; rw [if_neg (fun z => h16 (of_decide_eq_true z))]
      · refine aw_iload_n rfl rfl ?_
        exact aw_fi rfl rfl (by rw [← hX]; simp only [fs]; rw [if_pos (decide_eq_true h16)]; rfl) rfl
  refine aw_F_of mo_X12_spotOf (by decide) (Nat.le_of_ble_eq_true rfl) ?_
  refine aw_iconst (v := 0) rfl (by decide) ?_
  refine aw_istore_n rfl (by decide) ?_
  exact aw_wk (loop _ 0 (by omega) hXX) (And.intro rfl (And.intro rfl (And.intro rfl True.intro)))
