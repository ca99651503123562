theorem xs_shr : ∀ i, i < 11 → nI (xLen.getD i 0) >>> ((0 : Int32) &&& 31) = nI (xLen.getD i 0) := by decide +kernel
theorem xs_small : ∀ i, i < 11 → 0 < xLen.getD i 0 ∧ xLen.getD i 0 < 14 := by decide +kernel
def xix (i : Nat) (c : Int32) : Int32 := on (fs (fun j => decide ((xByt.getD i []).getD j 0 = c.toInt8.toInt32)) 0 (xLen.getD i 0))
section AwRet
variable {l : Launch} {g : ag_G} {M : ag_M} {R : Room} {Z : ag_Z} {cells slots : Nat} {ws ws2 : va_W} {pc : Nat} {L : List (Option Value)} {st : List Value}
theorem aw_fb {v x : Int32} {ty : FieldType} (hd : m_at M pc = some (.ireturn, 1)) (hr : m_r M = some ty) (hn : narrow ty (.int v) = .int v) (hv : v = x) (hw : ws = ws2) : aw_W l g M R (aw_Z g (fun r w => r = some (.int x) ∧ w = ws2) cells slots) cells slots ws pc L [.int v] :=
  fun p e s m args below meth c H locs ls hC hH hL => W.zret (ty := ty) hC.1 hC.2.1 (hC.2.2.2.2.2.1.trans hr) hn (fun t ht _ => aw_end hH ⟨by rw [hv], hw⟩ ht) hH.2.2.2.2 (hC.2.2.2.2.2.2.2.2.2.2.2.1 _ _ _ hd) hC.2.2.2.2.2.2.1
end AwRet
set_option maxRecDepth 4000 in
theorem c_isLatin1 {l : Launch} {g : ag_G} {ws : va_W} {i : Nat} (hx : aw_hx g) (hi : i < 11) : aw_F l g mi_J0_isLatin1_aae02 0 [.ref (g_ad g (100 + i))] (ws) (.int 1) (ws) := by
  refine aw_F_of mo_J0_isLatin1_aae02 (by decide) (Nat.le_of_ble_eq_true rfl) ?_
  refine aw_xgets rfl (fun U hU => (hx U hU).2.1) kl_J0_38 ?_
  refine aw_if_eq (tgt := 17) rfl (by decide) (fun h3 => absurd h3 (by decide)) (fun h3 => ?_)
  refine aw_aload_n rfl rfl ?_
  refine aw_xget rfl (xs_coder hx hi) kl_J0_15 ?_
  refine aw_if_ne (tgt := 17) rfl (by decide) (fun h10 => absurd h10 (by decide)) (fun h10 => ?_)
  refine aw_iconst (v := 1) rfl (by decide) ?_
  refine aw_goto (tgt := 18) rfl (by decide) ?_
  exact aw_fz rfl rfl (Or.inr rfl) rfl rfl
set_option maxRecDepth 4000 in
theorem c_coder {l : Launch} {g : ag_G} {ws : va_W} {i : Nat} (hx : aw_hx g) (hi : i < 11) : aw_F l g mi_J0_coder_7d493 0 [.ref (g_ad g (100 + i))] (ws) (.int 0) (ws) := by
  refine aw_F_of mo_J0_coder_7d493 (by decide) (Nat.le_of_ble_eq_true rfl) ?_
  refine aw_xgets rfl (fun U hU => (hx U hU).2.1) kl_J0_38 ?_
  refine aw_if_eq (tgt := 13) rfl (by decide) (fun h3 => absurd h3 (by decide)) (fun h3 => ?_)
  refine aw_aload_n rfl rfl ?_
  refine aw_xget rfl (xs_coder hx hi) kl_J0_15 ?_
  refine aw_goto (tgt := 14) rfl (by decide) ?_
  exact aw_fb rfl rfl rfl rfl rfl
set_option maxRecDepth 4000 in
theorem c_length {l : Launch} {g : ag_G} {ws : va_W} {i : Nat} (hx : aw_hx g) (hi : i < 11) : aw_F l g mi_J0_length_8abf5 1 [.ref (g_ad g (100 + i))] (ws) (.int (nI (xLen.getD i 0))) (ws) := by
  refine aw_F_of mo_J0_length_8abf5 (by decide) (Nat.le_of_ble_eq_true rfl) ?_
  refine aw_aload_n rfl rfl ?_
  refine aw_xget rfl (xs_value hx hi) kl_J0_9 ?_
  refine aw_xlen rfl (xs_bytes hx hi) rfl ?_
  refine aw_aload_n rfl rfl ?_
  refine aw_iX rfl cw_J0_335 (xs_recv hx hi) (c_coder hx hi) rfl rfl (Nat.le_of_ble_eq_true rfl) (by decide) (by decide) (by decide) (by decide) ?_
  refine aw_ishr rfl ?_
  exact aw_fi rfl rfl (xs_shr i hi) rfl
set_option maxRecDepth 4000 in
theorem c_canEncode {l : Launch} {g : ag_G} {ws : va_W} {q : Nat} (hq : q < 256) : aw_F l g mi_J1_canEncode_9a6ad 0 [.int (nI q)] (ws) (.int 1) (ws) := by
  refine aw_F_of mo_J1_canEncode_9a6ad (by decide) (Nat.le_of_ble_eq_true rfl) ?_
  refine aw_iload_n rfl rfl ?_
  refine aw_if_lt (tgt := 15) rfl (by decide) (fun h1 => absurd h1 (nI_pos (by omega))) (fun h1 => ?_)
  refine aw_iload_n rfl rfl ?_
  refine aw_sipush (v := 255) rfl (by decide) ?_
  refine aw_icmp_gt (tgt := 15) rfl (by decide) (fun h8 => absurd h8 (nI_nlt (a := 255) (b := q) (by omega) (by decide))) (fun h8 => ?_)
  refine aw_iconst (v := 1) rfl (by decide) ?_
  refine aw_goto (tgt := 16) rfl (by decide) ?_
  exact aw_fz rfl rfl (Or.inr rfl) rfl rfl
set_option maxRecDepth 4000 in
theorem c_indexOfChar {l : Launch} {g : ag_G} {ws : va_W} {i q : Nat} (hx : aw_hx g) (hi : i < 11) : aw_F l g mi_J1_indexOfChar_4cfef 0 [.ref (g_ad g (112 + i)), .int (nI q), .int 0, .int (nI (xLen.getD i 0))] ws (.int (xix i (nI q))) ws := by
  have hl := xs_small i hi
  unfold xix
  generalize hXX : fs (fun j => decide ((xByt.getD i []).getD j 0 = (nI q).toInt8.toInt32)) 0 (xLen.getD i 0) = X
  have loop : ∀ (d j : Nat), j + d = xLen.getD i 0 → fs (fun j => decide ((xByt.getD i []).getD j 0 = (nI q).toInt8.toInt32)) j d = X → aw_W l g mi_J1_indexOfChar_4cfef (aw_rm 0 0 0) (aw_Z g (fun r w => r = some (.int (on X)) ∧ w = ws) 0 0) 0 0 ws 7 [some (.ref (g_ad g (112 + i))), some (.int (nI q)), some (.int 0), some (.int (nI (xLen.getD i 0))), some (.int (nI q).toInt8.toInt32), some (.int (nI j))] [] := by
    intro d
    induction d with
    | zero =>
      intro j hj hX
      refine aw_iload rfl rfl ?_
      refine aw_iload_n rfl rfl ?_
      refine aw_icmp_ge (tgt := 31) rfl (by decide) (fun h10 => ?_) (fun h10 => absurd (nI_le (by omega) (by omega)) h10)
      refine aw_iconst (v := -1) rfl (by decide) ?_
      exact aw_fi rfl rfl (by rw [← hX]; rfl) rfl
    | succ d ih =>
      intro j hj hX
      refine aw_iload rfl rfl ?_
      refine aw_iload_n rfl rfl ?_
      refine aw_icmp_ge (tgt := 31) rfl (by decide) (fun h10 => absurd h10 (nI_ge (by omega) (by omega))) (fun h10 => ?_)
      refine aw_aload_n rfl rfl ?_
      refine aw_iload rfl rfl ?_
      refine aw_xtb rfl (xs_bytes hx hi) (j := j) rfl (by omega) (by omega) rfl ?_
      refine aw_iload rfl rfl ?_
      refine aw_icmp_ne (tgt := 25) rfl (by decide) (fun h19 => ?_) (fun h19 => ?_)
      · refine aw_inc1 rfl rfl (by decide) ?_
        refine aw_goto (tgt := 7) rfl (by decide) ?_
        refine aw_wk (ih (j + 1) (by omega) ?_) (And.intro rfl (And.intro rfl (And.intro rfl (And.intro rfl (And.intro rfl (And.intro (congrArg (fun x => some (Value.int x)) (nI_1 j)) True.intro))))))
        rw [← hX]; simp only [fs]; rw [if_neg (by simpa using h19)]
      · refine aw_iload rfl rfl ?_
        exact aw_fi rfl rfl (by rw [← hX]; simp only [fs]; rw [if_pos (by simpa using h19)]; rfl) rfl
  refine aw_F_of mo_J1_indexOfChar_4cfef (by decide) (Nat.le_of_ble_eq_true rfl) ?_
  refine aw_iload_n rfl rfl ?_
  refine aw_i2b rfl ?_
  refine aw_istore rfl (by decide) ?_
  refine aw_iload_n rfl rfl ?_
  refine aw_istore rfl (by decide) ?_
  refine aw_wk (loop _ 0 (by omega) hXX) (And.intro rfl (And.intro rfl (And.intro rfl (And.intro rfl (And.intro rfl (And.intro rfl True.intro))))))
set_option maxRecDepth 4000 in
theorem c_indexOfL {l : Launch} {g : ag_G} {ws : va_W} {i : Nat} (hx : aw_hx g) (hi : i < 11) {q : Nat} (hq : q < 256) : aw_F l g mi_J1_indexOf_4cfef 1 [.ref (g_ad g (112 + i)), .int (nI q), .int 0, .int (nI (xLen.getD i 0))] (ws) (.int (xix i (nI q))) (ws) := by
  have hl := xs_small i hi
  refine aw_F_of mo_J1_indexOf_4cfef (by decide) (Nat.le_of_ble_eq_true rfl) ?_
  refine aw_iload_n rfl rfl ?_
  refine aw_iS rfl cw_J1_88 (c_canEncode hq) rfl rfl (Nat.le_of_ble_eq_true rfl) (by decide) (by decide) (by decide) (by decide) ?_
  refine aw_if_ne (tgt := 9) rfl (by decide) (fun h4 => ?_) (fun h4 => absurd h4 (by decide))
  refine aw_iload_n rfl rfl ?_
  refine aw_iconst (v := 0) rfl (by decide) ?_
  refine aw_mmax rfl km_J1_92 (aw_t2 168 rfl rfl) (aw_t1 18 rfl rfl) (aw_t2 169 rfl rfl) (by decide) (Nat.le_of_ble_eq_true rfl) (by decide) (by decide) ?_
  rw [show (if (0 : Int32) < 0 then (0 : Int32) else 0) = 0 from rfl]
  refine aw_istore_n rfl (by decide) ?_
  refine aw_iload_n rfl rfl ?_
  refine aw_aload_n rfl rfl ?_
  refine aw_xlen rfl (xs_bytes hx hi) rfl ?_
  refine aw_mmin rfl km_J1_38 (aw_t2 171 rfl rfl) (aw_t1 18 rfl rfl) (aw_t2 172 rfl rfl) (by decide) (Nat.le_of_ble_eq_true rfl) (by decide) (by decide) ?_
  rw [show (if Int32.ofNat (xLen.getD i 0) < nI (xLen.getD i 0) then Int32.ofNat (xLen.getD i 0) else nI (xLen.getD i 0)) = nI (xLen.getD i 0) from by (split <;> rfl)]
  refine aw_istore_n rfl (by decide) ?_
  refine aw_iload_n rfl rfl ?_
  refine aw_iload_n rfl rfl ?_
  refine aw_icmp_lt (tgt := 29) rfl (by decide) (fun h24 => ?_) (fun h24 => absurd (by exact nI_lt (a := 0) hl.1 (by omega)) h24)
  refine aw_aload_n rfl rfl ?_
  refine aw_iload_n rfl rfl ?_
  refine aw_iload_n rfl rfl ?_
  refine aw_iload_n rfl rfl ?_
  refine aw_iS rfl cw_J1_95 (c_indexOfChar hx hi) rfl rfl (Nat.le_of_ble_eq_true rfl) (by decide) (by decide) (by decide) (by decide) ?_
  exact aw_fi rfl rfl rfl rfl
set_option maxRecDepth 4000 in
theorem c_indexOf2 {l : Launch} {g : ag_G} {ws : va_W} {i : Nat} (hx : aw_hx g) (hi : i < 11) {q : Nat} (hq : q < 256) : aw_F l g mi_J0_indexOf_7cf53 2 [.ref (g_ad g (100 + i)), .int (nI q), .int 0] (ws) (.int (xix i (nI q))) (ws) := by
  refine aw_F_of mo_J0_indexOf_7cf53 (by decide) (Nat.le_of_ble_eq_true rfl) ?_
  refine aw_aload_n rfl rfl ?_
  refine aw_iX rfl cw_J0_492 (xs_recv hx hi) (c_isLatin1 hx hi) rfl rfl (Nat.le_of_ble_eq_true rfl) (by decide) (by decide) (by decide) (by decide) ?_
  refine aw_if_eq (tgt := 23) rfl (by decide) (fun h4 => absurd h4 (by decide)) (fun h4 => ?_)
  refine aw_aload_n rfl rfl ?_
  refine aw_xget rfl (xs_value hx hi) kl_J0_9 ?_
  refine aw_iload_n rfl rfl ?_
  refine aw_iload_n rfl rfl ?_
  refine aw_aload_n rfl rfl ?_
  refine aw_iX rfl cw_J0_505 (xs_recv hx hi) (c_length hx hi) rfl rfl (Nat.le_of_ble_eq_true rfl) (by decide) (by decide) (by decide) (by decide) ?_
  refine aw_iS rfl cw_J0_637 (c_indexOfL hx hi hq) rfl rfl (Nat.le_of_ble_eq_true rfl) (by decide) (by decide) (by decide) (by decide) ?_
  refine aw_goto (tgt := 36) rfl (by decide) ?_
  exact aw_fi rfl rfl rfl rfl
set_option maxRecDepth 4000 in
theorem c_indexOf {l : Launch} {g : ag_G} {ws : va_W} {i : Nat} (hx : aw_hx g) (hi : i < 11) {q : Nat} (hq : q < 256) : aw_F l g mi_J0_indexOf_0f7a4 3 [.ref (g_ad g (100 + i)), .int (nI q)] (ws) (.int (xix i (nI q))) (ws) := by
  refine aw_F_of mo_J0_indexOf_0f7a4 (by decide) (Nat.le_of_ble_eq_true rfl) ?_
  refine aw_aload_n rfl rfl ?_
  refine aw_iload_n rfl rfl ?_
  refine aw_iconst (v := 0) rfl (by decide) ?_
  refine aw_iX rfl cw_J0_633 (xs_recv hx hi) (c_indexOf2 hx hi hq) rfl rfl (Nat.le_of_ble_eq_true rfl) (by decide) (by decide) (by decide) (by decide) ?_
  exact aw_fi rfl rfl rfl rfl
