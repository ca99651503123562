section AwLw
variable {l : Launch} {g : ag_G} {M : ag_M} {R : Room} {Z : ag_Z} {cells slots : Nat} {ws : va_W} {pc : Nat} {L : List (Option Value)} {st : List Value}
theorem aw_ldcw {index : Nat} {v : Int32} (hd : m_at M pc = some (.ldc_w index, 3)) (hc : Cond.constant (m_y M).cls index v ∈ aw_tbl) (kk : aw_W l g M R Z cells slots ws (pc + 3) L (.int v :: st)) : aw_W l g M R Z cells slots ws pc L st := fun p e s m args below meth c H locs ls hC hH hL => lv_ldcw hC.1 hC.2.1 hC.2.2.2.1 (hC.2.2.2.2.1 _ hc) (hC.2.2.2.2.2.2.2.2.2.2.2.1 _ _ _ hd) (kk p e s m args below meth c H locs ls hC hH hL)
end AwLw
def ush (x k : Int32) : Int32 := (x.toUInt32 >>> (k.toUInt32 &&& Int32.toUInt32 31)).toInt32
def bc1 (x : Int32) : Int32 := x - (ush x 1 &&& 1431655765)
def bc2 (x : Int32) : Int32 := (x &&& 858993459) + (ush x 2 &&& 858993459)
def bc3 (x : Int32) : Int32 := (x + ush x 4) &&& 252645135
def bc4 (x : Int32) : Int32 := x + ush x 8
def bc5 (x : Int32) : Int32 := x + ush x 16
def bitc (x : Int32) : Int32 := bc5 (bc4 (bc3 (bc2 (bc1 x)))) &&& 63
def aAct (V : (Nat → Int32) → Int32) (s : am_S) (T : Nat) (a f h : Int32) : Int32 × am_S := if a = 0 then aMonth V s T else if a = 1 then aSeal s f h else if a = 2 then aPry s f h else if a = 3 then aOpen s f else if a = 4 then aCarry s f h else if a = 5 then aHeat s f else (-1, s)
set_option maxRecDepth 4000 in
theorem c_bitCount {l : Launch} {g : ag_G} {x : Int32} {ws : va_W} : aw_F l g mi_J6_bitCount_0f7a4 0 [.int x] (ws) (.int (bitc x)) (ws) := by
  refine aw_F_of mo_J6_bitCount_0f7a4 (by decide) (Nat.le_of_ble_eq_true rfl) ?_
  refine aw_iload_n rfl rfl ?_
  refine aw_iload_n rfl rfl ?_
  refine aw_iconst (v := 1) rfl (by decide) ?_
  refine aw_iushr rfl rfl ?_
  refine aw_ldcw (v := 1431655765) rfl (aw_t4 15 rfl rfl) ?_
  refine aw_iand rfl ?_
  refine aw_isub rfl ?_
  refine aw_istore_n rfl (by decide) ?_
  refine aw_iload_n rfl rfl ?_
  refine aw_ldcw (v := 858993459) rfl (aw_t4 16 rfl rfl) ?_
  refine aw_iand rfl ?_
  refine aw_iload_n rfl rfl ?_
  refine aw_iconst (v := 2) rfl (by decide) ?_
  refine aw_iushr rfl rfl ?_
  refine aw_ldcw (v := 858993459) rfl (aw_t4 16 rfl rfl) ?_
  refine aw_iand rfl ?_
  refine aw_iadd rfl ?_
  refine aw_istore_n rfl (by decide) ?_
  refine aw_iload_n rfl rfl ?_
  refine aw_iload_n rfl rfl ?_
  refine aw_iconst (v := 4) rfl (by decide) ?_
  refine aw_iushr rfl rfl ?_
  refine aw_iadd rfl ?_
  refine aw_ldcw (v := 252645135) rfl (aw_t4 17 rfl rfl) ?_
  refine aw_iand rfl ?_
  refine aw_istore_n rfl (by decide) ?_
  refine aw_iload_n rfl rfl ?_
  refine aw_iload_n rfl rfl ?_
  refine aw_bipush (v := 8) rfl (by decide) ?_
  refine aw_iushr rfl rfl ?_
  refine aw_iadd rfl ?_
  refine aw_istore_n rfl (by decide) ?_
  refine aw_iload_n rfl rfl ?_
  refine aw_iload_n rfl rfl ?_
  refine aw_bipush (v := 16) rfl (by decide) ?_
  refine aw_iushr rfl rfl ?_
  refine aw_iadd rfl ?_
  refine aw_istore_n rfl (by decide) ?_
  refine aw_iload_n rfl rfl ?_
  refine aw_bipush (v := 63) rfl (by decide) ?_
  refine aw_iand rfl ?_
  exact aw_fi rfl rfl rfl rfl
set_option maxRecDepth 4000 in
theorem c_X8_secretOnes {l : Launch} {g : ag_G} {s : am_S} {n : am_N} {T Q : Nat} (hb : kb s T Q) : aw_F l g mi_X8_secretOnes 2 [.ref (g_ad g 15)] (hp g s n) (.int ((fd (fun i a => if bitc (s 16 (19 + i)) = 1 then a ||| bt i else a) 0 (T) 0))) (hp g s n) := by
  have hN : T < 2 ^ 31 := (by have := hb.2.1; omega)
  generalize hXX : (fd (fun i a => if bitc (s 16 (19 + i)) = 1 then a ||| bt i else a) 0 (T) 0) = X
  have loop : ∀ (d i : Nat) (a : Int32), i + d = T → fd (fun i a => if bitc (s 16 (19 + i)) = 1 then a ||| bt i else a) i d a = X → aw_W l g mi_X8_secretOnes (aw_rm 2 0 0) (aw_Z g (fun r w => r = some (.int X) ∧ w = hp g s n) 0 0) 0 0 (hp g s n) 4 [some (.ref (g_ad g 15)), some (.int a), some (.int (nI i))] [] := by
    intro d
    induction d with
    | zero =>
      intro i a hi hX
      refine aw_iload_n rfl rfl ?_
      refine aw_aload_n rfl rfl ?_
      refine pg_15_6 rfl kl_X8_43 ?_
      refine aw_icmp_ge (tgt := 40) rfl (by decide) (fun h9 => ?_) (fun h9 => absurd (by rw [hb.1]; exact nI_le (by omega) (by omega)) h9)
      refine aw_iload_n rfl rfl ?_
      exact aw_fi rfl rfl hX rfl
    | succ d ih =>
      intro i a hi hX
      refine aw_iload_n rfl rfl ?_
      refine aw_aload_n rfl rfl ?_
      refine pg_15_6 rfl kl_X8_43 ?_
      refine aw_icmp_ge (tgt := 40) rfl (by decide) (fun h9 => absurd h9 (by rw [hb.1]; exact nI_ge (by omega) (by omega))) (fun h9 => ?_)
      refine aw_aload_n rfl rfl ?_
      refine pg_15_1 rfl kl_X8_11 ?_
      refine aw_bipush (v := 19) rfl (by decide) ?_
      refine aw_iload_n rfl rfl ?_
      refine aw_iadd rfl ?_
      refine pl_16 rfl (iL 19 i rfl) (by have := hb.2.1; omega) ?_
      refine aw_iS rfl cw_X8_130 (c_bitCount) rfl rfl (Nat.le_of_ble_eq_true rfl) (by decide) (by decide) (by decide) (by decide) ?_
      refine aw_iconst (v := 1) rfl (by decide) ?_
      refine aw_icmp_ne (tgt := 34) rfl (by decide) (fun h25 => ?_) (fun h25 => ?_)
      · refine aw_inc1 rfl rfl (by decide) ?_
        refine aw_goto (tgt := 4) rfl (by decide) ?_
        refine aw_wk (ih (i + 1) _ (by omega) ?_) (And.intro rfl (And.intro rfl (And.intro (congrArg (fun x => some (Value.int x)) (nI_1 i)) True.intro)))
        exact Eq.trans (congrArg (fd _ (i + 1) d) (by first | (simp [h25]; done) | (simp [h25, bt]; done))) hX
      · refine aw_iload_n rfl rfl ?_
        refine aw_iconst (v := 1) rfl (by decide) ?_
        refine aw_iload_n rfl rfl ?_
        refine aw_ishl rfl ?_
        refine aw_ior rfl ?_
        refine aw_istore_n rfl (by decide) ?_
        refine aw_inc1 rfl rfl (by decide) ?_
        refine aw_goto (tgt := 4) rfl (by decide) ?_
        refine aw_wk (ih (i + 1) _ (by omega) ?_) (And.intro rfl (And.intro rfl (And.intro (congrArg (fun x => some (Value.int x)) (nI_1 i)) True.intro)))
        exact Eq.trans (congrArg (fd _ (i + 1) d) (by first | (simp [h25]; done) | (simp [h25, bt]; done))) hX
  refine aw_F_of mo_X8_secretOnes (by decide) (Nat.le_of_ble_eq_true rfl) ?_
  refine aw_iconst (v := 0) rfl (by decide) ?_
  refine aw_istore_n rfl (by decide) ?_
  refine aw_iconst (v := 0) rfl (by decide) ?_
  refine aw_istore_n rfl (by decide) ?_
  refine aw_wk (loop T 0 0 (by omega) hXX) (And.intro rfl (And.intro rfl (And.intro rfl True.intro)))
set_option maxRecDepth 4000 in
theorem c_X8_acts {l : Launch} {g : ag_G} {s : am_S} {n : am_N} {a f h : Int32} {T Q : Nat} (hb : kb s T Q) {V : (Nat → Int32) → Int32} (hV : LawIs l g s n V) : aw_G l g mi_X8_acts 6 skC [.ref (g_ad g 15), .int a, .int f, .int h] s n (.int (aAct V s T a f h).1) (aAct V s T a f h).2 := by
  refine aw_G_of mo_X8_acts (by decide) (Nat.le_of_ble_eq_true rfl) ?_
  refine aw_iload_n rfl rfl ?_
  refine aw_sw 0 (fun h1_0 => ?_) (fun h1_0 => ?_)
  · refine aw_tabIn (off := 39) (tgt := 40) rfl (by decide) (by decide) (by decide) (by decide) ?_
    refine aw_aload_n rfl rfl ?_
    refine aw_gV (q0 := 15) (ci := 8) rfl cw_X8_92 rfl rfl rfl (c_X8_passes hb hV) rfl rfl (Nat.le_of_ble_eq_true rfl) (by decide) (by decide) (by decide) (by decide) (fun s1 e1 => ?_)
    exact aw_gi rfl rfl (by unfold aAct; rw [if_pos h1_0]) (by unfold aAct; rw [if_pos h1_0]; exact e1)
  · skip
    refine aw_sw 1 (fun h1_1 => ?_) (fun h1_1 => ?_)
    · refine aw_tabIn (off := 44) (tgt := 45) rfl (by decide) (by decide) (by decide) (by decide) ?_
      refine aw_aload_n rfl rfl ?_
      refine aw_iload_n rfl rfl ?_
      refine aw_iload_n rfl rfl ?_
      refine aw_iV (q0 := 15) (ci := 8) rfl cw_X8_95 rfl rfl rfl (c_X8_setsWax hb) rfl rfl (Nat.le_of_ble_eq_true rfl) (by decide) (by decide) (by decide) (by decide) ?_
      exact aw_gi rfl rfl (by unfold aAct; rw [if_neg h1_0, if_pos h1_1]) (by unfold aAct; rw [if_neg h1_0, if_pos h1_1]; exact eo_rf)
    · skip
      refine aw_sw 2 (fun h1_2 => ?_) (fun h1_2 => ?_)
      · refine aw_tabIn (off := 51) (tgt := 52) rfl (by decide) (by decide) (by decide) (by decide) ?_
        refine aw_aload_n rfl rfl ?_
        refine aw_iload_n rfl rfl ?_
        refine aw_iload_n rfl rfl ?_
        refine aw_iV (q0 := 15) (ci := 8) rfl cw_X8_98 rfl rfl rfl (c_X8_pries hb) rfl rfl (Nat.le_of_ble_eq_true rfl) (by decide) (by decide) (by decide) (by decide) ?_
        exact aw_gi rfl rfl (by unfold aAct; rw [if_neg h1_0, if_neg h1_1, if_pos h1_2]) (by unfold aAct; rw [if_neg h1_0, if_neg h1_1, if_pos h1_2]; exact eo_rf)
      · skip
        refine aw_sw 3 (fun h1_3 => ?_) (fun h1_3 => ?_)
        · refine aw_tabIn (off := 58) (tgt := 59) rfl (by decide) (by decide) (by decide) (by decide) ?_
          refine aw_aload_n rfl rfl ?_
          refine aw_iload_n rfl rfl ?_
          refine aw_iV (q0 := 15) (ci := 8) rfl cw_X8_101 rfl rfl rfl (c_X8_opensOwn hb) rfl rfl (Nat.le_of_ble_eq_true rfl) (by decide) (by decide) (by decide) (by decide) ?_
          exact aw_gi rfl rfl (by unfold aAct; rw [if_neg h1_0, if_neg h1_1, if_neg h1_2, if_pos h1_3]) (by unfold aAct; rw [if_neg h1_0, if_neg h1_1, if_neg h1_2, if_pos h1_3]; exact eo_rf)
        · skip
          refine aw_sw 4 (fun h1_4 => ?_) (fun h1_4 => ?_)
          · refine aw_tabIn (off := 64) (tgt := 65) rfl (by decide) (by decide) (by decide) (by decide) ?_
            refine aw_aload_n rfl rfl ?_
            refine aw_iload_n rfl rfl ?_
            refine aw_iload_n rfl rfl ?_
            refine aw_iV (q0 := 15) (ci := 8) rfl cw_X8_104 rfl rfl rfl (c_X8_carries hb) rfl rfl (Nat.le_of_ble_eq_true rfl) (by decide) (by decide) (by decide) (by decide) ?_
            exact aw_gi rfl rfl (by unfold aAct; rw [if_neg h1_0, if_neg h1_1, if_neg h1_2, if_neg h1_3, if_pos h1_4]) (by unfold aAct; rw [if_neg h1_0, if_neg h1_1, if_neg h1_2, if_neg h1_3, if_pos h1_4]; exact eo_rf)
          · skip
            refine aw_sw 5 (fun h1_5 => ?_) (fun h1_5 => ?_)
            · refine aw_tabIn (off := 71) (tgt := 72) rfl (by decide) (by decide) (by decide) (by decide) ?_
              refine aw_aload_n rfl rfl ?_
              refine aw_iload_n rfl rfl ?_
              refine aw_iV (q0 := 15) (ci := 8) rfl cw_X8_107 rfl rfl rfl (c_X8_setsHeat) rfl rfl (Nat.le_of_ble_eq_true rfl) (by decide) (by decide) (by decide) (by decide) ?_
              exact aw_gi rfl rfl (by unfold aAct; rw [if_neg h1_0, if_neg h1_1, if_neg h1_2, if_neg h1_3, if_neg h1_4, if_pos h1_5]) (by unfold aAct; rw [if_neg h1_0, if_neg h1_1, if_neg h1_2, if_neg h1_3, if_neg h1_4, if_pos h1_5]; exact eo_rf)
            · skip
              refine aw_tabOut (tgt := 78) rfl (by have e0 := ne_toInt h1_0 (i := 0) (by decide); have e1 := ne_toInt h1_1 (i := 1) (by decide); have e2 := ne_toInt h1_2 (i := 2) (by decide); have e3 := ne_toInt h1_3 (i := 3) (by decide); have e4 := ne_toInt h1_4 (i := 4) (by decide); have e5 := ne_toInt h1_5 (i := 5) (by decide); omega) (by decide) ?_
              refine aw_iconst (v := -1) rfl (by decide) ?_
              exact aw_gi rfl rfl (by unfold aAct; rw [if_neg h1_0, if_neg h1_1, if_neg h1_2, if_neg h1_3, if_neg h1_4, if_neg h1_5]) (by unfold aAct; rw [if_neg h1_0, if_neg h1_1, if_neg h1_2, if_neg h1_3, if_neg h1_4, if_neg h1_5]; exact eo_rf)
