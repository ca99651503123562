theorem up_up {s : am_S} {k i : Nat} {v x : Int32} : up (up s k i v) k i x = up s k i x := by
  funext k' j
  unfold up
  cases h : Nat.beq k' k with
  | true =>
    rw [Nat.beq_refl]
    show upd (upd (s k) i v) i x j = upd (s k) i x j
    by_cases e : j = i
    · subst e; rw [pk_us, pk_us]
    · rw [pk_un e, pk_un e, pk_un e]
  | false => rfl
theorem up_rf {s : am_S} {k i : Nat} {v : Int32} (h : s k i = v) : up s k i v = s := by
  funext k' j
  unfold up
  cases hb : Nat.beq k' k with
  | true =>
    rw [Nat.eq_of_beq_eq_true hb]
    show upd (s k) i v j = s k j
    by_cases e : j = i
    · subst e; rw [pk_us]; exact h.symm
    · rw [pk_un e]
  | false => rfl
def sgI (w : Int32) : List Int32 → Int32 → Int32
  | [], a => a
  | h :: t, a => sgI w t (if ush w h &&& 255 = 0 then a else a + 1)
def adI (w : Int32) : List Int32 → (Nat → Int32) × Nat → (Nat → Int32) × Nat
  | [], a => a
  | h :: t, a => adI w t (if ush w h &&& 255 = 0 then a else if a.2 < 240 then (upd a.1 a.2 (ush w h &&& 255), a.2 + 1) else a)
/-- the tape with these bytes, so many -/
def tpM (s : am_S) (f : Nat → Int32) (m : Nat) : am_S := up (upR s 2 f) 1 1 (nI m)
theorem tpM_w {s : am_S} {f : Nat → Int32} {m : Nat} {v : Int32} : up (up (tpM s f m) 2 m v) 1 1 (nI (m + 1)) = tpM s (upd f m v) (m + 1) := by
  funext k j
  unfold tpM up upR
  cases h1 : Nat.beq k 1 with
  | true =>
    rw [Nat.eq_of_beq_eq_true h1]
    show upd (upd (s 1) 1 (nI m)) 1 (nI (m + 1)) j = upd (s 1) 1 (nI (m + 1)) j
    by_cases e : j = 1
    · subst e; rw [pk_us, pk_us]
    · rw [pk_un e, pk_un e, pk_un e]
  | false =>
    cases h2 : Nat.beq k 2 with
    | true => rw [Nat.eq_of_beq_eq_true h2]; rfl
    | false => rfl
theorem tpM_rf {s : am_S} {m : Nat} (h : s 1 1 = nI m) : tpM s (s 2) m = s := by unfold tpM; rw [upR_rf]; exact up_rf h

set_option maxRecDepth 4000 in
theorem c_X10_signsIn {l : Launch} {g : ag_G} {s : am_S} {n : am_N} {x : Int32} : aw_F l g mi_X10_signsIn 0 [.int x] (hp g s n) (.int (sgI x [24, 16, 8, 0] 0)) (hp g s n) := by
  generalize hXX : sgI x [24, 16, 8, 0] 0 = X
  have l4 : ∀ c : Int32, sgI x [] c = X → aw_W l g mi_X10_signsIn (aw_rm 0 0 0) (aw_Z g (fun r w => r = some (.int X) ∧ w = hp g s n) 0 0) 0 0 (hp g s n) 5 [some (.int x), some (.int c), some (.int (-8))] [] := by
    intro c hX
    refine aw_iload_n rfl rfl ?_
    refine aw_if_lt (tgt := 28) rfl (by decide) (fun h6 => ?_) (fun h6 => absurd h6 (by decide))
    refine aw_iload_n rfl rfl ?_
    exact aw_fi rfl rfl hX rfl
  have l3 : ∀ c : Int32, sgI x [0] c = X → aw_W l g mi_X10_signsIn (aw_rm 0 0 0) (aw_Z g (fun r w => r = some (.int X) ∧ w = hp g s n) 0 0) 0 0 (hp g s n) 5 [some (.int x), some (.int c), some (.int 0)] [] := by
    intro c hX
    refine aw_iload_n rfl rfl ?_
    refine aw_if_lt (tgt := 28) rfl (by decide) (fun h6 => absurd h6 (by decide)) (fun h6 => ?_)
    refine aw_iload_n rfl rfl ?_
    refine aw_iload_n rfl rfl ?_
    refine aw_iushr rfl rfl ?_
    refine aw_sipush (v := 255) rfl (by decide) ?_
    refine aw_iand rfl ?_
    refine aw_if_eq (tgt := 22) rfl (by decide) (fun h16 => ?_) (fun h16 => ?_)
    · refine aw_iinc rfl rfl rfl (by decide) ?_
      refine aw_goto (tgt := 5) rfl (by decide) ?_
      first | exact aw_wk (l4 c (Eq.trans (congrArg (sgI x []) (by rw [if_pos (show ush x 0 &&& 255 = 0 from h16)] <;> rfl)) hX)) (And.intro rfl (And.intro rfl (And.intro (congrArg (fun x => some (Value.int x)) (by decide : (0 : Int32) + Int32.ofInt (-8) = (-8))) True.intro))) | exact aw_wk (l4 (c + 1) (Eq.trans (congrArg (sgI x []) (by rw [if_neg (show ¬ ush x 0 &&& 255 = 0 from h16)] <;> rfl)) hX)) (And.intro rfl (And.intro rfl (And.intro (congrArg (fun x => some (Value.int x)) (by decide : (0 : Int32) + Int32.ofInt (-8) = (-8))) True.intro)))
    · refine aw_inc1 rfl rfl (by decide) ?_
      refine aw_iinc rfl rfl rfl (by decide) ?_
      refine aw_goto (tgt := 5) rfl (by decide) ?_
      first | exact aw_wk (l4 c (Eq.trans (congrArg (sgI x []) (by rw [if_pos (show ush x 0 &&& 255 = 0 from h16)] <;> rfl)) hX)) (And.intro rfl (And.intro rfl (And.intro (congrArg (fun x => some (Value.int x)) (by decide : (0 : Int32) + Int32.ofInt (-8) = (-8))) True.intro))) | exact aw_wk (l4 (c + 1) (Eq.trans (congrArg (sgI x []) (by rw [if_neg (show ¬ ush x 0 &&& 255 = 0 from h16)] <;> rfl)) hX)) (And.intro rfl (And.intro rfl (And.intro (congrArg (fun x => some (Value.int x)) (by decide : (0 : Int32) + Int32.ofInt (-8) = (-8))) True.intro)))
  have l2 : ∀ c : Int32, sgI x [8, 0] c = X → aw_W l g mi_X10_signsIn (aw_rm 0 0 0) (aw_Z g (fun r w => r = some (.int X) ∧ w = hp g s n) 0 0) 0 0 (hp g s n) 5 [some (.int x), some (.int c), some (.int 8)] [] := by
    intro c hX
    refine aw_iload_n rfl rfl ?_
    refine aw_if_lt (tgt := 28) rfl (by decide) (fun h6 => absurd h6 (by decide)) (fun h6 => ?_)
    refine aw_iload_n rfl rfl ?_
    refine aw_iload_n rfl rfl ?_
    refine aw_iushr rfl rfl ?_
    refine aw_sipush (v := 255) rfl (by decide) ?_
    refine aw_iand rfl ?_
    refine aw_if_eq (tgt := 22) rfl (by decide) (fun h16 => ?_) (fun h16 => ?_)
    · refine aw_iinc rfl rfl rfl (by decide) ?_
      refine aw_goto (tgt := 5) rfl (by decide) ?_
      first | exact aw_wk (l3 c (Eq.trans (congrArg (sgI x [0]) (by rw [if_pos (show ush x 8 &&& 255 = 0 from h16)] <;> rfl)) hX)) (And.intro rfl (And.intro rfl (And.intro (congrArg (fun x => some (Value.int x)) (by decide : (8 : Int32) + Int32.ofInt (-8) = 0)) True.intro))) | exact aw_wk (l3 (c + 1) (Eq.trans (congrArg (sgI x [0]) (by rw [if_neg (show ¬ ush x 8 &&& 255 = 0 from h16)] <;> rfl)) hX)) (And.intro rfl (And.intro rfl (And.intro (congrArg (fun x => some (Value.int x)) (by decide : (8 : Int32) + Int32.ofInt (-8) = 0)) True.intro)))
    · refine aw_inc1 rfl rfl (by decide) ?_
      refine aw_iinc rfl rfl rfl (by decide) ?_
      refine aw_goto (tgt := 5) rfl (by decide) ?_
      first | exact aw_wk (l3 c (Eq.trans (congrArg (sgI x [0]) (by rw [if_pos (show ush x 8 &&& 255 = 0 from h16)] <;> rfl)) hX)) (And.intro rfl (And.intro rfl (And.intro (congrArg (fun x => some (Value.int x)) (by decide : (8 : Int32) + Int32.ofInt (-8) = 0)) True.intro))) | exact aw_wk (l3 (c + 1) (Eq.trans (congrArg (sgI x [0]) (by rw [if_neg (show ¬ ush x 8 &&& 255 = 0 from h16)] <;> rfl)) hX)) (And.intro rfl (And.intro rfl (And.intro (congrArg (fun x => some (Value.int x)) (by decide : (8 : Int32) + Int32.ofInt (-8) = 0)) True.intro)))
  have l1 : ∀ c : Int32, sgI x [16, 8, 0] c = X → aw_W l g mi_X10_signsIn (aw_rm 0 0 0) (aw_Z g (fun r w => r = some (.int X) ∧ w = hp g s n) 0 0) 0 0 (hp g s n) 5 [some (.int x), some (.int c), some (.int 16)] [] := by
    intro c hX
    refine aw_iload_n rfl rfl ?_
    refine aw_if_lt (tgt := 28) rfl (by decide) (fun h6 => absurd h6 (by decide)) (fun h6 => ?_)
    refine aw_iload_n rfl rfl ?_
    refine aw_iload_n rfl rfl ?_
    refine aw_iushr rfl rfl ?_
    refine aw_sipush (v := 255) rfl (by decide) ?_
    refine aw_iand rfl ?_
    refine aw_if_eq (tgt := 22) rfl (by decide) (fun h16 => ?_) (fun h16 => ?_)
    · refine aw_iinc rfl rfl rfl (by decide) ?_
      refine aw_goto (tgt := 5) rfl (by decide) ?_
      first | exact aw_wk (l2 c (Eq.trans (congrArg (sgI x [8, 0]) (by rw [if_pos (show ush x 16 &&& 255 = 0 from h16)] <;> rfl)) hX)) (And.intro rfl (And.intro rfl (And.intro (congrArg (fun x => some (Value.int x)) (by decide : (16 : Int32) + Int32.ofInt (-8) = 8)) True.intro))) | exact aw_wk (l2 (c + 1) (Eq.trans (congrArg (sgI x [8, 0]) (by rw [if_neg (show ¬ ush x 16 &&& 255 = 0 from h16)] <;> rfl)) hX)) (And.intro rfl (And.intro rfl (And.intro (congrArg (fun x => some (Value.int x)) (by decide : (16 : Int32) + Int32.ofInt (-8) = 8)) True.intro)))
    · refine aw_inc1 rfl rfl (by decide) ?_
      refine aw_iinc rfl rfl rfl (by decide) ?_
      refine aw_goto (tgt := 5) rfl (by decide) ?_
      first | exact aw_wk (l2 c (Eq.trans (congrArg (sgI x [8, 0]) (by rw [if_pos (show ush x 16 &&& 255 = 0 from h16)] <;> rfl)) hX)) (And.intro rfl (And.intro rfl (And.intro (congrArg (fun x => some (Value.int x)) (by decide : (16 : Int32) + Int32.ofInt (-8) = 8)) True.intro))) | exact aw_wk (l2 (c + 1) (Eq.trans (congrArg (sgI x [8, 0]) (by rw [if_neg (show ¬ ush x 16 &&& 255 = 0 from h16)] <;> rfl)) hX)) (And.intro rfl (And.intro rfl (And.intro (congrArg (fun x => some (Value.int x)) (by decide : (16 : Int32) + Int32.ofInt (-8) = 8)) True.intro)))
  have l0 : ∀ c : Int32, sgI x [24, 16, 8, 0] c = X → aw_W l g mi_X10_signsIn (aw_rm 0 0 0) (aw_Z g (fun r w => r = some (.int X) ∧ w = hp g s n) 0 0) 0 0 (hp g s n) 5 [some (.int x), some (.int c), some (.int 24)] [] := by
    intro c hX
    refine aw_iload_n rfl rfl ?_
    refine aw_if_lt (tgt := 28) rfl (by decide) (fun h6 => absurd h6 (by decide)) (fun h6 => ?_)
    refine aw_iload_n rfl rfl ?_
    refine aw_iload_n rfl rfl ?_
    refine aw_iushr rfl rfl ?_
    refine aw_sipush (v := 255) rfl (by decide) ?_
    refine aw_iand rfl ?_
    refine aw_if_eq (tgt := 22) rfl (by decide) (fun h16 => ?_) (fun h16 => ?_)
    · refine aw_iinc rfl rfl rfl (by decide) ?_
      refine aw_goto (tgt := 5) rfl (by decide) ?_
      first | exact aw_wk (l1 c (Eq.trans (congrArg (sgI x [16, 8, 0]) (by rw [if_pos (show ush x 24 &&& 255 = 0 from h16)] <;> rfl)) hX)) (And.intro rfl (And.intro rfl (And.intro (congrArg (fun x => some (Value.int x)) (by decide : (24 : Int32) + Int32.ofInt (-8) = 16)) True.intro))) | exact aw_wk (l1 (c + 1) (Eq.trans (congrArg (sgI x [16, 8, 0]) (by rw [if_neg (show ¬ ush x 24 &&& 255 = 0 from h16)] <;> rfl)) hX)) (And.intro rfl (And.intro rfl (And.intro (congrArg (fun x => some (Value.int x)) (by decide : (24 : Int32) + Int32.ofInt (-8) = 16)) True.intro)))
    · refine aw_inc1 rfl rfl (by decide) ?_
      refine aw_iinc rfl rfl rfl (by decide) ?_
      refine aw_goto (tgt := 5) rfl (by decide) ?_
      first | exact aw_wk (l1 c (Eq.trans (congrArg (sgI x [16, 8, 0]) (by rw [if_pos (show ush x 24 &&& 255 = 0 from h16)] <;> rfl)) hX)) (And.intro rfl (And.intro rfl (And.intro (congrArg (fun x => some (Value.int x)) (by decide : (24 : Int32) + Int32.ofInt (-8) = 16)) True.intro))) | exact aw_wk (l1 (c + 1) (Eq.trans (congrArg (sgI x [16, 8, 0]) (by rw [if_neg (show ¬ ush x 24 &&& 255 = 0 from h16)] <;> rfl)) hX)) (And.intro rfl (And.intro rfl (And.intro (congrArg (fun x => some (Value.int x)) (by decide : (24 : Int32) + Int32.ofInt (-8) = 16)) True.intro)))
  refine aw_F_of mo_X10_signsIn (by decide) (Nat.le_of_ble_eq_true rfl) ?_
  refine aw_iconst (v := 0) rfl (by decide) ?_
  refine aw_istore_n rfl (by decide) ?_
  refine aw_bipush (v := 24) rfl (by decide) ?_
  refine aw_istore_n rfl (by decide) ?_
  exact aw_wk (l0 0 hXX) (And.intro rfl (And.intro rfl (And.intro rfl True.intro)))
set_option maxRecDepth 4000 in
theorem c_X10_adds {l : Launch} {g : ag_G} {s : am_S} {n : am_N} {x : Int32} {m : Nat} (hm : s 1 1 = nI m) (hm4 : m ≤ 240) : aw_V l g mi_X10_adds 0 [.ref (g_ad g 1), .int x] (hp g s n) (hp g (tpM s (adI x [24, 16, 8, 0] (s 2, m)).1 (adI x [24, 16, 8, 0] (s 2, m)).2) n) := by
  generalize hXX : adI x [24, 16, 8, 0] (s 2, m) = X
  have l4 : ∀ a : (Nat → Int32) × Nat, a.2 ≤ 240 → adI x [] a = X → aw_W l g mi_X10_adds (aw_rm 0 0 0) (aw_Z g (fun r w => r = none ∧ w = hp g (tpM s X.1 X.2) n) 0 0) 0 0 (hp g (tpM s a.1 a.2) n) 3 [some (.ref (g_ad g 1)), some (.int x), some (.int (-8))] [] := by
    intro a ha hX
    refine aw_iload_n rfl rfl ?_
    refine aw_if_lt (tgt := 55) rfl (by decide) (fun h4 => ?_) (fun h4 => absurd h4 (by decide))
    exact aw_fv rfl rfl (by have hx : a = X := hX; rw [hx])
  have l3 : ∀ a : (Nat → Int32) × Nat, a.2 ≤ 240 → adI x [0] a = X → aw_W l g mi_X10_adds (aw_rm 0 0 0) (aw_Z g (fun r w => r = none ∧ w = hp g (tpM s X.1 X.2) n) 0 0) 0 0 (hp g (tpM s a.1 a.2) n) 3 [some (.ref (g_ad g 1)), some (.int x), some (.int 0)] [] := by
    intro a ha hX
    have hl : tpM s a.1 a.2 1 1 = nI a.2 := rfl
    refine aw_iload_n rfl rfl ?_
    refine aw_if_lt (tgt := 55) rfl (by decide) (fun h4 => absurd h4 (by decide)) (fun h4 => ?_)
    refine aw_iload_n rfl rfl ?_
    refine aw_iload_n rfl rfl ?_
    refine aw_iushr rfl rfl ?_
    refine aw_sipush (v := 255) rfl (by decide) ?_
    refine aw_iand rfl ?_
    refine aw_istore_n rfl (by decide) ?_
    refine aw_iload_n rfl rfl ?_
    refine aw_if_eq (tgt := 49) rfl (by decide) (fun h16 => ?_) (fun h16 => ?_)
    · skip
      refine aw_iinc rfl rfl rfl (by decide) ?_
      refine aw_goto (tgt := 3) rfl (by decide) ?_
      first
        | exact aw_wk (l4 a ha (Eq.trans (congrArg (adI x []) (by rw [if_pos (show ush x 0 &&& 255 = 0 from h16)] <;> rfl)) hX)) (And.intro rfl (And.intro rfl (And.intro (congrArg (fun x => some (Value.int x)) (by decide : (0 : Int32) + Int32.ofInt (-8) = (-8))) True.intro)))
        | (have h240 : ¬ a.2 < 240 := fun z => nI_ge (a := a.2) (b := 240) z (by decide) h26
           exact aw_wk (l4 a ha (Eq.trans (congrArg (adI x []) (by rw [if_neg (show ¬ ush x 0 &&& 255 = 0 from h16), if_neg h240] <;> rfl)) hX)) (And.intro rfl (And.intro rfl (And.intro (congrArg (fun x => some (Value.int x)) (by decide : (0 : Int32) + Int32.ofInt (-8) = (-8))) True.intro))))
        | (have h240 : a.2 < 240 := Nat.lt_of_not_le (fun z => h26 (nI_le (b := a.2) (a := 240) z (by omega)))
           refine aw_wk (aw_eqs (l4 (upd a.1 a.2 (ush x 0 &&& 255), a.2 + 1) (by show a.2 + 1 ≤ 240; omega) (Eq.trans (congrArg (adI x []) (by rw [if_neg (show ¬ ush x 0 &&& 255 = 0 from h16), if_pos h240] <;> rfl)) hX)) rfl rfl (congrArg (fun z => hp g z n) ?_)) (And.intro rfl (And.intro rfl (And.intro (congrArg (fun x => some (Value.int x)) (by decide : (0 : Int32) + Int32.ofInt (-8) = (-8))) True.intro)))
           refine Eq.trans ?_ (tpM_w (s := s) (f := a.1) (m := a.2) (v := ush x 0 &&& 255))
           exact congrArg (up _ 1 1) (nI_1 a.2))
    · refine aw_aload_n rfl rfl ?_
      refine pg_1_1 rfl kl_X10_15 ?_
      refine aw_sipush (v := 240) rfl (by decide) ?_
      refine aw_icmp_ge (tgt := 49) rfl (by decide) (fun h26 => ?_) (fun h26 => ?_)
      · skip
        refine aw_iinc rfl rfl rfl (by decide) ?_
        refine aw_goto (tgt := 3) rfl (by decide) ?_
        first
          | exact aw_wk (l4 a ha (Eq.trans (congrArg (adI x []) (by rw [if_pos (show ush x 0 &&& 255 = 0 from h16)] <;> rfl)) hX)) (And.intro rfl (And.intro rfl (And.intro (congrArg (fun x => some (Value.int x)) (by decide : (0 : Int32) + Int32.ofInt (-8) = (-8))) True.intro)))
          | (have h240 : ¬ a.2 < 240 := fun z => nI_ge (a := a.2) (b := 240) z (by decide) h26
             exact aw_wk (l4 a ha (Eq.trans (congrArg (adI x []) (by rw [if_neg (show ¬ ush x 0 &&& 255 = 0 from h16), if_neg h240] <;> rfl)) hX)) (And.intro rfl (And.intro rfl (And.intro (congrArg (fun x => some (Value.int x)) (by decide : (0 : Int32) + Int32.ofInt (-8) = (-8))) True.intro))))
          | (have h240 : a.2 < 240 := Nat.lt_of_not_le (fun z => h26 (nI_le (b := a.2) (a := 240) z (by omega)))
             refine aw_wk (aw_eqs (l4 (upd a.1 a.2 (ush x 0 &&& 255), a.2 + 1) (by show a.2 + 1 ≤ 240; omega) (Eq.trans (congrArg (adI x []) (by rw [if_neg (show ¬ ush x 0 &&& 255 = 0 from h16), if_pos h240] <;> rfl)) hX)) rfl rfl (congrArg (fun z => hp g z n) ?_)) (And.intro rfl (And.intro rfl (And.intro (congrArg (fun x => some (Value.int x)) (by decide : (0 : Int32) + Int32.ofInt (-8) = (-8))) True.intro)))
             refine Eq.trans ?_ (tpM_w (s := s) (f := a.1) (m := a.2) (v := ush x 0 &&& 255))
             exact congrArg (up _ 1 1) (nI_1 a.2))
      · refine aw_aload_n rfl rfl ?_
        refine pg_1_0 rfl kl_X10_11 ?_
        refine aw_aload_n rfl rfl ?_
        refine pg_1_1 rfl kl_X10_15 ?_
        refine aw_iload_n rfl rfl ?_
        refine ps_2 rfl rfl (by have := Nat.lt_of_not_le (fun z => h26 (nI_le (b := a.2) (a := 240) z (by omega))); omega) ?_
        refine aw_aload_n rfl rfl ?_
        refine aw_dup rfl rfl ?_
        refine pg_1_1 rfl kl_X10_15 ?_
        refine aw_iconst (v := 1) rfl (by decide) ?_
        refine aw_iadd rfl ?_
        refine pp_1_1 rfl kl_X10_15 ?_
        skip
        refine aw_iinc rfl rfl rfl (by decide) ?_
        refine aw_goto (tgt := 3) rfl (by decide) ?_
        first
          | exact aw_wk (l4 a ha (Eq.trans (congrArg (adI x []) (by rw [if_pos (show ush x 0 &&& 255 = 0 from h16)] <;> rfl)) hX)) (And.intro rfl (And.intro rfl (And.intro (congrArg (fun x => some (Value.int x)) (by decide : (0 : Int32) + Int32.ofInt (-8) = (-8))) True.intro)))
          | (have h240 : ¬ a.2 < 240 := fun z => nI_ge (a := a.2) (b := 240) z (by decide) h26
             exact aw_wk (l4 a ha (Eq.trans (congrArg (adI x []) (by rw [if_neg (show ¬ ush x 0 &&& 255 = 0 from h16), if_neg h240] <;> rfl)) hX)) (And.intro rfl (And.intro rfl (And.intro (congrArg (fun x => some (Value.int x)) (by decide : (0 : Int32) + Int32.ofInt (-8) = (-8))) True.intro))))
          | (have h240 : a.2 < 240 := Nat.lt_of_not_le (fun z => h26 (nI_le (b := a.2) (a := 240) z (by omega)))
             refine aw_wk (aw_eqs (l4 (upd a.1 a.2 (ush x 0 &&& 255), a.2 + 1) (by show a.2 + 1 ≤ 240; omega) (Eq.trans (congrArg (adI x []) (by rw [if_neg (show ¬ ush x 0 &&& 255 = 0 from h16), if_pos h240] <;> rfl)) hX)) rfl rfl (congrArg (fun z => hp g z n) ?_)) (And.intro rfl (And.intro rfl (And.intro (congrArg (fun x => some (Value.int x)) (by decide : (0 : Int32) + Int32.ofInt (-8) = (-8))) True.intro)))
             refine Eq.trans ?_ (tpM_w (s := s) (f := a.1) (m := a.2) (v := ush x 0 &&& 255))
             exact congrArg (up _ 1 1) (nI_1 a.2))
  have l2 : ∀ a : (Nat → Int32) × Nat, a.2 ≤ 240 → adI x [8, 0] a = X → aw_W l g mi_X10_adds (aw_rm 0 0 0) (aw_Z g (fun r w => r = none ∧ w = hp g (tpM s X.1 X.2) n) 0 0) 0 0 (hp g (tpM s a.1 a.2) n) 3 [some (.ref (g_ad g 1)), some (.int x), some (.int 8)] [] := by
    intro a ha hX
    have hl : tpM s a.1 a.2 1 1 = nI a.2 := rfl
    refine aw_iload_n rfl rfl ?_
    refine aw_if_lt (tgt := 55) rfl (by decide) (fun h4 => absurd h4 (by decide)) (fun h4 => ?_)
    refine aw_iload_n rfl rfl ?_
    refine aw_iload_n rfl rfl ?_
    refine aw_iushr rfl rfl ?_
    refine aw_sipush (v := 255) rfl (by decide) ?_
    refine aw_iand rfl ?_
    refine aw_istore_n rfl (by decide) ?_
    refine aw_iload_n rfl rfl ?_
    refine aw_if_eq (tgt := 49) rfl (by decide) (fun h16 => ?_) (fun h16 => ?_)
    · skip
      refine aw_iinc rfl rfl rfl (by decide) ?_
      refine aw_goto (tgt := 3) rfl (by decide) ?_
      first
        | exact aw_wk (l3 a ha (Eq.trans (congrArg (adI x [0]) (by rw [if_pos (show ush x 8 &&& 255 = 0 from h16)] <;> rfl)) hX)) (And.intro rfl (And.intro rfl (And.intro (congrArg (fun x => some (Value.int x)) (by decide : (8 : Int32) + Int32.ofInt (-8) = 0)) True.intro)))
        | (have h240 : ¬ a.2 < 240 := fun z => nI_ge (a := a.2) (b := 240) z (by decide) h26
           exact aw_wk (l3 a ha (Eq.trans (congrArg (adI x [0]) (by rw [if_neg (show ¬ ush x 8 &&& 255 = 0 from h16), if_neg h240] <;> rfl)) hX)) (And.intro rfl (And.intro rfl (And.intro (congrArg (fun x => some (Value.int x)) (by decide : (8 : Int32) + Int32.ofInt (-8) = 0)) True.intro))))
        | (have h240 : a.2 < 240 := Nat.lt_of_not_le (fun z => h26 (nI_le (b := a.2) (a := 240) z (by omega)))
           refine aw_wk (aw_eqs (l3 (upd a.1 a.2 (ush x 8 &&& 255), a.2 + 1) (by show a.2 + 1 ≤ 240; omega) (Eq.trans (congrArg (adI x [0]) (by rw [if_neg (show ¬ ush x 8 &&& 255 = 0 from h16), if_pos h240] <;> rfl)) hX)) rfl rfl (congrArg (fun z => hp g z n) ?_)) (And.intro rfl (And.intro rfl (And.intro (congrArg (fun x => some (Value.int x)) (by decide : (8 : Int32) + Int32.ofInt (-8) = 0)) True.intro)))
           refine Eq.trans ?_ (tpM_w (s := s) (f := a.1) (m := a.2) (v := ush x 8 &&& 255))
           exact congrArg (up _ 1 1) (nI_1 a.2))
    · refine aw_aload_n rfl rfl ?_
      refine pg_1_1 rfl kl_X10_15 ?_
      refine aw_sipush (v := 240) rfl (by decide) ?_
      refine aw_icmp_ge (tgt := 49) rfl (by decide) (fun h26 => ?_) (fun h26 => ?_)
      · skip
        refine aw_iinc rfl rfl rfl (by decide) ?_
        refine aw_goto (tgt := 3) rfl (by decide) ?_
        first
          | exact aw_wk (l3 a ha (Eq.trans (congrArg (adI x [0]) (by rw [if_pos (show ush x 8 &&& 255 = 0 from h16)] <;> rfl)) hX)) (And.intro rfl (And.intro rfl (And.intro (congrArg (fun x => some (Value.int x)) (by decide : (8 : Int32) + Int32.ofInt (-8) = 0)) True.intro)))
          | (have h240 : ¬ a.2 < 240 := fun z => nI_ge (a := a.2) (b := 240) z (by decide) h26
             exact aw_wk (l3 a ha (Eq.trans (congrArg (adI x [0]) (by rw [if_neg (show ¬ ush x 8 &&& 255 = 0 from h16), if_neg h240] <;> rfl)) hX)) (And.intro rfl (And.intro rfl (And.intro (congrArg (fun x => some (Value.int x)) (by decide : (8 : Int32) + Int32.ofInt (-8) = 0)) True.intro))))
          | (have h240 : a.2 < 240 := Nat.lt_of_not_le (fun z => h26 (nI_le (b := a.2) (a := 240) z (by omega)))
             refine aw_wk (aw_eqs (l3 (upd a.1 a.2 (ush x 8 &&& 255), a.2 + 1) (by show a.2 + 1 ≤ 240; omega) (Eq.trans (congrArg (adI x [0]) (by rw [if_neg (show ¬ ush x 8 &&& 255 = 0 from h16), if_pos h240] <;> rfl)) hX)) rfl rfl (congrArg (fun z => hp g z n) ?_)) (And.intro rfl (And.intro rfl (And.intro (congrArg (fun x => some (Value.int x)) (by decide : (8 : Int32) + Int32.ofInt (-8) = 0)) True.intro)))
             refine Eq.trans ?_ (tpM_w (s := s) (f := a.1) (m := a.2) (v := ush x 8 &&& 255))
             exact congrArg (up _ 1 1) (nI_1 a.2))
      · refine aw_aload_n rfl rfl ?_
        refine pg_1_0 rfl kl_X10_11 ?_
        refine aw_aload_n rfl rfl ?_
        refine pg_1_1 rfl kl_X10_15 ?_
        refine aw_iload_n rfl rfl ?_
        refine ps_2 rfl rfl (by have := Nat.lt_of_not_le (fun z => h26 (nI_le (b := a.2) (a := 240) z (by omega))); omega) ?_
        refine aw_aload_n rfl rfl ?_
        refine aw_dup rfl rfl ?_
        refine pg_1_1 rfl kl_X10_15 ?_
        refine aw_iconst (v := 1) rfl (by decide) ?_
        refine aw_iadd rfl ?_
        refine pp_1_1 rfl kl_X10_15 ?_
        skip
        refine aw_iinc rfl rfl rfl (by decide) ?_
        refine aw_goto (tgt := 3) rfl (by decide) ?_
        first
          | exact aw_wk (l3 a ha (Eq.trans (congrArg (adI x [0]) (by rw [if_pos (show ush x 8 &&& 255 = 0 from h16)] <;> rfl)) hX)) (And.intro rfl (And.intro rfl (And.intro (congrArg (fun x => some (Value.int x)) (by decide : (8 : Int32) + Int32.ofInt (-8) = 0)) True.intro)))
          | (have h240 : ¬ a.2 < 240 := fun z => nI_ge (a := a.2) (b := 240) z (by decide) h26
             exact aw_wk (l3 a ha (Eq.trans (congrArg (adI x [0]) (by rw [if_neg (show ¬ ush x 8 &&& 255 = 0 from h16), if_neg h240] <;> rfl)) hX)) (And.intro rfl (And.intro rfl (And.intro (congrArg (fun x => some (Value.int x)) (by decide : (8 : Int32) + Int32.ofInt (-8) = 0)) True.intro))))
          | (have h240 : a.2 < 240 := Nat.lt_of_not_le (fun z => h26 (nI_le (b := a.2) (a := 240) z (by omega)))
             refine aw_wk (aw_eqs (l3 (upd a.1 a.2 (ush x 8 &&& 255), a.2 + 1) (by show a.2 + 1 ≤ 240; omega) (Eq.trans (congrArg (adI x [0]) (by rw [if_neg (show ¬ ush x 8 &&& 255 = 0 from h16), if_pos h240] <;> rfl)) hX)) rfl rfl (congrArg (fun z => hp g z n) ?_)) (And.intro rfl (And.intro rfl (And.intro (congrArg (fun x => some (Value.int x)) (by decide : (8 : Int32) + Int32.ofInt (-8) = 0)) True.intro)))
             refine Eq.trans ?_ (tpM_w (s := s) (f := a.1) (m := a.2) (v := ush x 8 &&& 255))
             exact congrArg (up _ 1 1) (nI_1 a.2))
  have l1 : ∀ a : (Nat → Int32) × Nat, a.2 ≤ 240 → adI x [16, 8, 0] a = X → aw_W l g mi_X10_adds (aw_rm 0 0 0) (aw_Z g (fun r w => r = none ∧ w = hp g (tpM s X.1 X.2) n) 0 0) 0 0 (hp g (tpM s a.1 a.2) n) 3 [some (.ref (g_ad g 1)), some (.int x), some (.int 16)] [] := by
    intro a ha hX
    have hl : tpM s a.1 a.2 1 1 = nI a.2 := rfl
    refine aw_iload_n rfl rfl ?_
    refine aw_if_lt (tgt := 55) rfl (by decide) (fun h4 => absurd h4 (by decide)) (fun h4 => ?_)
    refine aw_iload_n rfl rfl ?_
    refine aw_iload_n rfl rfl ?_
    refine aw_iushr rfl rfl ?_
    refine aw_sipush (v := 255) rfl (by decide) ?_
    refine aw_iand rfl ?_
    refine aw_istore_n rfl (by decide) ?_
    refine aw_iload_n rfl rfl ?_
    refine aw_if_eq (tgt := 49) rfl (by decide) (fun h16 => ?_) (fun h16 => ?_)
    · skip
      refine aw_iinc rfl rfl rfl (by decide) ?_
      refine aw_goto (tgt := 3) rfl (by decide) ?_
      first
        | exact aw_wk (l2 a ha (Eq.trans (congrArg (adI x [8, 0]) (by rw [if_pos (show ush x 16 &&& 255 = 0 from h16)] <;> rfl)) hX)) (And.intro rfl (And.intro rfl (And.intro (congrArg (fun x => some (Value.int x)) (by decide : (16 : Int32) + Int32.ofInt (-8) = 8)) True.intro)))
        | (have h240 : ¬ a.2 < 240 := fun z => nI_ge (a := a.2) (b := 240) z (by decide) h26
           exact aw_wk (l2 a ha (Eq.trans (congrArg (adI x [8, 0]) (by rw [if_neg (show ¬ ush x 16 &&& 255 = 0 from h16), if_neg h240] <;> rfl)) hX)) (And.intro rfl (And.intro rfl (And.intro (congrArg (fun x => some (Value.int x)) (by decide : (16 : Int32) + Int32.ofInt (-8) = 8)) True.intro))))
        | (have h240 : a.2 < 240 := Nat.lt_of_not_le (fun z => h26 (nI_le (b := a.2) (a := 240) z (by omega)))
           refine aw_wk (aw_eqs (l2 (upd a.1 a.2 (ush x 16 &&& 255), a.2 + 1) (by show a.2 + 1 ≤ 240; omega) (Eq.trans (congrArg (adI x [8, 0]) (by rw [if_neg (show ¬ ush x 16 &&& 255 = 0 from h16), if_pos h240] <;> rfl)) hX)) rfl rfl (congrArg (fun z => hp g z n) ?_)) (And.intro rfl (And.intro rfl (And.intro (congrArg (fun x => some (Value.int x)) (by decide : (16 : Int32) + Int32.ofInt (-8) = 8)) True.intro)))
           refine Eq.trans ?_ (tpM_w (s := s) (f := a.1) (m := a.2) (v := ush x 16 &&& 255))
           exact congrArg (up _ 1 1) (nI_1 a.2))
    · refine aw_aload_n rfl rfl ?_
      refine pg_1_1 rfl kl_X10_15 ?_
      refine aw_sipush (v := 240) rfl (by decide) ?_
      refine aw_icmp_ge (tgt := 49) rfl (by decide) (fun h26 => ?_) (fun h26 => ?_)
      · skip
        refine aw_iinc rfl rfl rfl (by decide) ?_
        refine aw_goto (tgt := 3) rfl (by decide) ?_
        first
          | exact aw_wk (l2 a ha (Eq.trans (congrArg (adI x [8, 0]) (by rw [if_pos (show ush x 16 &&& 255 = 0 from h16)] <;> rfl)) hX)) (And.intro rfl (And.intro rfl (And.intro (congrArg (fun x => some (Value.int x)) (by decide : (16 : Int32) + Int32.ofInt (-8) = 8)) True.intro)))
          | (have h240 : ¬ a.2 < 240 := fun z => nI_ge (a := a.2) (b := 240) z (by decide) h26
             exact aw_wk (l2 a ha (Eq.trans (congrArg (adI x [8, 0]) (by rw [if_neg (show ¬ ush x 16 &&& 255 = 0 from h16), if_neg h240] <;> rfl)) hX)) (And.intro rfl (And.intro rfl (And.intro (congrArg (fun x => some (Value.int x)) (by decide : (16 : Int32) + Int32.ofInt (-8) = 8)) True.intro))))
          | (have h240 : a.2 < 240 := Nat.lt_of_not_le (fun z => h26 (nI_le (b := a.2) (a := 240) z (by omega)))
             refine aw_wk (aw_eqs (l2 (upd a.1 a.2 (ush x 16 &&& 255), a.2 + 1) (by show a.2 + 1 ≤ 240; omega) (Eq.trans (congrArg (adI x [8, 0]) (by rw [if_neg (show ¬ ush x 16 &&& 255 = 0 from h16), if_pos h240] <;> rfl)) hX)) rfl rfl (congrArg (fun z => hp g z n) ?_)) (And.intro rfl (And.intro rfl (And.intro (congrArg (fun x => some (Value.int x)) (by decide : (16 : Int32) + Int32.ofInt (-8) = 8)) True.intro)))
             refine Eq.trans ?_ (tpM_w (s := s) (f := a.1) (m := a.2) (v := ush x 16 &&& 255))
             exact congrArg (up _ 1 1) (nI_1 a.2))
      · refine aw_aload_n rfl rfl ?_
        refine pg_1_0 rfl kl_X10_11 ?_
        refine aw_aload_n rfl rfl ?_
        refine pg_1_1 rfl kl_X10_15 ?_
        refine aw_iload_n rfl rfl ?_
        refine ps_2 rfl rfl (by have := Nat.lt_of_not_le (fun z => h26 (nI_le (b := a.2) (a := 240) z (by omega))); omega) ?_
        refine aw_aload_n rfl rfl ?_
        refine aw_dup rfl rfl ?_
        refine pg_1_1 rfl kl_X10_15 ?_
        refine aw_iconst (v := 1) rfl (by decide) ?_
        refine aw_iadd rfl ?_
        refine pp_1_1 rfl kl_X10_15 ?_
        skip
        refine aw_iinc rfl rfl rfl (by decide) ?_
        refine aw_goto (tgt := 3) rfl (by decide) ?_
        first
          | exact aw_wk (l2 a ha (Eq.trans (congrArg (adI x [8, 0]) (by rw [if_pos (show ush x 16 &&& 255 = 0 from h16)] <;> rfl)) hX)) (And.intro rfl (And.intro rfl (And.intro (congrArg (fun x => some (Value.int x)) (by decide : (16 : Int32) + Int32.ofInt (-8) = 8)) True.intro)))
          | (have h240 : ¬ a.2 < 240 := fun z => nI_ge (a := a.2) (b := 240) z (by decide) h26
             exact aw_wk (l2 a ha (Eq.trans (congrArg (adI x [8, 0]) (by rw [if_neg (show ¬ ush x 16 &&& 255 = 0 from h16), if_neg h240] <;> rfl)) hX)) (And.intro rfl (And.intro rfl (And.intro (congrArg (fun x => some (Value.int x)) (by decide : (16 : Int32) + Int32.ofInt (-8) = 8)) True.intro))))
          | (have h240 : a.2 < 240 := Nat.lt_of_not_le (fun z => h26 (nI_le (b := a.2) (a := 240) z (by omega)))
             refine aw_wk (aw_eqs (l2 (upd a.1 a.2 (ush x 16 &&& 255), a.2 + 1) (by show a.2 + 1 ≤ 240; omega) (Eq.trans (congrArg (adI x [8, 0]) (by rw [if_neg (show ¬ ush x 16 &&& 255 = 0 from h16), if_pos h240] <;> rfl)) hX)) rfl rfl (congrArg (fun z => hp g z n) ?_)) (And.intro rfl (And.intro rfl (And.intro (congrArg (fun x => some (Value.int x)) (by decide : (16 : Int32) + Int32.ofInt (-8) = 8)) True.intro)))
             refine Eq.trans ?_ (tpM_w (s := s) (f := a.1) (m := a.2) (v := ush x 16 &&& 255))
             exact congrArg (up _ 1 1) (nI_1 a.2))
  have l0 : ∀ a : (Nat → Int32) × Nat, a.2 ≤ 240 → adI x [24, 16, 8, 0] a = X → aw_W l g mi_X10_adds (aw_rm 0 0 0) (aw_Z g (fun r w => r = none ∧ w = hp g (tpM s X.1 X.2) n) 0 0) 0 0 (hp g (tpM s a.1 a.2) n) 3 [some (.ref (g_ad g 1)), some (.int x), some (.int 24)] [] := by
    intro a ha hX
    have hl : tpM s a.1 a.2 1 1 = nI a.2 := rfl
    refine aw_iload_n rfl rfl ?_
    refine aw_if_lt (tgt := 55) rfl (by decide) (fun h4 => absurd h4 (by decide)) (fun h4 => ?_)
    refine aw_iload_n rfl rfl ?_
    refine aw_iload_n rfl rfl ?_
    refine aw_iushr rfl rfl ?_
    refine aw_sipush (v := 255) rfl (by decide) ?_
    refine aw_iand rfl ?_
    refine aw_istore_n rfl (by decide) ?_
    refine aw_iload_n rfl rfl ?_
    refine aw_if_eq (tgt := 49) rfl (by decide) (fun h16 => ?_) (fun h16 => ?_)
    · skip
      refine aw_iinc rfl rfl rfl (by decide) ?_
      refine aw_goto (tgt := 3) rfl (by decide) ?_
      first
        | exact aw_wk (l1 a ha (Eq.trans (congrArg (adI x [16, 8, 0]) (by rw [if_pos (show ush x 24 &&& 255 = 0 from h16)] <;> rfl)) hX)) (And.intro rfl (And.intro rfl (And.intro (congrArg (fun x => some (Value.int x)) (by decide : (24 : Int32) + Int32.ofInt (-8) = 16)) True.intro)))
        | (have h240 : ¬ a.2 < 240 := fun z => nI_ge (a := a.2) (b := 240) z (by decide) h26
           exact aw_wk (l1 a ha (Eq.trans (congrArg (adI x [16, 8, 0]) (by rw [if_neg (show ¬ ush x 24 &&& 255 = 0 from h16), if_neg h240] <;> rfl)) hX)) (And.intro rfl (And.intro rfl (And.intro (congrArg (fun x => some (Value.int x)) (by decide : (24 : Int32) + Int32.ofInt (-8) = 16)) True.intro))))
        | (have h240 : a.2 < 240 := Nat.lt_of_not_le (fun z => h26 (nI_le (b := a.2) (a := 240) z (by omega)))
           refine aw_wk (aw_eqs (l1 (upd a.1 a.2 (ush x 24 &&& 255), a.2 + 1) (by show a.2 + 1 ≤ 240; omega) (Eq.trans (congrArg (adI x [16, 8, 0]) (by rw [if_neg (show ¬ ush x 24 &&& 255 = 0 from h16), if_pos h240] <;> rfl)) hX)) rfl rfl (congrArg (fun z => hp g z n) ?_)) (And.intro rfl (And.intro rfl (And.intro (congrArg (fun x => some (Value.int x)) (by decide : (24 : Int32) + Int32.ofInt (-8) = 16)) True.intro)))
           refine Eq.trans ?_ (tpM_w (s := s) (f := a.1) (m := a.2) (v := ush x 24 &&& 255))
           exact congrArg (up _ 1 1) (nI_1 a.2))
    · refine aw_aload_n rfl rfl ?_
      refine pg_1_1 rfl kl_X10_15 ?_
      refine aw_sipush (v := 240) rfl (by decide) ?_
      refine aw_icmp_ge (tgt := 49) rfl (by decide) (fun h26 => ?_) (fun h26 => ?_)
      · skip
        refine aw_iinc rfl rfl rfl (by decide) ?_
        refine aw_goto (tgt := 3) rfl (by decide) ?_
        first
          | exact aw_wk (l1 a ha (Eq.trans (congrArg (adI x [16, 8, 0]) (by rw [if_pos (show ush x 24 &&& 255 = 0 from h16)] <;> rfl)) hX)) (And.intro rfl (And.intro rfl (And.intro (congrArg (fun x => some (Value.int x)) (by decide : (24 : Int32) + Int32.ofInt (-8) = 16)) True.intro)))
          | (have h240 : ¬ a.2 < 240 := fun z => nI_ge (a := a.2) (b := 240) z (by decide) h26
             exact aw_wk (l1 a ha (Eq.trans (congrArg (adI x [16, 8, 0]) (by rw [if_neg (show ¬ ush x 24 &&& 255 = 0 from h16), if_neg h240] <;> rfl)) hX)) (And.intro rfl (And.intro rfl (And.intro (congrArg (fun x => some (Value.int x)) (by decide : (24 : Int32) + Int32.ofInt (-8) = 16)) True.intro))))
          | (have h240 : a.2 < 240 := Nat.lt_of_not_le (fun z => h26 (nI_le (b := a.2) (a := 240) z (by omega)))
             refine aw_wk (aw_eqs (l1 (upd a.1 a.2 (ush x 24 &&& 255), a.2 + 1) (by show a.2 + 1 ≤ 240; omega) (Eq.trans (congrArg (adI x [16, 8, 0]) (by rw [if_neg (show ¬ ush x 24 &&& 255 = 0 from h16), if_pos h240] <;> rfl)) hX)) rfl rfl (congrArg (fun z => hp g z n) ?_)) (And.intro rfl (And.intro rfl (And.intro (congrArg (fun x => some (Value.int x)) (by decide : (24 : Int32) + Int32.ofInt (-8) = 16)) True.intro)))
             refine Eq.trans ?_ (tpM_w (s := s) (f := a.1) (m := a.2) (v := ush x 24 &&& 255))
             exact congrArg (up _ 1 1) (nI_1 a.2))
      · refine aw_aload_n rfl rfl ?_
        refine pg_1_0 rfl kl_X10_11 ?_
        refine aw_aload_n rfl rfl ?_
        refine pg_1_1 rfl kl_X10_15 ?_
        refine aw_iload_n rfl rfl ?_
        refine ps_2 rfl rfl (by have := Nat.lt_of_not_le (fun z => h26 (nI_le (b := a.2) (a := 240) z (by omega))); omega) ?_
        refine aw_aload_n rfl rfl ?_
        refine aw_dup rfl rfl ?_
        refine pg_1_1 rfl kl_X10_15 ?_
        refine aw_iconst (v := 1) rfl (by decide) ?_
        refine aw_iadd rfl ?_
        refine pp_1_1 rfl kl_X10_15 ?_
        skip
        refine aw_iinc rfl rfl rfl (by decide) ?_
        refine aw_goto (tgt := 3) rfl (by decide) ?_
        first
          | exact aw_wk (l1 a ha (Eq.trans (congrArg (adI x [16, 8, 0]) (by rw [if_pos (show ush x 24 &&& 255 = 0 from h16)] <;> rfl)) hX)) (And.intro rfl (And.intro rfl (And.intro (congrArg (fun x => some (Value.int x)) (by decide : (24 : Int32) + Int32.ofInt (-8) = 16)) True.intro)))
          | (have h240 : ¬ a.2 < 240 := fun z => nI_ge (a := a.2) (b := 240) z (by decide) h26
             exact aw_wk (l1 a ha (Eq.trans (congrArg (adI x [16, 8, 0]) (by rw [if_neg (show ¬ ush x 24 &&& 255 = 0 from h16), if_neg h240] <;> rfl)) hX)) (And.intro rfl (And.intro rfl (And.intro (congrArg (fun x => some (Value.int x)) (by decide : (24 : Int32) + Int32.ofInt (-8) = 16)) True.intro))))
          | (have h240 : a.2 < 240 := Nat.lt_of_not_le (fun z => h26 (nI_le (b := a.2) (a := 240) z (by omega)))
             refine aw_wk (aw_eqs (l1 (upd a.1 a.2 (ush x 24 &&& 255), a.2 + 1) (by show a.2 + 1 ≤ 240; omega) (Eq.trans (congrArg (adI x [16, 8, 0]) (by rw [if_neg (show ¬ ush x 24 &&& 255 = 0 from h16), if_pos h240] <;> rfl)) hX)) rfl rfl (congrArg (fun z => hp g z n) ?_)) (And.intro rfl (And.intro rfl (And.intro (congrArg (fun x => some (Value.int x)) (by decide : (24 : Int32) + Int32.ofInt (-8) = 16)) True.intro)))
             refine Eq.trans ?_ (tpM_w (s := s) (f := a.1) (m := a.2) (v := ush x 24 &&& 255))
             exact congrArg (up _ 1 1) (nI_1 a.2))
  refine aw_V_of mo_X10_adds (by decide) (Nat.le_of_ble_eq_true rfl) ?_
  refine aw_bipush (v := 24) rfl (by decide) ?_
  refine aw_istore_n rfl (by decide) ?_
  have := l0 (s 2, m) hm4 hXX
  rw [show tpM s ((s 2, m) : (Nat → Int32) × Nat).1 ((s 2, m) : (Nat → Int32) × Nat).2 = s from tpM_rf hm] at this
  exact aw_wk this (And.intro rfl (And.intro rfl (And.intro rfl True.intro)))
def sk32 (f : Nat → Int32) : Nat → Nat → Nat
  | a, 0 => a
  | a, d + 1 => if f a = 32 then sk32 f (a + 1) d else a
/-- where the next sign stands -/
def sA (f : Nat → Int32) (m a : Nat) : Nat := sk32 f a (m - a)
def sgn (f : Nat → Int32) (m a : Nat) : Int32 := if a < m then f a else -1
def tA (s : am_S) (a : Nat) : am_S := up s 1 2 (nI a)
theorem sk32_le (f : Nat → Int32) : ∀ (d a : Nat), a ≤ sk32 f a d ∧ sk32 f a d ≤ a + d
  | 0, a => ⟨Nat.le_refl _, Nat.le_refl _⟩
  | d + 1, a => by
    simp only [sk32]
    split
    · have := sk32_le f d (a + 1); omega
    · omega
theorem sA_le {f : Nat → Int32} {m a : Nat} (h : a ≤ m) : a ≤ sA f m a ∧ sA f m a ≤ m := by have := sk32_le f (m - a) a; unfold sA; omega
set_option maxRecDepth 4000 in
theorem c_X10_sign {l : Launch} {g : ag_G} {s : am_S} {n : am_N} {m a : Nat} (hm : s 1 1 = nI m) (hm4 : m ≤ 240) (ha : s 1 2 = nI a) (ham : a ≤ m) : aw_F l g mi_X10_sign 0 [.ref (g_ad g 1)] (hp g s n) (.int (sgn (s 2) m (sA (s 2) m a))) (hp g (tA s (sA (s 2) m a)) n) := by
  unfold sA
  generalize hXX : sk32 (s 2) a (m - a) = X
  have loop : ∀ (d i : Nat) , i + d = m → sk32 (s 2) i d = X → aw_W l g mi_X10_sign (aw_rm 0 0 0) (aw_Z g (fun r w => r = some (.int (sgn (s 2) m X)) ∧ w = hp g (tA s X) n) 0 0) 0 0 (hp g (tA s i) n) 0 [some (.ref (g_ad g 1))] [] := by
    intro d
    induction d with
    | zero =>
      intro i hi hX
      refine aw_aload_n rfl rfl ?_
      refine pg_1_2 rfl kl_X10_19 ?_
      refine aw_aload_n rfl rfl ?_
      refine pg_1_1 rfl kl_X10_15 ?_
      refine aw_icmp_ge (tgt := 48) rfl (by decide) (fun h8 => ?_) (fun h8 => absurd (by rw [show tA s i 1 1 = s 1 1 from rfl, hm]; exact nI_le (by omega) (by omega)) h8)
      refine aw_iconst (v := -1) rfl (by decide) ?_
      exact aw_fi rfl rfl (by have hx : i = X := hX; rw [← hx]; unfold sgn; rw [if_neg (by omega)]) (by have hx : i = X := hX; rw [hx])
    | succ d ih =>
      intro i hi hX
      refine aw_aload_n rfl rfl ?_
      refine pg_1_2 rfl kl_X10_19 ?_
      refine aw_aload_n rfl rfl ?_
      refine pg_1_1 rfl kl_X10_15 ?_
      refine aw_icmp_ge (tgt := 48) rfl (by decide) (fun h8 => absurd h8 (by rw [show tA s i 1 1 = s 1 1 from rfl, hm]; exact nI_ge (by omega) (by omega))) (fun h8 => ?_)
      refine aw_aload_n rfl rfl ?_
      refine pg_1_0 rfl kl_X10_11 ?_
      refine aw_aload_n rfl rfl ?_
      refine pg_1_2 rfl kl_X10_19 ?_
      refine pl_2 rfl rfl (by omega) ?_
      refine aw_bipush (v := 32) rfl (by decide) ?_
      refine aw_icmp_eq (tgt := 35) rfl (by decide) (fun h22 => ?_) (fun h22 => ?_)
      · refine aw_aload_n rfl rfl ?_
        refine aw_dup rfl rfl ?_
        refine pg_1_2 rfl kl_X10_19 ?_
        refine aw_iconst (v := 1) rfl (by decide) ?_
        refine aw_iadd rfl ?_
        refine pp_1_2 rfl kl_X10_19 ?_
        refine aw_goto (tgt := 0) rfl (by decide) ?_
        refine aw_eqs (aw_wk (ih (i + 1) (by omega) (by rw [← hX]; simp only [sk32]; rw [if_pos (show s 2 i = 32 from h22)])) (And.intro rfl True.intro)) rfl rfl (congrArg (fun z => hp g z n) ?_)
        unfold tA; rw [up_up]; exact congrArg (up s 1 2) (nI_1 i)
      · refine aw_aload_n rfl rfl ?_
        refine pg_1_0 rfl kl_X10_11 ?_
        refine aw_aload_n rfl rfl ?_
        refine pg_1_2 rfl kl_X10_19 ?_
        refine pl_2 rfl rfl (by omega) ?_
        exact aw_fi rfl rfl (by have hx : i = X := (by rw [← hX]; simp only [sk32]; rw [if_neg (show ¬ s 2 i = 32 from h22)]); rw [← hx]; unfold sgn; rw [if_pos (by omega)]; rfl) (by have hx : i = X := (by rw [← hX]; simp only [sk32]; rw [if_neg (show ¬ s 2 i = 32 from h22)]); rw [hx])
  refine aw_F_of mo_X10_sign (by decide) (Nat.le_of_ble_eq_true rfl) ?_
  have := loop (m - a) a (by omega) hXX
  rw [show tA s a = s from up_rf ha] at this
  exact aw_wk this (And.intro rfl True.intro)
set_option maxRecDepth 4000 in
theorem c_X10_passes {l : Launch} {g : ag_G} {s : am_S} {n : am_N} {x : Int32} {m a : Nat} (hm : s 1 1 = nI m) (hm4 : m ≤ 240) (ha : s 1 2 = nI a) (ham : a ≤ m) : aw_F l g mi_X10_passes 1 [.ref (g_ad g 1), .int x] (hp g s n) (.int (bB (decide (sgn (s 2) m (sA (s 2) m a) = x)))) (hp g (if sgn (s 2) m (sA (s 2) m a) = x then tA s (sA (s 2) m a + 1) else tA s (sA (s 2) m a)) n) := by
  refine aw_F_of mo_X10_passes (by decide) (Nat.le_of_ble_eq_true rfl) ?_
  refine aw_aload_n rfl rfl ?_
  refine aw_iV (q0 := 1) (ci := 10) rfl cw_X10_22 rfl rfl rfl (c_X10_sign hm hm4 ha ham) rfl rfl (Nat.le_of_ble_eq_true rfl) (by decide) (by decide) (by decide) (by decide) ?_
  refine aw_iload_n rfl rfl ?_
  refine aw_icmp_eq (tgt := 10) rfl (by decide) (fun h5 => ?_) (fun h5 => ?_)
  · refine aw_aload_n rfl rfl ?_
    refine aw_dup rfl rfl ?_
    refine pg_1_2 rfl kl_X10_19 ?_
    refine aw_iconst (v := 1) rfl (by decide) ?_
    refine aw_iadd rfl ?_
    refine pp_1_2 rfl kl_X10_19 ?_
    refine aw_iconst (v := 1) rfl (by decide) ?_
    exact aw_fz rfl rfl (Or.inr rfl) (by simp [(by simpa using h5 : sgn (s 2) m (sA (s 2) m a) = x), bB]) (by rw [if_pos (by simpa using h5)]; refine congrArg (fun z => hp g z n) ?_; unfold tA; rw [up_up]; exact congrArg (up s 1 2) (nI_1 _))
  · refine aw_iconst (v := 0) rfl (by decide) ?_
    exact aw_fz rfl rfl (Or.inl rfl) (by simp [h5, bB]) (by rw [if_neg h5])
