theorem cpy_s {f g : Nat → Int32} {sp dp i : Nat} : upd (va_cpy f g sp dp i) (dp + i) (f (sp + i)) = va_cpy f g sp dp (i + 1) := by
  funext k
  by_cases e : k = dp + i
  · subst e
    rw [pk_us, pk_cpy_in (by omega) (by omega)]
    congr 1
    omega
  · rw [pk_un e]
    by_cases h : dp ≤ k ∧ k < dp + i
    · rw [pk_cpy_in h.1 h.2, pk_cpy_in h.1 (by omega)]
    · rw [pk_cpy_out (by omega), pk_cpy_out (by omega)]
theorem cpy_0 {f g : Nat → Int32} {sp dp : Nat} : va_cpy f g sp dp 0 = g := by
  funext k
  exact pk_cpy_out (by omega)
def mRu (U N : Nat → Int32) (a : Nat) : Nat → Int32 := va_cpy N (if a = 40 then va_cpy U U 217 0 8463 else U) 0 (217 * (if a = 40 then 39 else a)) 217
def mRem (s : am_S) (a : Nat) : am_S := up (upR s 56 (mRu (s 56) (s 52) a)) 39 39 (nI (min 40 (a + 1)))
theorem upR_upR {s : am_S} {k : Nat} {f h : Nat → Int32} : upR (upR s k f) k h = upR s k h := by
  funext k'
  unfold upR
  cases hb : Nat.beq k' k with
  | true => rfl
  | false => rfl
theorem upR_comm {s : am_S} {k k' i : Nat} {f : Nat → Int32} {v : Int32} (h : Nat.beq k k' = false) (h' : Nat.beq k' k = false) : up (upR s k f) k' i v = upR (up s k' i v) k f := by
  funext q
  cases h1 : Nat.beq q k with
  | true =>
    have e := Nat.eq_of_beq_eq_true h1
    subst e
    simp only [up, upR, h, h', h1, cond_true, cond_false]
  | false =>
    cases h2 : Nat.beq q k' with
    | true =>
      have e := Nat.eq_of_beq_eq_true h2
      subst e
      simp only [up, upR, h, h', h2, cond_true, cond_false]
    | false => simp only [up, upR, h1, h2, cond_false]
set_option maxRecDepth 4000 in
theorem c_m_remember {l : Launch} {g : ag_G} {s : am_S} {n : am_N} {a : Nat} (ha : s 39 39 = nI a) (ha4 : a ≤ 40) : aw_V l g mi_X12_remember 0 [.ref (g_ad g 39)] (hp g s n) (hp g (mRem s a) n) := by
  have loop2 : ∀ (b : Nat) (U : Nat → Int32), b < 40 → upR (up s 39 39 (nI (b + 1))) 56 (va_cpy (s 52) U 0 (217 * b) 217) = mRem s a → ∀ (d i : Nat), i + d = 217 → aw_W l g mi_X12_remember (aw_rm 0 0 0) (aw_Z g (fun r w => r = none ∧ w = hp g (mRem s a) n) 0 0) 0 0 (hp g (upR (up s 39 39 (nI b)) 56 (va_cpy (s 52) U 0 (217 * b) i)) n) 52 [some (.ref (g_ad g 39)), some (.int (nI i))] [] := by
    intro b U hb hU d
    induction d with
    | zero =>
      intro i hi
      obtain rfl : i = 217 := by omega
      refine aw_iload_n rfl rfl ?_
      refine aw_sipush (v := 217) rfl (by decide) ?_
      refine aw_icmp_ge (tgt := 86) rfl (by decide) (fun h56 => ?_) (fun h56 => absurd (by decide) h56)
      refine aw_aload_n rfl rfl ?_
      refine aw_dup rfl rfl ?_
      refine pg_39_39 rfl kl_X12_303 ?_
      refine aw_iconst (v := 1) rfl (by decide) ?_
      refine aw_iadd rfl ?_
      refine pp_39_39 rfl kl_X12_303 ?_
      exact aw_fv rfl rfl (congrArg (fun z => hp g z n) (Eq.trans (by rw [upR_comm rfl rfl, up_up, show upR (up s 39 39 (nI b)) 56 (va_cpy (s 52) U 0 (217 * b) 217) 39 39 + 1 = nI (b + 1) from nI_1 b]) hU))
    | succ d ih =>
      intro i hi
      refine aw_iload_n rfl rfl ?_
      refine aw_sipush (v := 217) rfl (by decide) ?_
      refine aw_icmp_ge (tgt := 86) rfl (by decide) (fun h56 => absurd h56 (nI_ge (b := 217) (by omega) (by decide))) (fun h56 => ?_)
      refine aw_aload_n rfl rfl ?_
      refine pg_39_38 rfl kl_X12_78 ?_
      refine aw_sipush (v := 217) rfl (by decide) ?_
      refine aw_aload_n rfl rfl ?_
      refine pg_39_39 rfl kl_X12_303 ?_
      refine aw_imul rfl ?_
      refine aw_iload_n rfl rfl ?_
      refine aw_iadd rfl ?_
      refine aw_aload_n rfl rfl ?_
      refine pg_39_32 rfl kl_X12_61 ?_
      refine aw_iload_n rfl rfl ?_
      refine pl_52 rfl rfl (by omega) ?_
      refine ps_56 rfl (show (217 : Int32) * nI b + nI i = nI (217 * b + i) from by (rw [show (217 : Int32) * nI b = nI (217 * b) from pk_mul 217 b]; exact nI_add _ _)) (by omega) ?_
      refine aw_inc1 rfl rfl (by decide) ?_
      refine aw_goto (tgt := 52) rfl (by decide) ?_
      refine aw_wk (aw_eqs (ih (i + 1) (by omega)) rfl rfl (congrArg (fun z => hp g z n) ?_)) (And.intro rfl (And.intro (congrArg (fun x => some (Value.int x)) (nI_1 i)) True.intro))
      rw [upR_up, ← cpy_s, Nat.zero_add]; rfl
  have loop1 : a = 40 → ∀ (d i : Nat), i + d = 8463 → aw_W l g mi_X12_remember (aw_rm 0 0 0) (aw_Z g (fun r w => r = none ∧ w = hp g (mRem s a) n) 0 0) 0 0 (hp g (upR s 56 (va_cpy (s 56) (s 56) 217 0 i)) n) 11 [some (.ref (g_ad g 39)), some (.int (nI i))] [] := by
    intro h40 d
    induction d with
    | zero =>
      intro i hi
      obtain rfl : i = 8463 := by omega
      refine aw_iload_n rfl rfl ?_
      refine aw_sipush (v := 8463) rfl (by decide) ?_
      refine aw_icmp_ge (tgt := 40) rfl (by decide) (fun h15 => ?_) (fun h15 => absurd (by decide) h15)
      refine aw_aload_n rfl rfl ?_
      refine aw_dup rfl rfl ?_
      refine pg_39_39 rfl kl_X12_303 ?_
      refine aw_iconst (v := 1) rfl (by decide) ?_
      refine aw_isub rfl ?_
      refine pp_39_39 rfl kl_X12_303 ?_
      refine aw_iconst (v := 0) rfl (by decide) ?_
      refine aw_istore_n rfl (by decide) ?_
      refine aw_wk (aw_eqs (loop2 39 (va_cpy (s 56) (s 56) 217 0 8463) (by decide) ?_ 217 0 (by decide)) rfl rfl (congrArg (fun z => hp g z n) ?_)) (And.intro rfl (And.intro rfl True.intro))
      · unfold mRem mRu; rw [h40]; simp only [if_true]; rw [upR_comm rfl rfl]; rfl
      · rw [cpy_0, upR_comm rfl rfl, show upR s 56 (va_cpy (s 56) (s 56) 217 0 8463) 39 39 - 1 = nI 39 from by (show s 39 39 - 1 = nI 39; rw [ha, h40]; exact nI_m1 (by decide))]
    | succ d ih =>
      intro i hi
      refine aw_iload_n rfl rfl ?_
      refine aw_sipush (v := 8463) rfl (by decide) ?_
      refine aw_icmp_ge (tgt := 40) rfl (by decide) (fun h15 => absurd h15 (nI_ge (b := 8463) (by omega) (by decide))) (fun h15 => ?_)
      refine aw_aload_n rfl rfl ?_
      refine pg_39_38 rfl kl_X12_78 ?_
      refine aw_iload_n rfl rfl ?_
      refine aw_aload_n rfl rfl ?_
      refine pg_39_38 rfl kl_X12_78 ?_
      refine aw_iload_n rfl rfl ?_
      refine aw_sipush (v := 217) rfl (by decide) ?_
      refine aw_iadd rfl ?_
      refine pl_56 rfl (nI_add i 217) (by omega) ?_
      refine ps_56 rfl rfl (by omega) ?_
      refine aw_inc1 rfl rfl (by decide) ?_
      refine aw_goto (tgt := 11) rfl (by decide) ?_
      refine aw_wk (aw_eqs (ih (i + 1) (by omega)) rfl rfl (congrArg (fun z => hp g z n) ?_)) (And.intro rfl (And.intro (congrArg (fun x => some (Value.int x)) (nI_1 i)) True.intro))
      rw [upR_up, ← cpy_s, Nat.zero_add, show upR s 56 (va_cpy (s 56) (s 56) 217 0 i) 56 (i + 217) = s 56 (217 + i) from by (rw [upR_s, pk_cpy_out (by omega), Nat.add_comm])]
  refine aw_V_of mo_X12_remember (by decide) (Nat.le_of_ble_eq_true rfl) ?_
  refine aw_aload_n rfl rfl ?_
  refine pg_39_39 rfl kl_X12_303 ?_
  refine aw_bipush (v := 40) rfl (by decide) ?_
  refine aw_icmp_ne (tgt := 50) rfl (by decide) (fun h6 => ?_) (fun h6 => ?_)
  · have h40 : ¬ a = 40 := fun z => h6 (by rw [ha, z]; rfl)
    refine aw_iconst (v := 0) rfl (by decide) ?_
    refine aw_istore_n rfl (by decide) ?_
    refine aw_wk (aw_eqs (loop2 a (s 56) (by omega) ?_ 217 0 (by decide)) rfl rfl (congrArg (fun z => hp g z n) (by rw [cpy_0, up_rf ha, upR_rf]))) (And.intro rfl (And.intro rfl True.intro))
    unfold mRem mRu; rw [if_neg h40, if_neg h40, upR_comm rfl rfl, Nat.min_eq_right (by omega)]
  · have h40 : a = 40 := (nI_eq (b := 40) (by omega) (by decide)).mp (by rw [← ha]; exact h6)
    refine aw_iconst (v := 0) rfl (by decide) ?_
    refine aw_istore_n rfl (by decide) ?_
    refine aw_wk (aw_eqs (loop1 h40 8463 0 (by decide)) rfl rfl (congrArg (fun z => hp g z n) (by rw [cpy_0, upR_rf]))) (And.intro rfl (And.intro rfl True.intro))
