theorem upR_up {s : am_S} {k : Nat} {f : Nat → Int32} {i : Nat} {v : Int32} : up (upR s k f) k i v = upR s k (upd f i v) := by
  funext k'
  unfold up upR
  cases h : Nat.beq k' k with
  | true => simp
  | false => rfl
theorem upR_s {s : am_S} {k : Nat} {f : Nat → Int32} : upR s k f k = f := by unfold upR; rw [Nat.beq_refl]; rfl
theorem upR_rf {s : am_S} {k : Nat} : upR s k (s k) = s := by
  funext k'
  unfold upR
  cases h : Nat.beq k' k with
  | true => rw [Nat.eq_of_beq_eq_true h]; rfl
  | false => rfl
/-- one is put in its place among those ahead -/
def insL (x : Int32) : Nat → (Nat → Int32) → (Nat → Int32)
  | 0, f => upd f 0 x
  | p + 1, f => if f p ≤ x then upd f (p + 1) x else insL x p (upd f (p + 1) (f p))
def srtF (s : am_S) (i : Nat) (f : Nat → Int32) : Nat → Int32 := insL (s 16 (5 + i)) i f

set_option maxRecDepth 4000 in
theorem c_X3_sortsSuns {l : Launch} {g : ag_G} {s : am_S} {n : am_N} {T Q : Nat} (hb : kb s T Q) : aw_V l g mi_X3_sortsSuns 1 [.ref (g_ad g 27)] (hp g s n) (hp g (upR s 29 (fd (srtF s) 0 T (s 29))) n) := by
  have hT := hb.2.1
  generalize hXX : fd (srtF s) 0 T (s 29) = X
  have row : ∀ (i : Nat) (x : Int32) (Y : Nat → Int32), i < T → aw_W l g mi_X3_sortsSuns (aw_rm 1 0 0) (aw_Z g (fun r w => r = none ∧ w = hp g (upR s 29 X) n) 0 0) 0 0 (hp g (upR s 29 Y) n) 70 [some (.ref (g_ad g 27)), some (.int (nI i))] [] → ∀ (p : Nat) (f : Nat → Int32), p ≤ i → insL x p f = Y → aw_W l g mi_X3_sortsSuns (aw_rm 1 0 0) (aw_Z g (fun r w => r = none ∧ w = hp g (upR s 29 X) n) 0 0) 0 0 (hp g (upR s 29 f) n) 27 [some (.ref (g_ad g 27)), some (.int (nI i)), some (.int x), some (.int (nI p))] [] := by
    intro i x Y hi kont p
    induction p with
    | zero =>
      intro f hp hX
      refine aw_iload_n rfl rfl ?_
      refine aw_if_le (tgt := 63) rfl (by decide) (fun h28 => ?_) (fun h28 => absurd (by decide) h28)
      refine aw_aload_n rfl rfl ?_
      refine pg_27_2 rfl kl_X3_17 ?_
      refine aw_iload_n rfl rfl ?_
      refine aw_iload_n rfl rfl ?_
      refine ps_29 rfl rfl (by omega) ?_
      rw [upR_up]
      have hx : upd f 0 x = Y := hX
      rw [hx]
      exact aw_wk kont (And.intro rfl (And.intro rfl True.intro))
    | succ p ih =>
      intro f hp hX
      refine aw_iload_n rfl rfl ?_
      refine aw_if_le (tgt := 63) rfl (by decide) (fun h28 => absurd h28 (by exact nI_nle (by omega) (by omega))) (fun h28 => ?_)
      refine aw_aload_n rfl rfl ?_
      refine pg_27_2 rfl kl_X3_17 ?_
      refine aw_iload_n rfl rfl ?_
      refine aw_iconst (v := 1) rfl (by decide) ?_
      refine aw_isub rfl ?_
      refine pl_29 rfl (nI_pred p) (by omega) ?_
      rw [upR_s]
      refine aw_iload_n rfl rfl ?_
      refine aw_icmp_le (tgt := 63) rfl (by decide) (fun h40 => ?_) (fun h40 => ?_)
      · refine aw_aload_n rfl rfl ?_
        refine pg_27_2 rfl kl_X3_17 ?_
        refine aw_iload_n rfl rfl ?_
        refine aw_iload_n rfl rfl ?_
        refine ps_29 rfl rfl (by omega) ?_
        rw [upR_up]
        have hx : upd f (p + 1) x = Y := by (rw [← hX]; simp only [insL]; rw [if_pos h40])
        rw [hx]
        exact aw_wk kont (And.intro rfl (And.intro rfl True.intro))
      · refine aw_aload_n rfl rfl ?_
        refine pg_27_2 rfl kl_X3_17 ?_
        refine aw_iload_n rfl rfl ?_
        refine aw_aload_n rfl rfl ?_
        refine pg_27_2 rfl kl_X3_17 ?_
        refine aw_iload_n rfl rfl ?_
        refine aw_iconst (v := 1) rfl (by decide) ?_
        refine aw_isub rfl ?_
        refine pl_29 rfl (nI_pred p) (by omega) ?_
        rw [upR_s]
        refine ps_29 rfl rfl (by omega) ?_
        rw [upR_up]
        refine aw_iinc rfl rfl rfl (by decide) ?_
        refine aw_goto (tgt := 27) rfl (by decide) ?_
        exact aw_wk (ih _ (by omega) (by rw [← hX]; simp only [insL]; rw [if_neg h40])) (And.intro rfl (And.intro rfl (And.intro rfl (And.intro (congrArg (fun x => some (Value.int x)) (pk_m1 p)) True.intro))))
  have loop : ∀ (d i : Nat) (f : Nat → Int32), i + d = T → fd (srtF s) i d f = X → aw_W l g mi_X3_sortsSuns (aw_rm 1 0 0) (aw_Z g (fun r w => r = none ∧ w = hp g (upR s 29 X) n) 0 0) 0 0 (hp g (upR s 29 f) n) 2 [some (.ref (g_ad g 27)), some (.int (nI i))] [] := by
    intro d
    induction d with
    | zero =>
      intro i f hi hX
      refine aw_iload_n rfl rfl ?_
      refine aw_aload_n rfl rfl ?_
      refine pg_27_0 rfl kl_X3_26 ?_
      refine pg_15_6 rfl kl_X3_48 ?_
      refine aw_icmp_ge (tgt := 76) rfl (by decide) (fun h10 => ?_) (fun h10 => absurd (by rw [show upR s 29 f 15 6 = s 15 6 from rfl, hb.1]; exact nI_le (by omega) (by omega)) h10)
      exact aw_fv rfl rfl (by have hx : f = X := hX; rw [hx])
    | succ d ih =>
      intro i f hi hX
      refine aw_iload_n rfl rfl ?_
      refine aw_aload_n rfl rfl ?_
      refine pg_27_0 rfl kl_X3_26 ?_
      refine pg_15_6 rfl kl_X3_48 ?_
      refine aw_icmp_ge (tgt := 76) rfl (by decide) (fun h10 => absurd h10 (by rw [show upR s 29 f 15 6 = s 15 6 from rfl, hb.1]; exact nI_ge (by omega) (by omega))) (fun h10 => ?_)
      refine aw_aload_n rfl rfl ?_
      refine pg_27_0 rfl kl_X3_26 ?_
      refine pg_15_1 rfl kl_X3_38 ?_
      refine aw_iconst (v := 5) rfl (by decide) ?_
      refine aw_iload_n rfl rfl ?_
      refine aw_iadd rfl ?_
      refine pl_16 rfl (iL 5 i rfl) (by omega) ?_
      refine aw_istore_n rfl (by decide) ?_
      refine aw_iload_n rfl rfl ?_
      refine aw_istore_n rfl (by decide) ?_
      refine aw_wk (row i (s 16 (5 + i)) (srtF s i f) (by omega) ?_ i f (Nat.le_refl _) rfl) (And.intro rfl (And.intro rfl (And.intro rfl (And.intro rfl True.intro))))
      refine aw_inc1 rfl rfl (by decide) ?_
      refine aw_goto (tgt := 2) rfl (by decide) ?_
      exact aw_wk (ih (i + 1) _ (by omega) hX) (And.intro rfl (And.intro (congrArg (fun x => some (Value.int x)) (nI_1 i)) True.intro))
  refine aw_V_of mo_X3_sortsSuns (by decide) (Nat.le_of_ble_eq_true rfl) ?_
  refine aw_iconst (v := 0) rfl (by decide) ?_
  refine aw_istore_n rfl (by decide) ?_
  have := loop T 0 (s 29) (by omega) hXX
  rw [upR_rf] at this
  exact aw_wk this (And.intro rfl (And.intro rfl True.intro))
