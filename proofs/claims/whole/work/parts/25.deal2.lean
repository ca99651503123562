/-- nothing is answered; but for scratch the memory is s2 -/
def aw_U (l : Launch) (g : ag_G) (N : ag_M) (d : Nat) (K : Nat → Nat → Bool) (vs : List Value) (s : am_S) (n : am_N) (s2 : am_S) : Prop := aw_M l g N d 0 0 vs (hp g s n) (fun r w => ∃ s', r = none ∧ w = hp g s' n ∧ eo K s2 s')
section AwU
variable {l : Launch} {g : ag_G} {M : ag_M} {R : Room} {Z : ag_Z} {cells slots : Nat} {pc : Nat} {L : List (Option Value)} {st : List Value} {s s2 : am_S} {n : am_N} {K : Nat → Nat → Bool}
theorem aw_U_of {d : Nat} {vs : List Value} (hok : aw_ok M) (hy : plainName (m_y M).cls = true) (hn : (lg_sl vs).length ≤ m_n M) (body : aw_W l g M (aw_rm d 0 0) (aw_Z g (fun r w => ∃ s', r = none ∧ w = hp g s' n ∧ eo K s2 s') 0 0) 0 0 (hp g s n) 0 (aw_arg vs) []) : aw_U l g M d K vs s n s2 := aw_M_of hok hy hn body
theorem aw_uV {N : ag_M} {index d k q0 ci b : Nat} {C : vw_C} {fs As rest st0 : List Value}
    (hd : m_at M pc = some (.invokevirtual index, 3)) (hw : aw_cV (m_y M).cls index N k) (hc : aw_cl[ci]? = some C) (hcn : C.1 = (m_y N).cls) (he : (hp g s n)[q0]? = some (b, .inr (ci, fs)))
    (hM : aw_U l g N d K (.ref b :: As) s n s2) (hk : As.length = k) (hst : st0 = As.reverse ++ .ref b :: rest) (hrest : (rest.map fun v => v.category).sum ≤ 8) (hf : d + 1 ≤ R.frames) (hlo : 8 + (m_n N + 11) + 100 * d ≤ R.locals) (h1 : cells ≤ R.cells) (h2 : slots ≤ R.slots)
    (kk : ∀ s', eo K s2 s' → aw_W l g M R Z cells slots (hp g s' n) (pc + 3) L rest) : aw_W l g M R Z cells slots (hp g s n) pc L st0 :=
  aw_callV hd hw hc hcn he hM hk hst hrest hf hlo h1 h2 (by rintro r w ⟨s', rfl, rfl, e⟩; exact kk s' e)
theorem aw_uv {s' : am_S} (hd : m_at M pc = some (.return_, 1)) (hr : m_r M = none) (he : eo K s2 s') : aw_W l g M R (aw_Z g (fun r w => ∃ s', r = none ∧ w = hp g s' n ∧ eo K s2 s') cells slots) cells slots (hp g s' n) pc L [] := aw_vret hd hr ⟨s', rfl, rfl, he⟩
end AwU
theorem eo_upR2 {K : Nat → Nat → Bool} {s s1 : am_S} {k i : Nat} {f : Nat → Int32} {v : Int32} (h : eo K (upR s k f) s1) : eo K (upR s k (upd f i v)) (up s1 k i v) := by
  rw [← upR_up]
  exact eo_up2 h rfl
def prc (V : (Nat → Int32) → Int32) (s : am_S) (j m : Nat) (u : Int32) : Int32 := if sl s (nI j) = true then (if s 20 j ≤ 0 then 0 else if o1 (fs (mlt V s j (s 19 j) (s 16 (12 + j)) u) 0 (min m 12)) ≤ 0 then 0 else s 20 j) else 0
def prF (V : (Nat → Int32) → Int32) (s : am_S) (j m : Nat) (p : Nat) (f : Nat → Int32) : Nat → Int32 := upd f (j * 7 + p) (prc V s j m (s 29 p))
theorem mlt_of {V : (Nat → Int32) → Int32} {s s' : am_S} (h16 : ∀ j, s' 16 j = s 16 j) (h20 : ∀ j, s' 20 j = s 20 j) (h18 : ∀ j, s' 18 j = s 18 j) : mlt V s' = mlt V s := by
  funext j h w su i
  unfold mlt hd
  rw [h16 4, h16 1, h20 j, h18 j, h16 _]
set_option maxRecDepth 4000 in
theorem c_X3_setsPrices {l : Launch} {g : ag_G} {s : am_S} {n : am_N} {j m : Nat} {T Q : Nat} (hb : kb s T Q) (hj : j < T) (hm : m < 2 ^ 31) {V : (Nat → Int32) → Int32} (hV : LawIs l g s n V) : aw_U l g mi_X3_setsPrices 5 skC [.ref (g_ad g 27), .int (nI j), .int (nI m)] s n (upR s 30 (fd (prF V s j m) 0 T (s 30))) := by
  have hT := hb.2.1
  generalize hXX : fd (prF V s j m) 0 T (s 30) = X
  have loop : ∀ (c : Int32), ((c = 0 ∧ ∀ u, prc V s j m u = 0) ∨ (c = 1 ∧ ∀ u, prc V s j m u = if o1 (fs (mlt V s j (s 19 j) (s 16 (12 + j)) u) 0 (min m 12)) ≤ 0 then 0 else s 20 j)) → ∀ (d i : Nat) (f : Nat → Int32) (s1 : am_S), eo skC (upR s 30 f) s1 → i + d = T → fd (prF V s j m) i d f = X → aw_W l g mi_X3_setsPrices (aw_rm 5 0 0) (aw_Z g (fun r w => ∃ s', r = none ∧ w = hp g s' n ∧ eo skC (upR s 30 X) s') 0 0) 0 0 (hp g s1 n) 46 [some (.ref (g_ad g 27)), some (.int (nI j)), some (.int (nI m)), some (.int c), some (.int (s 16 (12 + j))), some (.int (nI i))] [] := by
    intro c hc d
    induction d with
    | zero =>
      intro i f s1 e1 hi hX
      have hb1 : kb s1 T Q := kb_eo (show kb (upR s 30 f) T Q from hb) e1
      refine aw_iload rfl rfl ?_
      refine aw_aload_n rfl rfl ?_
      refine pg_27_0 rfl kl_X3_26 ?_
      refine pg_15_6 rfl kl_X3_48 ?_
      refine aw_icmp_ge (tgt := 135) rfl (by decide) (fun h55 => ?_) (fun h55 => absurd (by rw [hb1.1]; exact nI_le (by omega) (by omega)) h55)
      exact aw_uv rfl rfl (by have hx : f = X := hX; rw [← hx]; exact e1)
    | succ d ih =>
      intro i f s1 e1 hi hX
      have hb1 : kb s1 T Q := kb_eo (show kb (upR s 30 f) T Q from hb) e1
      have hV1 : LawIs l g s1 n V := (hV.mv (s1 := upR s 30 f) (fun _ => rfl)).eC e1
      refine aw_iload rfl rfl ?_
      refine aw_aload_n rfl rfl ?_
      refine pg_27_0 rfl kl_X3_26 ?_
      refine pg_15_6 rfl kl_X3_48 ?_
      refine aw_icmp_ge (tgt := 135) rfl (by decide) (fun h55 => absurd h55 (by rw [hb1.1]; exact nI_ge (by omega) (by omega))) (fun h55 => ?_)
      refine aw_iload_n rfl rfl ?_
      refine aw_if_eq (tgt := 96) rfl (by decide) (fun h59 => ?_) (fun h59 => ?_)
      · skip
        refine aw_iconst (v := 0) rfl (by decide) ?_
        refine aw_istore rfl (by decide) ?_
        refine aw_aload_n rfl rfl ?_
        refine pg_27_3 rfl kl_X3_20 ?_
        refine aw_iload_n rfl rfl ?_
        refine aw_bipush (v := 7) rfl (by decide) ?_
        refine aw_imul rfl ?_
        refine aw_iload rfl rfl ?_
        refine aw_iadd rfl ?_
        refine aw_iload rfl rfl ?_
        refine aw_if_eq (tgt := 127) rfl (by decide) (fun h112 => ?_) (fun h112 => absurd h112 (by decide))
        refine aw_iconst (v := 0) rfl (by decide) ?_
        refine ps_30 rfl (by rw [show nI j * 7 = nI (j * 7) from pk_mul j 7]; exact nI_add _ _) (by omega) ?_
        refine aw_inc1 rfl rfl (by decide) ?_
        refine aw_goto (tgt := 46) rfl (by decide) ?_
        first
          | (have hp0 : prc V s j m (s 29 i) = 0 := by (rcases hc with ⟨-, h⟩ | ⟨h1, -⟩; exact h _; exact absurd (h1.symm.trans h59) (by decide)))
            exact aw_wk (ih (i + 1) (prF V s j m i f) _ (by unfold prF; rw [hp0]; exact eo_upR2 e1) (by omega) hX) (And.intro rfl (And.intro rfl (And.intro rfl (And.intro rfl (And.intro rfl (And.intro (congrArg (fun x => some (Value.int x)) (nI_1 i)) True.intro))))))
          | (have hq : prc V s j m (s 29 i) = 0 := by (rw [hp, if_pos (by rw [← hmm, ← (show s1 29 i = s 29 i from e1 29 i rfl), ← (show s1 19 j = s 19 j from e1 19 j rfl)]; exact h89)]))
            exact aw_wk (ih (i + 1) (prF V s j m i f) _ (by unfold prF; rw [hq]; exact eo_upR2 (eo_tr e1 e2)) (by omega) hX) (And.intro rfl (And.intro rfl (And.intro rfl (And.intro rfl (And.intro rfl (And.intro (congrArg (fun x => some (Value.int x)) (nI_1 i)) True.intro))))))
          | (have hq : prc V s j m (s 29 i) = s2 20 j := by (rw [hp, if_neg (by rw [← hmm, ← (show s1 29 i = s 29 i from e1 29 i rfl), ← (show s1 19 j = s 19 j from e1 19 j rfl)]; exact h89), e2 20 j rfl, e1 20 j rfl]; rfl))
            exact aw_wk (ih (i + 1) (prF V s j m i f) _ (by unfold prF; rw [hq]; exact eo_upR2 (eo_tr e1 e2)) (by omega) hX) (And.intro rfl (And.intro rfl (And.intro rfl (And.intro rfl (And.intro rfl (And.intro (congrArg (fun x => some (Value.int x)) (nI_1 i)) True.intro))))))
      · have hp : ∀ u, prc V s j m u = if o1 (fs (mlt V s j (s 19 j) (s 16 (12 + j)) u) 0 (min m 12)) ≤ 0 then 0 else s 20 j := by
          rcases hc with ⟨h0, -⟩ | ⟨-, h⟩
          · exact absurd h0 h59
          · exact h
        have hmm : mlt V s1 = mlt V s := by (rw [mlt_eo e1]; exact mlt_of (fun _ => rfl) (fun _ => rfl) (fun _ => rfl))
        refine aw_aload_n rfl rfl ?_
        refine pg_27_0 rfl kl_X3_26 ?_
        refine aw_iload_n rfl rfl ?_
        refine aw_aload_n rfl rfl ?_
        refine pg_27_0 rfl kl_X3_26 ?_
        refine pg_15_4 rfl kl_X3_41 ?_
        refine aw_iload_n rfl rfl ?_
        refine pl_19 rfl rfl (by omega) ?_
        refine aw_iload rfl rfl ?_
        refine aw_aload_n rfl rfl ?_
        refine pg_27_2 rfl kl_X3_17 ?_
        refine aw_iload rfl rfl ?_
        refine pl_29 rfl rfl (by omega) ?_
        refine aw_iload_n rfl rfl ?_
        refine aw_eV (q0 := 15) (ci := 8) rfl cw_X3_44 rfl rfl rfl (c_X8_meltsIn hb1 hj hm hV1) rfl rfl (Nat.le_of_ble_eq_true rfl) (by decide) (by decide) (by decide) (by decide) (fun s2 e2 => ?_)
        skip
        refine aw_if_le (tgt := 96) rfl (by decide) (fun h89 => ?_) (fun h89 => ?_)
        · skip
          refine aw_iconst (v := 0) rfl (by decide) ?_
          refine aw_istore rfl (by decide) ?_
          refine aw_aload_n rfl rfl ?_
          refine pg_27_3 rfl kl_X3_20 ?_
          refine aw_iload_n rfl rfl ?_
          refine aw_bipush (v := 7) rfl (by decide) ?_
          refine aw_imul rfl ?_
          refine aw_iload rfl rfl ?_
          refine aw_iadd rfl ?_
          refine aw_iload rfl rfl ?_
          refine aw_if_eq (tgt := 127) rfl (by decide) (fun h112 => ?_) (fun h112 => absurd h112 (by decide))
          refine aw_iconst (v := 0) rfl (by decide) ?_
          refine ps_30 rfl (by rw [show nI j * 7 = nI (j * 7) from pk_mul j 7]; exact nI_add _ _) (by omega) ?_
          refine aw_inc1 rfl rfl (by decide) ?_
          refine aw_goto (tgt := 46) rfl (by decide) ?_
          first
            | (have hp0 : prc V s j m (s 29 i) = 0 := by (rcases hc with ⟨-, h⟩ | ⟨h1, -⟩; exact h _; exact absurd (h1.symm.trans h59) (by decide)))
              exact aw_wk (ih (i + 1) (prF V s j m i f) _ (by unfold prF; rw [hp0]; exact eo_upR2 e1) (by omega) hX) (And.intro rfl (And.intro rfl (And.intro rfl (And.intro rfl (And.intro rfl (And.intro (congrArg (fun x => some (Value.int x)) (nI_1 i)) True.intro))))))
            | (have hq : prc V s j m (s 29 i) = 0 := by (rw [hp, if_pos (by rw [← hmm, ← (show s1 29 i = s 29 i from e1 29 i rfl), ← (show s1 19 j = s 19 j from e1 19 j rfl)]; exact h89)]))
              exact aw_wk (ih (i + 1) (prF V s j m i f) _ (by unfold prF; rw [hq]; exact eo_upR2 (eo_tr e1 e2)) (by omega) hX) (And.intro rfl (And.intro rfl (And.intro rfl (And.intro rfl (And.intro rfl (And.intro (congrArg (fun x => some (Value.int x)) (nI_1 i)) True.intro))))))
            | (have hq : prc V s j m (s 29 i) = s2 20 j := by (rw [hp, if_neg (by rw [← hmm, ← (show s1 29 i = s 29 i from e1 29 i rfl), ← (show s1 19 j = s 19 j from e1 19 j rfl)]; exact h89), e2 20 j rfl, e1 20 j rfl]; rfl))
              exact aw_wk (ih (i + 1) (prF V s j m i f) _ (by unfold prF; rw [hq]; exact eo_upR2 (eo_tr e1 e2)) (by omega) hX) (And.intro rfl (And.intro rfl (And.intro rfl (And.intro rfl (And.intro rfl (And.intro (congrArg (fun x => some (Value.int x)) (nI_1 i)) True.intro))))))
        · refine aw_iconst (v := 1) rfl (by decide) ?_
          refine aw_goto (tgt := 97) rfl (by decide) ?_
          refine aw_istore rfl (by decide) ?_
          refine aw_aload_n rfl rfl ?_
          refine pg_27_3 rfl kl_X3_20 ?_
          refine aw_iload_n rfl rfl ?_
          refine aw_bipush (v := 7) rfl (by decide) ?_
          refine aw_imul rfl ?_
          refine aw_iload rfl rfl ?_
          refine aw_iadd rfl ?_
          refine aw_iload rfl rfl ?_
          refine aw_if_eq (tgt := 127) rfl (by decide) (fun h112 => absurd h112 (by decide)) (fun h112 => ?_)
          refine aw_aload_n rfl rfl ?_
          refine pg_27_0 rfl kl_X3_26 ?_
          refine pg_15_5 rfl kl_X3_67 ?_
          refine aw_iload_n rfl rfl ?_
          refine pl_20 rfl rfl (by omega) ?_
          refine aw_goto (tgt := 128) rfl (by decide) ?_
          refine ps_30 rfl (by rw [show nI j * 7 = nI (j * 7) from pk_mul j 7]; exact nI_add _ _) (by omega) ?_
          refine aw_inc1 rfl rfl (by decide) ?_
          refine aw_goto (tgt := 46) rfl (by decide) ?_
          first
            | (have hp0 : prc V s j m (s 29 i) = 0 := by (rcases hc with ⟨-, h⟩ | ⟨h1, -⟩; exact h _; exact absurd (h1.symm.trans h59) (by decide)))
              exact aw_wk (ih (i + 1) (prF V s j m i f) _ (by unfold prF; rw [hp0]; exact eo_upR2 e1) (by omega) hX) (And.intro rfl (And.intro rfl (And.intro rfl (And.intro rfl (And.intro rfl (And.intro (congrArg (fun x => some (Value.int x)) (nI_1 i)) True.intro))))))
            | (have hq : prc V s j m (s 29 i) = 0 := by (rw [hp, if_pos (by rw [← hmm, ← (show s1 29 i = s 29 i from e1 29 i rfl), ← (show s1 19 j = s 19 j from e1 19 j rfl)]; exact h89)]))
              exact aw_wk (ih (i + 1) (prF V s j m i f) _ (by unfold prF; rw [hq]; exact eo_upR2 (eo_tr e1 e2)) (by omega) hX) (And.intro rfl (And.intro rfl (And.intro rfl (And.intro rfl (And.intro rfl (And.intro (congrArg (fun x => some (Value.int x)) (nI_1 i)) True.intro))))))
            | (have hq : prc V s j m (s 29 i) = s2 20 j := by (rw [hp, if_neg (by rw [← hmm, ← (show s1 29 i = s 29 i from e1 29 i rfl), ← (show s1 19 j = s 19 j from e1 19 j rfl)]; exact h89), e2 20 j rfl, e1 20 j rfl]; rfl))
              exact aw_wk (ih (i + 1) (prF V s j m i f) _ (by unfold prF; rw [hq]; exact eo_upR2 (eo_tr e1 e2)) (by omega) hX) (And.intro rfl (And.intro rfl (And.intro rfl (And.intro rfl (And.intro rfl (And.intro (congrArg (fun x => some (Value.int x)) (nI_1 i)) True.intro))))))
  refine aw_U_of mo_X3_setsPrices (by decide) (Nat.le_of_ble_eq_true rfl) ?_
  refine aw_aload_n rfl rfl ?_
  refine pg_27_0 rfl kl_X3_26 ?_
  refine aw_iload_n rfl rfl ?_
  refine aw_iV (q0 := 15) (ci := 8) rfl cw_X3_30 rfl rfl rfl (c_X8_isSealed hb) rfl rfl (Nat.le_of_ble_eq_true rfl) (by decide) (by decide) (by decide) (by decide) ?_
  refine aw_if_eq (tgt := 27) rfl (by decide) (fun h8 => ?_) (fun h8 => ?_)
  · refine aw_iconst (v := 0) rfl (by decide) ?_
    refine aw_istore_n rfl (by decide) ?_
    refine aw_aload_n rfl rfl ?_
    refine pg_27_0 rfl kl_X3_26 ?_
    refine pg_15_1 rfl kl_X3_38 ?_
    refine aw_bipush (v := 12) rfl (by decide) ?_
    refine aw_iload_n rfl rfl ?_
    refine aw_iadd rfl ?_
    refine pl_16 rfl (iL 12 j rfl) (by omega) ?_
    refine aw_istore rfl (by decide) ?_
    refine aw_iconst (v := 0) rfl (by decide) ?_
    refine aw_istore rfl (by decide) ?_
    first
      | (refine aw_wk (loop 1 (Or.inr ⟨rfl, fun u => by unfold prc; rw [if_pos (bB_n0.mp h8), if_neg h20]⟩) T 0 (s 30) s (by rw [upR_rf]; exact eo_rf) (by omega) hXX) (And.intro rfl (And.intro rfl (And.intro rfl (And.intro rfl (And.intro rfl (And.intro rfl True.intro)))))))
      | (refine aw_wk (loop 0 (Or.inl ⟨rfl, fun u => by unfold prc; first | rw [if_neg (by rw [bB_0.mp h8]; decide)] | rw [if_pos (bB_n0.mp h8), if_pos h20]⟩) T 0 (s 30) s (by rw [upR_rf]; exact eo_rf) (by omega) hXX) (And.intro rfl (And.intro rfl (And.intro rfl (And.intro rfl (And.intro rfl (And.intro rfl True.intro)))))))
  · refine aw_aload_n rfl rfl ?_
    refine pg_27_0 rfl kl_X3_26 ?_
    refine pg_15_5 rfl kl_X3_67 ?_
    refine aw_iload_n rfl rfl ?_
    refine pl_20 rfl rfl (by omega) ?_
    refine aw_if_le (tgt := 27) rfl (by decide) (fun h20 => ?_) (fun h20 => ?_)
    · refine aw_iconst (v := 0) rfl (by decide) ?_
      refine aw_istore_n rfl (by decide) ?_
      refine aw_aload_n rfl rfl ?_
      refine pg_27_0 rfl kl_X3_26 ?_
      refine pg_15_1 rfl kl_X3_38 ?_
      refine aw_bipush (v := 12) rfl (by decide) ?_
      refine aw_iload_n rfl rfl ?_
      refine aw_iadd rfl ?_
      refine pl_16 rfl (iL 12 j rfl) (by omega) ?_
      refine aw_istore rfl (by decide) ?_
      refine aw_iconst (v := 0) rfl (by decide) ?_
      refine aw_istore rfl (by decide) ?_
      first
        | (refine aw_wk (loop 1 (Or.inr ⟨rfl, fun u => by unfold prc; rw [if_pos (bB_n0.mp h8), if_neg h20]⟩) T 0 (s 30) s (by rw [upR_rf]; exact eo_rf) (by omega) hXX) (And.intro rfl (And.intro rfl (And.intro rfl (And.intro rfl (And.intro rfl (And.intro rfl True.intro)))))))
        | (refine aw_wk (loop 0 (Or.inl ⟨rfl, fun u => by unfold prc; first | rw [if_neg (by rw [bB_0.mp h8]; decide)] | rw [if_pos (bB_n0.mp h8), if_pos h20]⟩) T 0 (s 30) s (by rw [upR_rf]; exact eo_rf) (by omega) hXX) (And.intro rfl (And.intro rfl (And.intro rfl (And.intro rfl (And.intro rfl (And.intro rfl True.intro)))))))
    · refine aw_iconst (v := 1) rfl (by decide) ?_
      refine aw_goto (tgt := 28) rfl (by decide) ?_
      refine aw_istore_n rfl (by decide) ?_
      refine aw_aload_n rfl rfl ?_
      refine pg_27_0 rfl kl_X3_26 ?_
      refine pg_15_1 rfl kl_X3_38 ?_
      refine aw_bipush (v := 12) rfl (by decide) ?_
      refine aw_iload_n rfl rfl ?_
      refine aw_iadd rfl ?_
      refine pl_16 rfl (iL 12 j rfl) (by omega) ?_
      refine aw_istore rfl (by decide) ?_
      refine aw_iconst (v := 0) rfl (by decide) ?_
      refine aw_istore rfl (by decide) ?_
      first
        | (refine aw_wk (loop 1 (Or.inr ⟨rfl, fun u => by unfold prc; rw [if_pos (bB_n0.mp h8), if_neg h20]⟩) T 0 (s 30) s (by rw [upR_rf]; exact eo_rf) (by omega) hXX) (And.intro rfl (And.intro rfl (And.intro rfl (And.intro rfl (And.intro rfl (And.intro rfl True.intro)))))))
        | (refine aw_wk (loop 0 (Or.inl ⟨rfl, fun u => by unfold prc; first | rw [if_neg (by rw [bB_0.mp h8]; decide)] | rw [if_pos (bB_n0.mp h8), if_pos h20]⟩) T 0 (s 30) s (by rw [upR_rf]; exact eo_rf) (by omega) hXX) (And.intro rfl (And.intro rfl (And.intro rfl (And.intro rfl (And.intro rfl (And.intro rfl True.intro)))))))
