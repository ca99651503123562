/-! the reference: a kingdom begins -/
def zf (i : Nat) (f : Nat → Int32) : Nat → Int32 := fun j => if j < i then 0 else f j
theorem zf_s {i : Nat} {f : Nat → Int32} : upd (zf i f) i 0 = zf (i + 1) f := by
  funext j
  unfold upd zf
  by_cases e : j = i
  · rw [if_pos e, if_pos (by omega)]
  · rw [if_neg e]
    by_cases c : j < i
    · rw [if_pos c, if_pos (by omega)]
    · rw [if_neg c, if_neg (by omega)]
def bgT (D : Nat → Int32) (t : Nat) (f : Nat → Int32) : Nat → Int32 := upd (upd (upd f (3 * t) (D (5 * t + 3))) (3 * t + 1) (D (5 * t + 4))) (3 * t + 2) (1 <<< (D (5 * t) &&& 31))
def bgQ (D : Nat → Int32) (r : Nat) (f : Nat → Int32) : Nat → Int32 := upd f (21 + 2 * r) (D r)
def bgR (D S U f : Nat → Int32) (T Q : Nat) : Nat → Int32 := upd (upd (fd (bgQ S) 0 Q (fd (bgT D) 0 T (zf 217 f))) 31 (U 0)) 32 (U 1)
set_option maxRecDepth 4000 in
theorem c_m_begins0 {l : Launch} {g : ag_G} {s : am_S} {n : am_N} {T Q : Nat} (hTe : s 39 26 = nI T) (hT : T ≤ 7) (hQe : s 39 27 = nI Q) (hQ : Q ≤ 5) : aw_V l g mi_X12_begins0 0 [.ref (g_ad g 39)] (hp g s n) (hp g (upR s 52 (bgR (s 46) (s 48) (s 44) (s 52) T Q)) n) := by
  obtain ⟨F1, hF1⟩ : ∃ z, z = fd (bgT (s 46)) 0 T (zf 217 (s 52)) := ⟨_, rfl⟩
  obtain ⟨F2, hF2⟩ : ∃ z, z = fd (bgQ (s 48)) 0 Q F1 := ⟨_, rfl⟩
  have hBG : bgR (s 46) (s 48) (s 44) (s 52) T Q = upd (upd F2 31 (s 44 0)) 32 (s 44 1) := by rw [hF2, hF1]; rfl
  rw [hBG]
  have l3 : ∀ (d i : Nat) (a : Nat → Int32), i + d = Q → fd (bgQ (s 48)) i d a = F2 → aw_W l g mi_X12_begins0 (aw_rm 0 0 0) (aw_Z g (fun r z => r = none ∧ z = hp g (upR s 52 (upd (upd F2 31 (s 44 0)) 32 (s 44 1))) n) 0 0) 0 0 (hp g (upR s 52 a) n) 102 [some (.ref (g_ad g 39)), some (.int (nI i))] [] := by
    intro d
    induction d with
    | zero =>
      intro i a hi hX
      simp only [fd] at hX
      subst hX
      refine aw_iload_n rfl rfl ?_
      refine aw_aload_n rfl rfl ?_
      refine pg_39_27 rfl kl_X12_294 ?_
      refine aw_icmp_ge (tgt := 133) rfl (by decide) (fun h107 => ?_) (fun h107 => absurd (by show s 39 27 ≤ nI i; rw [hQe]; exact nI_le (by omega) (by omega)) h107)
      refine aw_aload_n rfl rfl ?_
      refine pg_39_32 rfl kl_X12_61 ?_
      refine aw_bipush (v := 31) rfl (by decide) ?_
      refine aw_aload_n rfl rfl ?_
      refine pg_39_18 rfl kl_X12_37 ?_
      refine aw_iconst (v := 0) rfl (by decide) ?_
      refine pl_44 (j := 0) rfl rfl (by decide) ?_
      refine ps_52 (j := 31) rfl rfl (by decide) ?_
      refine aw_aload_n rfl rfl ?_
      refine pg_39_32 rfl kl_X12_61 ?_
      refine aw_bipush (v := 32) rfl (by decide) ?_
      refine aw_aload_n rfl rfl ?_
      refine pg_39_18 rfl kl_X12_37 ?_
      refine aw_iconst (v := 1) rfl (by decide) ?_
      refine pl_44 (j := 1) rfl rfl (by decide) ?_
      refine ps_52 (j := 32) rfl rfl (by decide) ?_
      exact aw_fv rfl rfl (by rw [upR_up, upR_up]; rfl)
    | succ d ih =>
      intro i a hi hX
      simp only [fd] at hX
      refine aw_iload_n rfl rfl ?_
      refine aw_aload_n rfl rfl ?_
      refine pg_39_27 rfl kl_X12_294 ?_
      refine aw_icmp_ge (tgt := 133) rfl (by decide) (fun h107 => absurd h107 (by show ¬ s 39 27 ≤ nI i; rw [hQe]; exact nI_ge (by omega) (by omega))) (fun h107 => ?_)
      refine aw_aload_n rfl rfl ?_
      refine pg_39_32 rfl kl_X12_61 ?_
      refine aw_bipush (v := 21) rfl (by decide) ?_
      refine aw_iconst (v := 2) rfl (by decide) ?_
      refine aw_iload_n rfl rfl ?_
      refine aw_imul rfl ?_
      refine aw_iadd rfl ?_
      refine aw_aload_n rfl rfl ?_
      refine pg_39_22 rfl kl_X12_49 ?_
      refine aw_iload_n rfl rfl ?_
      refine pl_48 rfl rfl (by omega) ?_
      refine ps_52 rfl (i21 i) (by omega) ?_
      refine aw_inc1 rfl rfl (by decide) ?_
      refine aw_goto (tgt := 102) rfl (by decide) ?_
      refine aw_wk (aw_eqs (ih (i + 1) _ (by omega) hX) rfl rfl (congrArg (fun z => hp g z n) ?_)) (And.intro rfl (And.intro (congrArg (fun x => some (Value.int x)) (nI_1 i)) True.intro))
      rw [upR_up]
      rfl
  have l2 : ∀ (d i : Nat) (a : Nat → Int32), i + d = T → fd (bgT (s 46)) i d a = F1 → aw_W l g mi_X12_begins0 (aw_rm 0 0 0) (aw_Z g (fun r z => r = none ∧ z = hp g (upR s 52 (upd (upd F2 31 (s 44 0)) 32 (s 44 1))) n) 0 0) 0 0 (hp g (upR s 52 a) n) 24 [some (.ref (g_ad g 39)), some (.int (nI i))] [] := by
    intro d
    induction d with
    | zero =>
      intro i a hi hX
      simp only [fd] at hX
      subst hX
      refine aw_iload_n rfl rfl ?_
      refine aw_aload_n rfl rfl ?_
      refine pg_39_26 rfl kl_X12_291 ?_
      refine aw_icmp_ge (tgt := 100) rfl (by decide) (fun h29 => ?_) (fun h29 => absurd (by show s 39 26 ≤ nI i; rw [hTe]; exact nI_le (by omega) (by omega)) h29)
      refine aw_iconst (v := 0) rfl (by decide) ?_
      refine aw_istore_n rfl (by decide) ?_
      exact aw_wk (l3 Q 0 a (by omega) hF2.symm) (And.intro rfl (And.intro rfl True.intro))
    | succ d ih =>
      intro i a hi hX
      simp only [fd] at hX
      refine aw_iload_n rfl rfl ?_
      refine aw_aload_n rfl rfl ?_
      refine pg_39_26 rfl kl_X12_291 ?_
      refine aw_icmp_ge (tgt := 100) rfl (by decide) (fun h29 => absurd h29 (by show ¬ s 39 26 ≤ nI i; rw [hTe]; exact nI_ge (by omega) (by omega))) (fun h29 => ?_)
      refine aw_aload_n rfl rfl ?_
      refine pg_39_32 rfl kl_X12_61 ?_
      refine aw_iconst (v := 3) rfl (by decide) ?_
      refine aw_iload_n rfl rfl ?_
      refine aw_imul rfl ?_
      refine aw_iconst (v := 0) rfl (by decide) ?_
      refine aw_iadd rfl ?_
      refine aw_aload_n rfl rfl ?_
      refine pg_39_20 rfl kl_X12_43 ?_
      refine aw_iconst (v := 5) rfl (by decide) ?_
      refine aw_iload_n rfl rfl ?_
      refine aw_imul rfl ?_
      refine aw_iconst (v := 3) rfl (by decide) ?_
      refine aw_iadd rfl ?_
      refine pl_46 rfl (i5 i 3) (by omega) ?_
      refine ps_52 rfl (i3 i 0) (by omega) ?_
      refine aw_aload_n rfl rfl ?_
      refine pg_39_32 rfl kl_X12_61 ?_
      refine aw_iconst (v := 3) rfl (by decide) ?_
      refine aw_iload_n rfl rfl ?_
      refine aw_imul rfl ?_
      refine aw_iconst (v := 1) rfl (by decide) ?_
      refine aw_iadd rfl ?_
      refine aw_aload_n rfl rfl ?_
      refine pg_39_20 rfl kl_X12_43 ?_
      refine aw_iconst (v := 5) rfl (by decide) ?_
      refine aw_iload_n rfl rfl ?_
      refine aw_imul rfl ?_
      refine aw_iconst (v := 4) rfl (by decide) ?_
      refine aw_iadd rfl ?_
      refine pl_46 rfl (i5 i 4) (by omega) ?_
      refine ps_52 rfl (i3 i 1) (by omega) ?_
      refine aw_aload_n rfl rfl ?_
      refine pg_39_32 rfl kl_X12_61 ?_
      refine aw_iconst (v := 3) rfl (by decide) ?_
      refine aw_iload_n rfl rfl ?_
      refine aw_imul rfl ?_
      refine aw_iconst (v := 2) rfl (by decide) ?_
      refine aw_iadd rfl ?_
      refine aw_iconst (v := 1) rfl (by decide) ?_
      refine aw_aload_n rfl rfl ?_
      refine pg_39_20 rfl kl_X12_43 ?_
      refine aw_iconst (v := 5) rfl (by decide) ?_
      refine aw_iload_n rfl rfl ?_
      refine aw_imul rfl ?_
      refine aw_iconst (v := 0) rfl (by decide) ?_
      refine aw_iadd rfl ?_
      refine pl_46 rfl (i5 i 0) (by omega) ?_
      refine aw_ishl rfl ?_
      refine ps_52 rfl (i3 i 2) (by omega) ?_
      refine aw_inc1 rfl rfl (by decide) ?_
      refine aw_goto (tgt := 24) rfl (by decide) ?_
      refine aw_wk (aw_eqs (ih (i + 1) _ (by omega) hX) rfl rfl (congrArg (fun z => hp g z n) ?_)) (And.intro rfl (And.intro (congrArg (fun x => some (Value.int x)) (nI_1 i)) True.intro))
      rw [upR_up, upR_up, upR_up]
      rfl
  have l1 : ∀ (d i : Nat), i + d = 217 → aw_W l g mi_X12_begins0 (aw_rm 0 0 0) (aw_Z g (fun r z => r = none ∧ z = hp g (upR s 52 (upd (upd F2 31 (s 44 0)) 32 (s 44 1))) n) 0 0) 0 0 (hp g (upR s 52 (zf i (s 52))) n) 2 [some (.ref (g_ad g 39)), some (.int (nI i))] [] := by
    intro d
    induction d with
    | zero =>
      intro i hi
      obtain rfl : i = 217 := by omega
      refine aw_iload_n rfl rfl ?_
      refine aw_sipush (v := 217) rfl (by decide) ?_
      refine aw_icmp_ge (tgt := 22) rfl (by decide) (fun h6 => ?_) (fun h6 => absurd (by decide) h6)
      refine aw_iconst (v := 0) rfl (by decide) ?_
      refine aw_istore_n rfl (by decide) ?_
      exact aw_wk (l2 T 0 _ (by omega) hF1.symm) (And.intro rfl (And.intro rfl True.intro))
    | succ d ih =>
      intro i hi
      refine aw_iload_n rfl rfl ?_
      refine aw_sipush (v := 217) rfl (by decide) ?_
      refine aw_icmp_ge (tgt := 22) rfl (by decide) (fun h6 => absurd h6 (nI_ge (b := 217) (by omega) (by decide))) (fun h6 => ?_)
      refine aw_aload_n rfl rfl ?_
      refine pg_39_32 rfl kl_X12_61 ?_
      refine aw_iload_n rfl rfl ?_
      refine aw_iconst (v := 0) rfl (by decide) ?_
      refine ps_52 rfl rfl (by omega) ?_
      refine aw_inc1 rfl rfl (by decide) ?_
      refine aw_goto (tgt := 2) rfl (by decide) ?_
      refine aw_wk (aw_eqs (ih (i + 1) (by omega)) rfl rfl (congrArg (fun z => hp g z n) ?_)) (And.intro rfl (And.intro (congrArg (fun x => some (Value.int x)) (nI_1 i)) True.intro))
      rw [upR_up, zf_s]
  have p0 := l1 217 0 (by decide)
  rw [show zf 0 (s 52) = s 52 from by (funext j; unfold zf; rw [if_neg (by omega)]), upR_rf] at p0
  refine aw_V_of mo_X12_begins0 (by decide) (Nat.le_of_ble_eq_true rfl) ?_
  refine aw_iconst (v := 0) rfl (by decide) ?_
  refine aw_istore_n rfl (by decide) ?_
  exact aw_wk p0 (And.intro rfl (And.intro rfl True.intro))
