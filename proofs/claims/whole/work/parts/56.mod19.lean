set_option maxRecDepth 4000 in
theorem c_m_dealt {l : Launch} {g : ag_G} {s : am_S} {n : am_N} {MI : am_S → am_N → Prop} {V : (Nat → Int32) → Int32} {T Q : Nat} (hC : MC l g MI V s n T Q) (hr : rwb (s 52) T Q) {m x : Int32} : aw_R l g mi_X12_dealt 103 skN [.ref (g_ad g 39), .int m, .int x] s n MI (.int (m_dealt V (up s 39 0 0) T m x)) ((up s 39 0 0)) := by
  refine aw_R_of mo_X12_dealt (by decide) (Nat.le_of_ble_eq_true rfl) ?_
  refine aw_aload_n rfl rfl ?_
  refine aw_iconst (v := 0) rfl (by decide) ?_
  refine pp_39_0 rfl kl_X12_96 ?_
  have hC : MC l g MI V (up s 39 0 0) n T Q := hC.z0
  have hr : rwb ((up s 39 0 0) 52) T Q := hr
  generalize up s 39 0 0 = S at *
  have hT := hC.1.2.1
  have hTe := hC.1.1
  have hu9 : ∀ t, t < T → cl (S 52 (3 * t)) ≤ 9 ∧ S 52 (3 * t) = nI (cl (S 52 (3 * t))) := by
    intro t ht
    obtain ⟨⟨u, hul, hue⟩, -⟩ := hr.1 t ht
    rw [hue, cl_nI (by omega)]
    exact ⟨hul, rfl⟩
  obtain ⟨U, hU⟩ : ∃ U : Nat → Nat, U = fun t => cl (S 52 (3 * t)) := ⟨_, rfl⟩
  have hU9 : ∀ t, t < T → U t ≤ 9 ∧ S 52 (3 * t) = nI (U t) := by rw [hU]; exact hu9
  have loop : ∀ (X : Int32) (M : Nat), M ≤ 24 → m = nI M → (if x = 0 then (dlR V S T M).1 else (dlR V S T M).2) = X → ∀ (dd v : Nat), v + dd = 10 → ∀ (a : (Nat → Nat) × Nat) (s1 : am_S) (n1 : am_N), eo skN S s1 → en n n1 → MI s1 n1 → a.2 = cA U T v 0 → (∀ q, q < a.2 → a.1 q ≤ 9 ∧ s1 58 q = nI (a.1 q)) → (∀ t, t < T → ∀ u, u < v → s1 59 (10 * t + u) = mlm V S M t u) → fd (fun v a => fd (sF U v) 0 T a) v dd a = seqS U T → aw_W l g mi_X12_dealt (aw_rm 103 0 0) (aw_Z g (fun r w => ∃ s' n', r = some (.int X) ∧ w = hp g s' n' ∧ eo skN S s' ∧ en n n' ∧ MI s' n') 0 0) 0 0 (hp g s1 n1) 36 [some (.ref (g_ad g 39)), some (.int m), some (.int x), some (.int (nI a.2)), some (.int (nI v)), none, none] [] := by
    intro X M hM hm hX dd
    induction dd with
    | zero =>
      intro v hv a s1 n1 e1 f1 m1 ha hq hml hs
      obtain rfl : v = 10 := by omega
      simp only [fd] at hs
      have haT : a.2 = T := by
        rw [ha]
        unfold cA
        rw [cN_all T (fun q hq => decide_eq_true (show U q < 10 from by have := (hU9 q hq).1; omega))]
        rfl
      have hT1 : s1 39 26 = nI T := (e1 39 26 rfl).trans hTe
      have hgd := c_m_goDealt (l := l) (g := g) (n := n1) (s := s1) (su := a.1) (me := mlm V S M) hT hT1 (fun q hqT => hq q (by omega)) (fun t ht u hu => hml t ht u (by omega)) T 0 (by omega) 0 0 0 (-1, -1)
      have hz : gd T a.1 (mlm V S M) T 0 0 0 (-1, -1) = dlR V S T M := by unfold dlR; rw [← hU, ← hs]
      rw [hz] at hgd
      have hfin : eo skN S (dS s1 (dlR V S T M)) := eo_upI rfl (eo_upI rfl e1)
      refine aw_iload rfl rfl ?_
      refine aw_bipush (v := 9) rfl (by decide) ?_
      refine aw_icmp_gt (tgt := 173) rfl (by decide) (fun h40 => ?_) (fun h40 => absurd (by decide) h40)
      refine aw_aload_n rfl rfl ?_
      refine aw_iconst (v := -1) rfl (by decide) ?_
      refine pp_39_45 rfl kl_X12_435 ?_
      refine aw_aload_n rfl rfl ?_
      refine aw_iconst (v := -1) rfl (by decide) ?_
      refine pp_39_44 rfl kl_X12_438 ?_
      refine aw_aload_n rfl rfl ?_
      refine aw_iconst (v := 0) rfl (by decide) ?_
      refine aw_iconst (v := 0) rfl (by decide) ?_
      refine aw_iconst (v := 0) rfl (by decide) ?_
      refine aw_iconst (v := 0) rfl (by decide) ?_
      refine aw_eqs (ws' := hp g (dS s1 (-1, -1)) n1) ?_ rfl rfl rfl
      refine aw_vV (q0 := 39) (ci := 12) rfl cw_X12_441 rfl rfl rfl hgd rfl rfl (Nat.le_of_ble_eq_true rfl) (by show T + 1 ≤ 103; omega) (by show 8 + (6 + 11) + 100 * T ≤ 100 * 103; omega) (by decide) (by decide) ?_
      refine aw_iload_n rfl rfl ?_
      refine aw_if_ne (tgt := 202) rfl (by decide) (fun h192 => ?_) (fun h192 => ?_)
      · refine aw_aload_n rfl rfl ?_
        refine pg_39_45 rfl kl_X12_435 ?_
        first
        | exact aw_ri rfl rfl (by rw [← hX, if_pos h192]; rfl) hfin f1 (upMK hC m1)
        | exact aw_ri rfl rfl (by rw [← hX, if_neg h192]; rfl) hfin f1 (upMK hC m1)
      · refine aw_aload_n rfl rfl ?_
        refine pg_39_44 rfl kl_X12_438 ?_
        refine aw_goto (tgt := 206) rfl (by decide) ?_
        first
        | exact aw_ri rfl rfl (by rw [← hX, if_pos h192]; rfl) hfin f1 (upMK hC m1)
        | exact aw_ri rfl rfl (by rw [← hX, if_neg h192]; rfl) hfin f1 (upMK hC m1)
    | succ dd ih =>
      intro v hv a s1 n1 e1 f1 m1 ha hq hml hs
      simp only [fd] at hs
      obtain ⟨YY, hY⟩ : ∃ y, y = fd (sF U v) 0 T a := ⟨_, rfl⟩
      rw [← hY] at hs
      have inner : ∀ (d t : Nat), t + d = T → ∀ (a : (Nat → Nat) × Nat) (s1 : am_S) (n1 : am_N), eo skN S s1 → en n n1 → MI s1 n1 → a.2 = cA U T v t → (∀ q, q < a.2 → a.1 q ≤ 9 ∧ s1 58 q = nI (a.1 q)) → (∀ t', t' < T → ∀ u, u < v ∨ (u = v ∧ t' < t) → s1 59 (10 * t' + u) = mlm V S M t' u) → fd (sF U v) t d a = YY → aw_W l g mi_X12_dealt (aw_rm 103 0 0) (aw_Z g (fun r w => ∃ s' n', r = some (.int X) ∧ w = hp g s' n' ∧ eo skN S s' ∧ en n n' ∧ MI s' n') 0 0) 0 0 (hp g s1 n1) 46 [some (.ref (g_ad g 39)), some (.int m), some (.int x), some (.int (nI a.2)), some (.int (nI v)), some (.int (nI t)), none] [] := by
        intro d
        induction d with
        | zero =>
          intro t ht a s1 n1 e1 f1 m1 ha hq hml hY
          have htT : t = T := by omega
          have hT1 : s1 39 26 = nI T := (e1 39 26 rfl).trans hTe
          simp only [fd] at hY
          subst hY
          refine aw_iload rfl rfl ?_
          refine aw_aload_n rfl rfl ?_
          refine pg_39_26 rfl kl_X12_291 ?_
          refine aw_icmp_ge (tgt := 167) rfl (by decide) (fun h52 => ?_) (fun h52 => absurd (by rw [hT1]; exact nI_le (by omega) (by omega)) h52)
          refine aw_inc1 rfl rfl (by decide) ?_
          refine aw_goto (tgt := 36) rfl (by decide) ?_
          exact aw_wk (ih (v + 1) (by omega) a s1 n1 e1 f1 m1 (by rw [ha, htT]; exact cA_s) hq (fun t' ht' u hu => hml t' ht' u (by omega)) hs) (And.intro rfl (And.intro rfl (And.intro rfl (And.intro rfl (And.intro (congrArg (fun x => some (Value.int x)) (nI_1 v)) True.intro)))))
        | succ d ihd =>
          intro t ht a s1 n1 e1 f1 m1 ha hq hml hY
          have hT1 : s1 39 26 = nI T := (e1 39 26 rfl).trans hTe
          have e52 : s1 52 = S 52 := eo_cell e1 52 (fun _ => rfl)
          have e46 : s1 46 = S 46 := eo_cell e1 46 (fun _ => rfl)
          obtain ⟨⟨hh, hhl, hhe⟩, dd0, hdl, hde⟩ := hC.2.2.2 t (by omega)
          obtain ⟨-, D, hDl, hDe⟩ := hr.1 t (by omega)
          obtain ⟨hut, hue⟩ := hU9 t (by omega)
          simp only [fd] at hY
          have part2 : ∀ (a : (Nat → Nat) × Nat) (s1 : am_S), s1 52 = S 52 → s1 46 = S 46 → eo skN S s1 → MI s1 n1 → a.2 = cA U T v (t + 1) → (∀ q, q < a.2 → a.1 q ≤ 9 ∧ s1 58 q = nI (a.1 q)) → (∀ t', t' < T → ∀ u, u < v ∨ (u = v ∧ t' < t) → s1 59 (10 * t' + u) = mlm V S M t' u) → fd (sF U v) (t + 1) d a = YY → aw_W l g mi_X12_dealt (aw_rm 103 0 0) (aw_Z g (fun r w => ∃ s' n', r = some (.int X) ∧ w = hp g s' n' ∧ eo skN S s' ∧ en n n' ∧ MI s' n') 0 0) 0 0 (hp g s1 n1) 82 [some (.ref (g_ad g 39)), some (.int m), some (.int x), some (.int (nI a.2)), some (.int (nI v)), some (.int (nI t)), none] [] := by
            intro a s1 e52 e46 e1 m1 ha hq hml hY
            have hC1 := MC_eN hC e1 m1
            have hr1 : rwb (s1 52) T Q := by rw [e52]; exact hr
            have hmt : mtm V s1 = mtm V S := by funext j h w su i; unfold mtm; rw [hbm_c e46, e52]
            have fin : ∀ (s2 : am_S) (n2 : am_N) (xv : Int32), eo skM s1 s2 → en n1 n2 → MI s2 n2 → xv = mlm V S M t v → aw_W l g mi_X12_dealt (aw_rm 103 0 0) (aw_Z g (fun r w => ∃ s' n', r = some (.int X) ∧ w = hp g s' n' ∧ eo skN S s' ∧ en n n' ∧ MI s' n') 0 0) 0 0 (hp g (up s2 59 (10 * t + v) xv) n2) 46 [some (.ref (g_ad g 39)), some (.int m), some (.int x), some (.int (nI a.2)), some (.int (nI v)), some (.int (nI (t + 1))), none] [] := by
              intro s2 n2 xv e2 f2 m2 hx
              refine ihd (t + 1) (by omega) a _ n2 (eo_up skN_59 (eo_tr e1 (eo_MN e2))) (en_tr f1 f2) (upMJ hC m2).2 ha (fun q hqa => ?_) (fun t' ht' u hu => ?_) hY
              · rw [show up s2 59 (10 * t + v) xv 58 q = s2 58 q from rfl, e2 58 q rfl]
                exact hq q hqa
              · rw [up_s]
                split
                · have : t' = t ∧ u = v := by omega
                  rw [this.1, this.2]; exact hx
                · rw [e2 59 _ rfl]
                  exact hml t' ht' u (by omega)
            refine aw_aload_n rfl rfl ?_
            refine pg_39_32 rfl kl_X12_61 ?_
            refine aw_iload rfl rfl ?_
            refine aw_iS rfl cw_X12_338 (c_m_isOpen_52 (j := t) (by omega)) rfl rfl (Nat.le_of_ble_eq_true rfl) (by decide) (by decide) (by decide) (by decide) ?_
            refine aw_if_ne (tgt := 129) rfl (by decide) (fun h91 => ?_) (fun h91 => ?_)
            · refine aw_iconst (v := 0) rfl (by decide) ?_
              refine aw_istore rfl (by decide) ?_
              refine aw_aload_n rfl rfl ?_
              refine pg_39_43 rfl kl_X12_87 ?_
              refine aw_bipush (v := 10) rfl (by decide) ?_
              refine aw_iload rfl rfl ?_
              refine aw_imul rfl ?_
              refine aw_iload rfl rfl ?_
              refine aw_iadd rfl ?_
              refine aw_iload rfl rfl ?_
              refine aw_if_eq (tgt := 159) rfl (by decide) (fun h146 => ?_) (fun h146 => absurd h146 (by decide))
              refine aw_iconst (v := 0) rfl (by decide) ?_
              refine ps_59 rfl (show (10 : Int32) * nI t + nI v = nI (10 * t + v) from by (rw [show (10 : Int32) * nI t = nI (10 * t) from pk_mul 10 t]; exact nI_add _ _)) (by omega) ?_
              refine aw_inc1 rfl rfl (by decide) ?_
              refine aw_goto (tgt := 46) rfl (by decide) ?_
              first
              | (have q : bB (decide (s1 52 (3 * t + 1) = 0)) ≠ 0 := h91
                 exact aw_wk (fin s1 n1 _ eo_rf en_rf m1 (by unfold mlm; rw [if_pos (by have := of_decide_eq_true (bB_n0.mp h91); rw [e52] at this; exact this)])) (And.intro rfl (And.intro rfl (And.intro rfl (And.intro rfl (And.intro rfl (And.intro (congrArg (fun x => some (Value.int x)) (nI_1 t)) True.intro)))))))
              | (have q : oN (fs (mtm V S t (S 46 (5 * t + 1)) (S 52 (3 * t + 1)) (nI v)) 0 M) = -1 := h122
                 exact aw_wk (fin s2 n2 _ e2 f2 m2 (by unfold mlm; rw [if_neg (by have := of_decide_eq_false (bB_0.mp h91); rw [e52] at this; exact this), if_pos q])) (And.intro rfl (And.intro rfl (And.intro rfl (And.intro rfl (And.intro rfl (And.intro (congrArg (fun x => some (Value.int x)) (nI_1 t)) True.intro)))))))
              | (have q : ¬ oN (fs (mtm V S t (S 46 (5 * t + 1)) (S 52 (3 * t + 1)) (nI v)) 0 M) = -1 := h122
                 exact aw_wk (fin s2 n2 _ e2 f2 m2 (by unfold mlm; rw [if_neg (by have := of_decide_eq_false (bB_0.mp h91); rw [e52] at this; exact this), if_neg q, e2 46 _ rfl, e46])) (And.intro rfl (And.intro rfl (And.intro rfl (And.intro rfl (And.intro rfl (And.intro (congrArg (fun x => some (Value.int x)) (nI_1 t)) True.intro)))))))
            · refine aw_aload_n rfl rfl ?_
              refine aw_iload rfl rfl ?_
              refine aw_aload_n rfl rfl ?_
              refine aw_iload rfl rfl ?_
              refine aw_iconst (v := 1) rfl (by decide) ?_
              refine aw_iV (q0 := 39) (ci := 12) rfl cw_X12_319 rfl rfl rfl (c_m_of (j := t) (c := 1) (by omega) (by decide)) rfl rfl (Nat.le_of_ble_eq_true rfl) (by decide) (by decide) (by decide) (by decide) ?_
              refine aw_aload_n rfl rfl ?_
              refine pg_39_32 rfl kl_X12_61 ?_
              refine aw_iconst (v := 3) rfl (by decide) ?_
              refine aw_iload rfl rfl ?_
              refine aw_imul rfl ?_
              refine aw_iconst (v := 1) rfl (by decide) ?_
              refine aw_iadd rfl ?_
              refine pl_52 rfl (i3 t 1) (by omega) ?_
              refine aw_iload rfl rfl ?_
              refine aw_iload_n rfl rfl ?_
              refine aw_rV (q0 := 39) (ci := 12) rfl cw_X12_335 rfl rfl rfl ((show aw_R l g mi_X12_meltsIn 102 skM [.ref (g_ad g 39), .int (nI t), .int (s1 46 (5 * t + 1)), .int (s1 52 (3 * t + 1)), .int (nI v), .int m] s1 n1 MI (.int (oN (fs (mtm V S t (S 46 (5 * t + 1)) (S 52 (3 * t + 1)) (nI v)) 0 M))) s1 from by (rw [e46, e52, hhe, hDe, ← hmt, hm]; exact c_m_meltsIn hC1 hr1 (by omega) (by omega) (by omega) (by omega) (by omega)))) rfl rfl (Nat.le_of_ble_eq_true rfl) (by decide) (by decide) (by decide) (by decide) (fun s2 n2 e2 f2 m2 => ?_)
              refine aw_iconst (v := -1) rfl (by decide) ?_
              refine aw_icmp_eq (tgt := 129) rfl (by decide) (fun h122 => ?_) (fun h122 => ?_)
              · refine aw_iconst (v := 0) rfl (by decide) ?_
                refine aw_istore rfl (by decide) ?_
                refine aw_aload_n rfl rfl ?_
                refine pg_39_43 rfl kl_X12_87 ?_
                refine aw_bipush (v := 10) rfl (by decide) ?_
                refine aw_iload rfl rfl ?_
                refine aw_imul rfl ?_
                refine aw_iload rfl rfl ?_
                refine aw_iadd rfl ?_
                refine aw_iload rfl rfl ?_
                refine aw_if_eq (tgt := 159) rfl (by decide) (fun h146 => ?_) (fun h146 => absurd h146 (by decide))
                refine aw_iconst (v := 0) rfl (by decide) ?_
                refine ps_59 rfl (show (10 : Int32) * nI t + nI v = nI (10 * t + v) from by (rw [show (10 : Int32) * nI t = nI (10 * t) from pk_mul 10 t]; exact nI_add _ _)) (by omega) ?_
                refine aw_inc1 rfl rfl (by decide) ?_
                refine aw_goto (tgt := 46) rfl (by decide) ?_
                first
                | (have q : bB (decide (s1 52 (3 * t + 1) = 0)) ≠ 0 := h91
                   exact aw_wk (fin s1 n1 _ eo_rf en_rf m1 (by unfold mlm; rw [if_pos (by have := of_decide_eq_true (bB_n0.mp h91); rw [e52] at this; exact this)])) (And.intro rfl (And.intro rfl (And.intro rfl (And.intro rfl (And.intro rfl (And.intro (congrArg (fun x => some (Value.int x)) (nI_1 t)) True.intro)))))))
                | (have q : oN (fs (mtm V S t (S 46 (5 * t + 1)) (S 52 (3 * t + 1)) (nI v)) 0 M) = -1 := h122
                   exact aw_wk (fin s2 n2 _ e2 f2 m2 (by unfold mlm; rw [if_neg (by have := of_decide_eq_false (bB_0.mp h91); rw [e52] at this; exact this), if_pos q])) (And.intro rfl (And.intro rfl (And.intro rfl (And.intro rfl (And.intro rfl (And.intro (congrArg (fun x => some (Value.int x)) (nI_1 t)) True.intro)))))))
                | (have q : ¬ oN (fs (mtm V S t (S 46 (5 * t + 1)) (S 52 (3 * t + 1)) (nI v)) 0 M) = -1 := h122
                   exact aw_wk (fin s2 n2 _ e2 f2 m2 (by unfold mlm; rw [if_neg (by have := of_decide_eq_false (bB_0.mp h91); rw [e52] at this; exact this), if_neg q, e2 46 _ rfl, e46])) (And.intro rfl (And.intro rfl (And.intro rfl (And.intro rfl (And.intro rfl (And.intro (congrArg (fun x => some (Value.int x)) (nI_1 t)) True.intro)))))))
              · refine aw_iconst (v := 1) rfl (by decide) ?_
                refine aw_goto (tgt := 130) rfl (by decide) ?_
                refine aw_istore rfl (by decide) ?_
                refine aw_aload_n rfl rfl ?_
                refine pg_39_43 rfl kl_X12_87 ?_
                refine aw_bipush (v := 10) rfl (by decide) ?_
                refine aw_iload rfl rfl ?_
                refine aw_imul rfl ?_
                refine aw_iload rfl rfl ?_
                refine aw_iadd rfl ?_
                refine aw_iload rfl rfl ?_
                refine aw_if_eq (tgt := 159) rfl (by decide) (fun h146 => absurd h146 (by decide)) (fun h146 => ?_)
                refine aw_aload_n rfl rfl ?_
                refine aw_iload rfl rfl ?_
                refine aw_iconst (v := 2) rfl (by decide) ?_
                refine aw_iV (q0 := 39) (ci := 12) rfl cw_X12_319 rfl rfl rfl (c_m_of (j := t) (c := 2) (by omega) (by decide)) rfl rfl (Nat.le_of_ble_eq_true rfl) (by decide) (by decide) (by decide) (by decide) ?_
                refine aw_goto (tgt := 160) rfl (by decide) ?_
                refine ps_59 rfl (show (10 : Int32) * nI t + nI v = nI (10 * t + v) from by (rw [show (10 : Int32) * nI t = nI (10 * t) from pk_mul 10 t]; exact nI_add _ _)) (by omega) ?_
                refine aw_inc1 rfl rfl (by decide) ?_
                refine aw_goto (tgt := 46) rfl (by decide) ?_
                first
                | (have q : bB (decide (s1 52 (3 * t + 1) = 0)) ≠ 0 := h91
                   exact aw_wk (fin s1 n1 _ eo_rf en_rf m1 (by unfold mlm; rw [if_pos (by have := of_decide_eq_true (bB_n0.mp h91); rw [e52] at this; exact this)])) (And.intro rfl (And.intro rfl (And.intro rfl (And.intro rfl (And.intro rfl (And.intro (congrArg (fun x => some (Value.int x)) (nI_1 t)) True.intro)))))))
                | (have q : oN (fs (mtm V S t (S 46 (5 * t + 1)) (S 52 (3 * t + 1)) (nI v)) 0 M) = -1 := h122
                   exact aw_wk (fin s2 n2 _ e2 f2 m2 (by unfold mlm; rw [if_neg (by have := of_decide_eq_false (bB_0.mp h91); rw [e52] at this; exact this), if_pos q])) (And.intro rfl (And.intro rfl (And.intro rfl (And.intro rfl (And.intro rfl (And.intro (congrArg (fun x => some (Value.int x)) (nI_1 t)) True.intro)))))))
                | (have q : ¬ oN (fs (mtm V S t (S 46 (5 * t + 1)) (S 52 (3 * t + 1)) (nI v)) 0 M) = -1 := h122
                   exact aw_wk (fin s2 n2 _ e2 f2 m2 (by unfold mlm; rw [if_neg (by have := of_decide_eq_false (bB_0.mp h91); rw [e52] at this; exact this), if_neg q, e2 46 _ rfl, e46])) (And.intro rfl (And.intro rfl (And.intro rfl (And.intro rfl (And.intro rfl (And.intro (congrArg (fun x => some (Value.int x)) (nI_1 t)) True.intro)))))))
          refine aw_iload rfl rfl ?_
          refine aw_aload_n rfl rfl ?_
          refine pg_39_26 rfl kl_X12_291 ?_
          refine aw_icmp_ge (tgt := 167) rfl (by decide) (fun h52 => absurd h52 (by rw [hT1]; exact nI_ge (by omega) (by omega))) (fun h52 => ?_)
          refine aw_aload_n rfl rfl ?_
          refine pg_39_32 rfl kl_X12_61 ?_
          refine aw_iconst (v := 3) rfl (by decide) ?_
          refine aw_iload rfl rfl ?_
          refine aw_imul rfl ?_
          refine aw_iconst (v := 0) rfl (by decide) ?_
          refine aw_iadd rfl ?_
          refine pl_52 rfl (i3 t 0) (by omega) ?_
          refine aw_iload rfl rfl ?_
          refine aw_icmp_ne (tgt := 82) rfl (by decide) (fun h68 => ?_) (fun h68 => ?_)
          · first
            | (have z : ¬ s1 52 (3 * t + 0) = nI v := h68
               have hUv : ¬ U t = v := fun e => z (by rw [e52]; show S 52 (3 * t) = _; rw [hue, e])
               exact aw_wk (part2 a s1 e52 e46 e1 m1 (by rw [ha, cA_n, if_neg hUv]; rfl) hq hml (by rw [show sF U v t a = a from by (unfold sF; rw [if_neg hUv])] at hY; exact hY)) (And.intro rfl (And.intro rfl (And.intro rfl (And.intro rfl (And.intro rfl (And.intro rfl True.intro)))))))
            | (have z : s1 52 (3 * t + 0) = nI v := h68
               refine aw_wk (part2 (fun q => if q = a.2 then v else a.1 q, a.2 + 1) _ e52 e46 (eo_up skN_58 e1) (upMJ hC m1).1 (by show a.2 + 1 = _; rw [ha, cA_n, if_pos hUv]) (fun q hqa => ?_) hml (by rw [show sF U v t a = _ from by (unfold sF; rw [if_pos hUv])] at hY; exact hY)) (And.intro rfl (And.intro rfl (And.intro rfl (And.intro (congrArg (fun x => some (Value.int x)) (nI_1 a.2)) (And.intro rfl (And.intro rfl True.intro))))))
               rw [up_s]
               by_cases e : q = a.2
               · simp only [e, if_true, and_true]; omega
               · simp only [e, if_false]; exact hq q (by have : q < a.2 + 1 := hqa; omega))
          · have hUv : U t = v := (nI_eq (by omega) (by omega)).mp (show nI (U t) = nI v from (by rw [← hue, ← e52]; exact h68))
            refine aw_aload_n rfl rfl ?_
            refine pg_39_42 rfl kl_X12_84 ?_
            refine aw_iload_n rfl rfl ?_
            refine aw_iload rfl rfl ?_
            refine ps_58 rfl rfl (by have := cA_lt (u := U) (v := v) (show t < T from by omega) hUv; omega) ?_
            refine aw_inc1 rfl rfl (by decide) ?_
            first
            | (have z : ¬ s1 52 (3 * t + 0) = nI v := h68
               have hUv : ¬ U t = v := fun e => z (by rw [e52]; show S 52 (3 * t) = _; rw [hue, e])
               exact aw_wk (part2 a s1 e52 e46 e1 m1 (by rw [ha, cA_n, if_neg hUv]; rfl) hq hml (by rw [show sF U v t a = a from by (unfold sF; rw [if_neg hUv])] at hY; exact hY)) (And.intro rfl (And.intro rfl (And.intro rfl (And.intro rfl (And.intro rfl (And.intro rfl True.intro)))))))
            | (have z : s1 52 (3 * t + 0) = nI v := h68
               refine aw_wk (part2 (fun q => if q = a.2 then v else a.1 q, a.2 + 1) _ e52 e46 (eo_up skN_58 e1) (upMJ hC m1).1 (by show a.2 + 1 = _; rw [ha, cA_n, if_pos hUv]) (fun q hqa => ?_) hml (by rw [show sF U v t a = _ from by (unfold sF; rw [if_pos hUv])] at hY; exact hY)) (And.intro rfl (And.intro rfl (And.intro rfl (And.intro (congrArg (fun x => some (Value.int x)) (nI_1 a.2)) (And.intro rfl (And.intro rfl True.intro))))))
               rw [up_s]
               by_cases e : q = a.2
               · simp only [e, if_true, and_true]; omega
               · simp only [e, if_false]; exact hq q (by have : q < a.2 + 1 := hqa; omega))
      refine aw_iload rfl rfl ?_
      refine aw_bipush (v := 9) rfl (by decide) ?_
      refine aw_icmp_gt (tgt := 173) rfl (by decide) (fun h40 => absurd h40 (Int32.not_lt.mpr (nI_le (b := 9) (by omega) (by decide)))) (fun h40 => ?_)
      refine aw_iconst (v := 0) rfl (by decide) ?_
      refine aw_istore rfl (by decide) ?_
      exact aw_wk (inner T 0 (by omega) a s1 n1 e1 f1 m1 ha hq (fun t' ht' u hu => hml t' ht' u (by omega)) hY.symm) (And.intro rfl (And.intro rfl (And.intro rfl (And.intro rfl (And.intro rfl (And.intro rfl True.intro))))))
  refine aw_aload_n rfl rfl ?_
  refine pg_39_26 rfl kl_X12_291 ?_
  refine aw_if_eq (tgt := 29) rfl (by decide) (fun h9 => ?_) (fun h9 => ?_)
  · refine aw_iconst (v := -1) rfl (by decide) ?_
    refine aw_ri rfl rfl ?_ eo_rf en_rf hC.2.2.1
    unfold m_dealt
    first
      | (rw [if_pos h9]; done)
      | (rw [if_neg h9, if_neg (by rw [bB_0.mp h16]; exact Bool.false_ne_true)]; done)
      | (rw [if_neg h9, if_pos q2, if_neg (by rw [bB_0.mp h26]; exact Bool.false_ne_true)]; done)
      | fail "x"
  · refine aw_iload_n rfl rfl ?_
    refine aw_iS rfl cw_X12_429 (c_m_isMonths) rfl rfl (Nat.le_of_ble_eq_true rfl) (by decide) (by decide) (by decide) (by decide) ?_
    refine aw_if_eq (tgt := 29) rfl (by decide) (fun h16 => ?_) (fun h16 => ?_)
    · refine aw_iconst (v := -1) rfl (by decide) ?_
      refine aw_ri rfl rfl ?_ eo_rf en_rf hC.2.2.1
      unfold m_dealt
      first
        | (rw [if_pos h9]; done)
        | (rw [if_neg h9, if_neg (by rw [bB_0.mp h16]; exact Bool.false_ne_true)]; done)
        | (rw [if_neg h9, if_pos q2, if_neg (by rw [bB_0.mp h26]; exact Bool.false_ne_true)]; done)
        | fail "x"
    · have q2 := bB_n0.mp h16
      obtain ⟨M, hM, hm⟩ := mm_in (M := 24) (by decide) (by decide) q2
      have hcm : cl m = M := by rw [hm]; exact cl_nI (by omega)
      refine aw_iload_n rfl rfl ?_
      refine aw_i2l rfl ?_
      refine aw_lconst (v := 0) rfl (by decide) ?_
      refine aw_lconst (v := 1) rfl (by decide) ?_
      refine aw_iS rfl cw_X12_217 (c_m_isIn) rfl rfl (Nat.le_of_ble_eq_true rfl) (by decide) (by decide) (by decide) (by decide) ?_
      refine aw_if_ne (tgt := 31) rfl (by decide) (fun h26 => ?_) (fun h26 => ?_)
      · refine aw_iconst (v := 0) rfl (by decide) ?_
        refine aw_istore_n rfl (by decide) ?_
        refine aw_iconst (v := 0) rfl (by decide) ?_
        refine aw_istore rfl (by decide) ?_
        exact aw_wk (loop _ M hM hm (by unfold m_dealt; rw [if_neg h9, if_pos q2, if_pos (bB_n0.mp h26), hcm]) 10 0 (by omega) (fun _ => 0, 0) S n eo_rf en_rf hC.2.2.1 (by unfold cA; rw [cN_no T (fun q _ => decide_eq_false (by omega))]; rfl) (fun q hq => absurd hq (by show ¬ q < 0; omega)) (fun t ht u hu => absurd hu (by omega)) rfl) (And.intro rfl (And.intro rfl (And.intro rfl (And.intro rfl (And.intro rfl True.intro)))))
      · refine aw_iconst (v := -1) rfl (by decide) ?_
        refine aw_ri rfl rfl ?_ eo_rf en_rf hC.2.2.1
        unfold m_dealt
        first
          | (rw [if_pos h9]; done)
          | (rw [if_neg h9, if_neg (by rw [bB_0.mp h16]; exact Bool.false_ne_true)]; done)
          | (rw [if_neg h9, if_pos q2, if_neg (by rw [bB_0.mp h26]; exact Bool.false_ne_true)]; done)
          | fail "x"
