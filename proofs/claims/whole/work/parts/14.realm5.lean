def sk16 : Nat → Nat → Bool := fun k _ => Nat.beq k 16
theorem eo_up16 {s s1 : am_S} {i : Nat} {v : Int32} (h : eo sk16 s s1) : eo sk16 s (up s1 16 i v) := eo_up (fun _ => rfl) h
theorem kb_16 {s s' : am_S} {T Q : Nat} (h : kb s T Q) (e : eo sk16 s s') : kb s' T Q := by
  obtain ⟨h1, h2, h3, h4, h5⟩ := h
  refine ⟨by rw [e 15 6 rfl]; exact h1, h2, by rw [e 15 7 rfl]; exact h3, h4, fun j hj => ?_⟩
  obtain ⟨o, ho, q⟩ := h5 j hj
  exact ⟨o, ho, by rw [e 18 j rfl]; exact q⟩
def meltAt (s : am_S) (ev : Int32) (i : Nat) : am_S := if s 16 (19 + i) = ev then up s 16 (12 + i) 0 else up (up (up s 16 (12 + i) 0) 16 (19 + i) ev) 16 2 (s 16 2 + s 20 i)
def passF (V : (Nat → Int32) → Int32) (wm ev : Int32) (i : Nat) (a : Int32 × am_S) : Int32 × am_S := if sl a.2 (nI i) = true then (if wm ≤ hdN V a.2 i then a else (a.1 ||| bt i, meltAt a.2 ev i)) else a
def aPass (V : (Nat → Int32) → Int32) (s : am_S) (T : Nat) : Int32 × am_S :=
  ((fd (passF V (warm (s 16 1) (s 16 4)) ((1 <<< (s 15 7 &&& 31)) - 1)) 0 T (0, s)).1, up (up (fd (passF V (warm (s 16 1) (s 16 4)) ((1 <<< (s 15 7 &&& 31)) - 1)) 0 T (0, s)).2 16 0 (mn 999 ((fd (passF V (warm (s 16 1) (s 16 4)) ((1 <<< (s 15 7 &&& 31)) - 1)) 0 T (0, s)).2 16 0 + s 15 8))) 16 4 ((fd (passF V (warm (s 16 1) (s 16 4)) ((1 <<< (s 15 7 &&& 31)) - 1)) 0 T (0, s)).2 16 4 + 1))
def aMonth (V : (Nat → Int32) → Int32) (s : am_S) (T : Nat) : Int32 × am_S := if 0 < s 15 6 then (if s 16 4 < 9999 then aPass V s T else (-1, s)) else (-1, s)
theorem eo_melt {s s1 : am_S} {ev : Int32} {i : Nat} (h : eo sk16 s s1) : eo sk16 s (meltAt s1 ev i) := by
  unfold meltAt
  split
  · exact eo_up16 h
  · exact eo_up16 (eo_up16 (eo_up16 h))
set_option maxRecDepth 4000 in
theorem c_X8_passes {l : Launch} {g : ag_G} {s : am_S} {n : am_N} {T Q : Nat} (hb : kb s T Q) {V : (Nat → Int32) → Int32} (hV : LawIs l g s n V) : aw_G l g mi_X8_passes 5 skC [.ref (g_ad g 15)] s n (.int (aMonth V s T).1) (aMonth V s T).2 := by
  have hT := hb.2.1
  refine aw_G_of mo_X8_passes (by decide) (Nat.le_of_ble_eq_true rfl) ?_
  refine aw_aload_n rfl rfl ?_
  refine aw_iV (q0 := 15) (ci := 8) rfl cw_X8_110 rfl rfl rfl (c_X8_isTold) rfl rfl (Nat.le_of_ble_eq_true rfl) (by decide) (by decide) (by decide) (by decide) ?_
  refine aw_if_eq (tgt := 19) rfl (by decide) (fun h4 => ?_) (fun h4 => ?_)
  · try rw [bB_0, decide_eq_false_iff_not] at h4
    refine aw_iconst (v := -1) rfl (by decide) ?_
    exact aw_gi rfl rfl (by unfold aMonth; first | rw [if_neg h4] | rw [if_pos h4, if_neg h16]) (by unfold aMonth; first | (rw [if_neg h4]; exact eo_rf) | (rw [if_pos h4, if_neg h16]; exact eo_rf))
  · rw [bB_n0, decide_eq_true_eq] at h4
    refine aw_aload_n rfl rfl ?_
    refine pg_15_1 rfl kl_X8_11 ?_
    refine aw_iconst (v := 4) rfl (by decide) ?_
    refine pl_16 (j := 4) rfl rfl (by decide) ?_
    refine aw_sipush (v := 9999) rfl (by decide) ?_
    refine aw_icmp_lt (tgt := 21) rfl (by decide) (fun h16 => ?_) (fun h16 => ?_)
    · have hY : aMonth V s T = aPass V s T := by unfold aMonth; rw [if_pos h4, if_pos h16]
      rw [hY]
      unfold aPass
      generalize hXX : fd (passF V (warm (s 16 1) (s 16 4)) ((1 <<< (s 15 7 &&& 31)) - 1)) 0 T (0, s) = X
      generalize hwm : warm (s 16 1) (s 16 4) = wm at hXX ⊢
      generalize hev : (1 : Int32) <<< (s 15 7 &&& 31) - 1 = ev at hXX ⊢
      have loop : ∀ (d i : Nat) (m : Int32) (sp s1 : am_S), eo sk16 s sp → eo skC sp s1 → i + d = T → fd (passF V wm ev) i d (m, sp) = X → aw_W l g mi_X8_passes (aw_rm 5 0 0) (aw_Z g (fun r w => ∃ s', r = some (.int X.1) ∧ w = hp g s' n ∧ eo skC (up (up X.2 16 0 (mn 999 (X.2 16 0 + s 15 8))) 16 4 (X.2 16 4 + 1)) s') 0 0) 0 0 (hp g s1 n) 40 [some (.ref (g_ad g 15)), some (.int wm), some (.int ev), some (.int m), some (.int (nI i))] [] := by
        intro d
        induction d with
        | zero =>
          intro i m sp s1 e0 e1 hi hX
          have hb1 := kb_eo (kb_16 hb e0) e1
          obtain rfl : X = (m, sp) := hX.symm
          refine aw_iload rfl rfl ?_
          refine aw_aload_n rfl rfl ?_
          refine pg_15_6 rfl kl_X8_43 ?_
          refine aw_icmp_ge (tgt := 133) rfl (by decide) (fun h46 => ?_) (fun h46 => absurd (by rw [hb1.1]; exact nI_le (by omega) (by omega)) h46)
          refine aw_aload_n rfl rfl ?_
          refine pg_15_1 rfl kl_X8_11 ?_
          refine aw_iconst (v := 0) rfl (by decide) ?_
          refine aw_sipush (v := 999) rfl (by decide) ?_
          refine aw_aload_n rfl rfl ?_
          refine pg_15_1 rfl kl_X8_11 ?_
          refine aw_iconst (v := 0) rfl (by decide) ?_
          refine pl_16 (j := 0) rfl rfl (by decide) ?_
          refine aw_aload_n rfl rfl ?_
          refine pg_15_8 rfl kl_X8_54 ?_
          refine aw_iadd rfl ?_
          refine aw_mmin rfl km_X8_70 (aw_t2 171 rfl rfl) (aw_t1 18 rfl rfl) (aw_t2 172 rfl rfl) (by decide) (Nat.le_of_ble_eq_true rfl) (by decide) (by decide) ?_
          refine ps_16 (j := 0) rfl rfl (by decide) ?_
          refine aw_aload_n rfl rfl ?_
          refine pg_15_1 rfl kl_X8_11 ?_
          refine aw_iconst (v := 4) rfl (by decide) ?_
          refine aw_dup2 rfl rfl rfl ?_
          refine pl_16 (j := 4) rfl rfl (by decide) ?_
          refine aw_iconst (v := 1) rfl (by decide) ?_
          refine aw_iadd rfl ?_
          refine ps_16 (j := 4) rfl rfl (by decide) ?_
          refine aw_iload_n rfl rfl ?_
          exact aw_gi rfl rfl rfl (eo_up2 (eo_up2 e1 (by rw [e1 16 0 rfl, e1 15 8 rfl, e0 15 8 rfl]; rfl)) (by show up s1 16 0 _ 16 4 + 1 = _; rw [up_s, if_neg (by decide), e1 16 4 rfl]))
        | succ d ih =>
          intro i m sp s1 e0 e1 hi hX
          have hb1 := kb_eo (kb_16 hb e0) e1
          refine aw_iload rfl rfl ?_
          refine aw_aload_n rfl rfl ?_
          refine pg_15_6 rfl kl_X8_43 ?_
          refine aw_icmp_ge (tgt := 133) rfl (by decide) (fun h46 => absurd h46 (by rw [hb1.1]; exact nI_ge (by omega) (by omega))) (fun h46 => ?_)
          refine aw_aload_n rfl rfl ?_
          refine aw_iload rfl rfl ?_
          refine aw_iV (q0 := 15) (ci := 8) rfl cw_X8_117 rfl rfl rfl (c_X8_isSealed hb1) rfl rfl (Nat.le_of_ble_eq_true rfl) (by decide) (by decide) (by decide) (by decide) ?_
          refine aw_if_eq (tgt := 127) rfl (by decide) (fun h55 => ?_) (fun h55 => ?_)
          · skip
            refine aw_inc1 rfl rfl (by decide) ?_
            refine aw_goto (tgt := 40) rfl (by decide) ?_
            first
              | (refine aw_wk (ih (i + 1) m sp s1 e0 e1 (by omega) ?_) (And.intro rfl (And.intro rfl (And.intro rfl (And.intro rfl (And.intro (congrArg (fun x => some (Value.int x)) (nI_1 i)) True.intro))))); rw [← hX]; show _ = fd _ (i + 1) d (passF V wm ev i (m, sp)); rw [show passF V wm ev i (m, sp) = (m, sp) from by (unfold passF; rw [if_neg (by rw [← sl_eo e1, bB_0.mp h55]; decide)])])
              | (refine aw_wk (ih (i + 1) m sp s2 e0 (eo_tr e1 e2) (by omega) ?_) (And.intro rfl (And.intro rfl (And.intro rfl (And.intro rfl (And.intro (congrArg (fun x => some (Value.int x)) (nI_1 i)) True.intro))))); rw [← hX]; show _ = fd _ (i + 1) d (passF V wm ev i (m, sp)); rw [show passF V wm ev i (m, sp) = (m, sp) from by (unfold passF; rw [if_pos q55, if_pos (by rw [← hdN_eo e1]; exact h65)])])
              | (refine aw_wk (ih (i + 1) _ (meltAt sp ev i) _ (eo_melt e0) ?_ (by omega) ?_) (And.intro rfl (And.intro rfl (And.intro rfl (And.intro rfl (And.intro (congrArg (fun x => some (Value.int x)) (nI_1 i)) True.intro)))))
                 · unfold meltAt
                   have e12 := eo_tr e1 e2
                   first
                     | (rw [if_pos (by rw [← h97, up_s, if_neg (by omega), e12 16 (19 + i) rfl])]; exact eo_up2 e12 rfl)
                     | (rw [if_neg (by intro q; apply h97; rw [up_s, if_neg (by omega), e12 16 (19 + i) rfl]; exact q)]; exact eo_up2 (eo_up2 (eo_up2 e12 rfl) rfl) (by rw [up_s, if_neg (by omega), up_s, if_neg (by omega), e12 16 2 rfl]; show sp 16 2 + s2 20 i = _; rw [e12 20 i rfl]))
                 · rw [← hX]; show _ = fd _ (i + 1) d (passF V wm ev i (m, sp)); rw [show passF V wm ev i (m, sp) = (m ||| bt i, meltAt sp ev i) from by (unfold passF; rw [if_pos q55, if_neg (by rw [← hdN_eo e1]; first | exact h65 | (rw [hdN_eo e1]; exact h65))])]; rfl)
          · have q55 : sl sp (nI i) = true := by rw [← sl_eo e1]; exact bB_n0.mp h55
            refine aw_iload_n rfl rfl ?_
            refine aw_aload_n rfl rfl ?_
            refine aw_iload rfl rfl ?_
            refine aw_eV (q0 := 15) (ci := 8) rfl cw_X8_120 rfl rfl rfl (c_X8_holdsNow hb1 (by omega) ((hV.mv (fun j => e0 10 j rfl)).eC e1)) rfl rfl (Nat.le_of_ble_eq_true rfl) (by decide) (by decide) (by decide) (by decide) (fun s2 e2 => ?_)
            refine aw_icmp_le (tgt := 127) rfl (by decide) (fun h65 => ?_) (fun h65 => ?_)
            · skip
              refine aw_inc1 rfl rfl (by decide) ?_
              refine aw_goto (tgt := 40) rfl (by decide) ?_
              first
                | (refine aw_wk (ih (i + 1) m sp s1 e0 e1 (by omega) ?_) (And.intro rfl (And.intro rfl (And.intro rfl (And.intro rfl (And.intro (congrArg (fun x => some (Value.int x)) (nI_1 i)) True.intro))))); rw [← hX]; show _ = fd _ (i + 1) d (passF V wm ev i (m, sp)); rw [show passF V wm ev i (m, sp) = (m, sp) from by (unfold passF; rw [if_neg (by rw [← sl_eo e1, bB_0.mp h55]; decide)])])
                | (refine aw_wk (ih (i + 1) m sp s2 e0 (eo_tr e1 e2) (by omega) ?_) (And.intro rfl (And.intro rfl (And.intro rfl (And.intro rfl (And.intro (congrArg (fun x => some (Value.int x)) (nI_1 i)) True.intro))))); rw [← hX]; show _ = fd _ (i + 1) d (passF V wm ev i (m, sp)); rw [show passF V wm ev i (m, sp) = (m, sp) from by (unfold passF; rw [if_pos q55, if_pos (by rw [← hdN_eo e1]; exact h65)])])
                | (refine aw_wk (ih (i + 1) _ (meltAt sp ev i) _ (eo_melt e0) ?_ (by omega) ?_) (And.intro rfl (And.intro rfl (And.intro rfl (And.intro rfl (And.intro (congrArg (fun x => some (Value.int x)) (nI_1 i)) True.intro)))))
                   · unfold meltAt
                     have e12 := eo_tr e1 e2
                     first
                       | (rw [if_pos (by rw [← h97, up_s, if_neg (by omega), e12 16 (19 + i) rfl])]; exact eo_up2 e12 rfl)
                       | (rw [if_neg (by intro q; apply h97; rw [up_s, if_neg (by omega), e12 16 (19 + i) rfl]; exact q)]; exact eo_up2 (eo_up2 (eo_up2 e12 rfl) rfl) (by rw [up_s, if_neg (by omega), up_s, if_neg (by omega), e12 16 2 rfl]; show sp 16 2 + s2 20 i = _; rw [e12 20 i rfl]))
                   · rw [← hX]; show _ = fd _ (i + 1) d (passF V wm ev i (m, sp)); rw [show passF V wm ev i (m, sp) = (m ||| bt i, meltAt sp ev i) from by (unfold passF; rw [if_pos q55, if_neg (by rw [← hdN_eo e1]; first | exact h65 | (rw [hdN_eo e1]; exact h65))])]; rfl)
            · rw [hdN_eo e1] at h65
              refine aw_iload_n rfl rfl ?_
              refine aw_iconst (v := 1) rfl (by decide) ?_
              refine aw_iload rfl rfl ?_
              refine aw_ishl rfl ?_
              refine aw_ior rfl ?_
              refine aw_istore_n rfl (by decide) ?_
              refine aw_aload_n rfl rfl ?_
              refine pg_15_1 rfl kl_X8_11 ?_
              refine aw_bipush (v := 12) rfl (by decide) ?_
              refine aw_iload rfl rfl ?_
              refine aw_iadd rfl ?_
              refine aw_iconst (v := 0) rfl (by decide) ?_
              refine ps_16 rfl (iL 12 i rfl) (by omega) ?_
              refine aw_aload_n rfl rfl ?_
              refine pg_15_1 rfl kl_X8_11 ?_
              refine aw_bipush (v := 19) rfl (by decide) ?_
              refine aw_iload rfl rfl ?_
              refine aw_iadd rfl ?_
              refine pl_16 rfl (iL 19 i rfl) (by omega) ?_
              refine aw_iload_n rfl rfl ?_
              refine aw_icmp_eq (tgt := 127) rfl (by decide) (fun h97 => ?_) (fun h97 => ?_)
              · skip
                refine aw_inc1 rfl rfl (by decide) ?_
                refine aw_goto (tgt := 40) rfl (by decide) ?_
                first
                  | (refine aw_wk (ih (i + 1) m sp s1 e0 e1 (by omega) ?_) (And.intro rfl (And.intro rfl (And.intro rfl (And.intro rfl (And.intro (congrArg (fun x => some (Value.int x)) (nI_1 i)) True.intro))))); rw [← hX]; show _ = fd _ (i + 1) d (passF V wm ev i (m, sp)); rw [show passF V wm ev i (m, sp) = (m, sp) from by (unfold passF; rw [if_neg (by rw [← sl_eo e1, bB_0.mp h55]; decide)])])
                  | (refine aw_wk (ih (i + 1) m sp s2 e0 (eo_tr e1 e2) (by omega) ?_) (And.intro rfl (And.intro rfl (And.intro rfl (And.intro rfl (And.intro (congrArg (fun x => some (Value.int x)) (nI_1 i)) True.intro))))); rw [← hX]; show _ = fd _ (i + 1) d (passF V wm ev i (m, sp)); rw [show passF V wm ev i (m, sp) = (m, sp) from by (unfold passF; rw [if_pos q55, if_pos (by rw [← hdN_eo e1]; exact h65)])])
                  | (refine aw_wk (ih (i + 1) _ (meltAt sp ev i) _ (eo_melt e0) ?_ (by omega) ?_) (And.intro rfl (And.intro rfl (And.intro rfl (And.intro rfl (And.intro (congrArg (fun x => some (Value.int x)) (nI_1 i)) True.intro)))))
                     · unfold meltAt
                       have e12 := eo_tr e1 e2
                       first
                         | (rw [if_pos (by rw [← h97, up_s, if_neg (by omega), e12 16 (19 + i) rfl])]; exact eo_up2 e12 rfl)
                         | (rw [if_neg (by intro q; apply h97; rw [up_s, if_neg (by omega), e12 16 (19 + i) rfl]; exact q)]; exact eo_up2 (eo_up2 (eo_up2 e12 rfl) rfl) (by rw [up_s, if_neg (by omega), up_s, if_neg (by omega), e12 16 2 rfl]; show sp 16 2 + s2 20 i = _; rw [e12 20 i rfl]))
                     · rw [← hX]; show _ = fd _ (i + 1) d (passF V wm ev i (m, sp)); rw [show passF V wm ev i (m, sp) = (m ||| bt i, meltAt sp ev i) from by (unfold passF; rw [if_pos q55, if_neg (by rw [← hdN_eo e1]; first | exact h65 | (rw [hdN_eo e1]; exact h65))])]; rfl)
              · refine aw_aload_n rfl rfl ?_
                refine pg_15_1 rfl kl_X8_11 ?_
                refine aw_bipush (v := 19) rfl (by decide) ?_
                refine aw_iload rfl rfl ?_
                refine aw_iadd rfl ?_
                refine aw_iload_n rfl rfl ?_
                refine ps_16 rfl (iL 19 i rfl) (by omega) ?_
                refine aw_aload_n rfl rfl ?_
                refine pg_15_1 rfl kl_X8_11 ?_
                refine aw_iconst (v := 2) rfl (by decide) ?_
                refine aw_dup2 rfl rfl rfl ?_
                refine pl_16 (j := 2) rfl rfl (by decide) ?_
                refine aw_aload_n rfl rfl ?_
                refine pg_15_5 rfl kl_X8_24 ?_
                refine aw_iload rfl rfl ?_
                refine pl_20 rfl rfl (by omega) ?_
                refine aw_iadd rfl ?_
                refine ps_16 (j := 2) rfl rfl (by decide) ?_
                skip
                refine aw_inc1 rfl rfl (by decide) ?_
                refine aw_goto (tgt := 40) rfl (by decide) ?_
                first
                  | (refine aw_wk (ih (i + 1) m sp s1 e0 e1 (by omega) ?_) (And.intro rfl (And.intro rfl (And.intro rfl (And.intro rfl (And.intro (congrArg (fun x => some (Value.int x)) (nI_1 i)) True.intro))))); rw [← hX]; show _ = fd _ (i + 1) d (passF V wm ev i (m, sp)); rw [show passF V wm ev i (m, sp) = (m, sp) from by (unfold passF; rw [if_neg (by rw [← sl_eo e1, bB_0.mp h55]; decide)])])
                  | (refine aw_wk (ih (i + 1) m sp s2 e0 (eo_tr e1 e2) (by omega) ?_) (And.intro rfl (And.intro rfl (And.intro rfl (And.intro rfl (And.intro (congrArg (fun x => some (Value.int x)) (nI_1 i)) True.intro))))); rw [← hX]; show _ = fd _ (i + 1) d (passF V wm ev i (m, sp)); rw [show passF V wm ev i (m, sp) = (m, sp) from by (unfold passF; rw [if_pos q55, if_pos (by rw [← hdN_eo e1]; exact h65)])])
                  | (refine aw_wk (ih (i + 1) _ (meltAt sp ev i) _ (eo_melt e0) ?_ (by omega) ?_) (And.intro rfl (And.intro rfl (And.intro rfl (And.intro rfl (And.intro (congrArg (fun x => some (Value.int x)) (nI_1 i)) True.intro)))))
                     · unfold meltAt
                       have e12 := eo_tr e1 e2
                       first
                         | (rw [if_pos (by rw [← h97, up_s, if_neg (by omega), e12 16 (19 + i) rfl])]; exact eo_up2 e12 rfl)
                         | (rw [if_neg (by intro q; apply h97; rw [up_s, if_neg (by omega), e12 16 (19 + i) rfl]; exact q)]; exact eo_up2 (eo_up2 (eo_up2 e12 rfl) rfl) (by rw [up_s, if_neg (by omega), up_s, if_neg (by omega), e12 16 2 rfl]; show sp 16 2 + s2 20 i = _; rw [e12 20 i rfl]))
                     · rw [← hX]; show _ = fd _ (i + 1) d (passF V wm ev i (m, sp)); rw [show passF V wm ev i (m, sp) = (m ||| bt i, meltAt sp ev i) from by (unfold passF; rw [if_pos q55, if_neg (by rw [← hdN_eo e1]; first | exact h65 | (rw [hdN_eo e1]; exact h65))])]; rfl)
      refine aw_aload_n rfl rfl ?_
      refine aw_iV (q0 := 15) (ci := 8) rfl cw_X8_114 rfl rfl rfl (c_X8_warmthNow) rfl rfl (Nat.le_of_ble_eq_true rfl) (by decide) (by decide) (by decide) (by decide) ?_
      refine aw_istore_n rfl (by decide) ?_
      refine aw_iconst (v := 1) rfl (by decide) ?_
      refine aw_aload_n rfl rfl ?_
      refine pg_15_7 rfl kl_X8_47 ?_
      refine aw_ishl rfl ?_
      refine aw_iconst (v := 1) rfl (by decide) ?_
      refine aw_isub rfl ?_
      refine aw_istore_n rfl (by decide) ?_
      refine aw_iconst (v := 0) rfl (by decide) ?_
      refine aw_istore_n rfl (by decide) ?_
      refine aw_iconst (v := 0) rfl (by decide) ?_
      refine aw_istore rfl (by decide) ?_
      refine aw_wk (loop T 0 0 s s eo_rf eo_rf (by omega) hXX) (And.intro rfl (And.intro (congrArg (fun x => some (Value.int x)) hwm) (And.intro (congrArg (fun x => some (Value.int x)) hev) (And.intro rfl (And.intro rfl True.intro)))))
    · try rw [bB_0, decide_eq_false_iff_not] at h4
      refine aw_iconst (v := -1) rfl (by decide) ?_
      exact aw_gi rfl rfl (by unfold aMonth; first | rw [if_neg h4] | rw [if_pos h4, if_neg h16]) (by unfold aMonth; first | (rw [if_neg h4]; exact eo_rf) | (rw [if_pos h4, if_neg h16]; exact eo_rf))
