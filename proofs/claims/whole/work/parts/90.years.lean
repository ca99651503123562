/-! the class's years -/
def ydH (DX : Int64 → Int64) (DV : Int64 → Int32 → Int32) (f : Nat → Int32) (x : Int64) : Nat → Int32 := upd f 1 (mx 0 (mn 40 (f 1 + (if DV (DX x) 10 < 5 then -1 else 1))))
def ydK (DX : Int64 → Int64) (DV : Int64 → Int32 → Int32) (s : am_S) (f : Nat → Int32) (x : Int64) : (Nat → Int32) × Int64 := if s 0 7 ≤ DV (DX (DX x)) 10 then (ydH DX DV f x, DX (DX x)) else ((kPry s (ydH DX DV f x) (DV (DX (DX (DX x))) (s 15 6)) (DV (DX (DX (DX (DX x)))) (s 15 7))).2, DX (DX (DX (DX x))))
def aw_dr (l : Launch) (g : ag_G) (DX : Int64 → Int64) (DV : Int64 → Int32 → Int32) : Prop := ∀ (s : am_S) (n : am_N) (j : Int32), ¬ j < 1 → aw_F l g mi_X1_next 0 [.ref (g_ad g 38), .int j] (hp g s n) (.int (DV (DX (n.1 38 0)) j)) (hp g s (upL n 38 0 (DX (n.1 38 0))))
theorem aPry_16 {s : am_S} {v : Int32} {t r : Int32} : (aPry (up s 16 1 v) t r).2 = upR s 16 (kPry s (upd (s 16) 1 v) t r).2 := by
  rw [aPry_r]
  show upR (upR s 16 (upd (s 16) 1 v)) 16 (kPry (upR s 16 (upd (s 16) 1 v)) (upR s 16 (upd (s 16) 1 v) 16) t r).2 = _
  rw [upR_upR, upR_s]
  rfl
set_option maxRecDepth 4000 in
theorem c_X11_drawsAhead {l : Launch} {g : ag_G} {s : am_S} {n : am_N} {DX : Int64 → Int64} {DV : Int64 → Int32 → Int32} (hdr : aw_dr l g DX DV) {T Q : Nat} (hb : kb s T Q) (hT0 : 0 < T) : aw_V l g mi_X11_drawsAhead 3 [.ref (g_ad g 0)] (hp g s n) (hp g (upR s 16 (ydK DX DV s (s 16) (n.1 38 0)).1) (upL n 38 0 (ydK DX DV s (s 16) (n.1 38 0)).2)) := by
  have hT := hb.2.1
  have hQ0 : 0 < Q := by
    obtain ⟨o, ho, -⟩ := hb.2.2.2.2 0 hT0
    omega
  have hQ := hb.2.2.2.1
  have hdT : ¬ s 15 6 < 1 := by rw [hb.1]; exact Int32.not_lt.mpr (nI_le (a := 1) (by omega) (by omega))
  have hdQ : ¬ s 15 7 < 1 := by rw [hb.2.2.1]; exact Int32.not_lt.mpr (nI_le (a := 1) (by omega) (by omega))
  refine aw_V_of mo_X11_drawsAhead (by decide) (Nat.le_of_ble_eq_true rfl) ?_
  refine aw_aload_n rfl rfl ?_
  refine pg_0_8 rfl kl_X11_57 ?_
  refine aw_aload_n rfl rfl ?_
  refine pg_0_13 rfl kl_X11_94 ?_
  refine aw_bipush (v := 10) rfl (by decide) ?_
  refine aw_iV (q0 := 38) (ci := 1) rfl cw_X11_228 rfl rfl rfl (hdr _ _ 10 (by decide)) rfl rfl (Nat.le_of_ble_eq_true rfl) (by decide) (by decide) (by decide) (by decide) ?_
  refine aw_iconst (v := 5) rfl (by decide) ?_
  refine aw_icmp_lt (tgt := 21) rfl (by decide) (fun h14 => ?_) (fun h14 => ?_)
  · refine aw_iconst (v := -1) rfl (by decide) ?_
    refine aw_vV (q0 := 15) (ci := 8) rfl cw_X11_231 rfl rfl rfl (c_X8_warms) rfl rfl (Nat.le_of_ble_eq_true rfl) (by decide) (by decide) (by decide) (by decide) ?_
    first
    | (have z : DV (DX (n.1 38 0)) 10 < 5 := h14
       refine aw_eqs (ws' := hp g (up s 16 1 (mx 0 (mn 40 (s 16 1 + (if DV (DX (n.1 38 0)) 10 < 5 then -1 else 1))))) (upL n 38 0 (DX (n.1 38 0)))) ?_ rfl rfl (congrArg (fun v => hp g (up s 16 1 (mx 0 (mn 40 (s 16 1 + v)))) (upL n 38 0 (DX (n.1 38 0)))) (by rw [if_pos z])))
    | (have z : ¬ DV (DX (n.1 38 0)) 10 < 5 := h14
       refine aw_eqs (ws' := hp g (up s 16 1 (mx 0 (mn 40 (s 16 1 + (if DV (DX (n.1 38 0)) 10 < 5 then -1 else 1))))) (upL n 38 0 (DX (n.1 38 0)))) ?_ rfl rfl (congrArg (fun v => hp g (up s 16 1 (mx 0 (mn 40 (s 16 1 + v)))) (upL n 38 0 (DX (n.1 38 0)))) (by rw [if_neg z])))
    refine aw_aload_n rfl rfl ?_
    refine pg_0_13 rfl kl_X11_94 ?_
    refine aw_bipush (v := 10) rfl (by decide) ?_
    refine aw_iV (q0 := 38) (ci := 1) rfl cw_X11_228 rfl rfl rfl (hdr _ _ 10 (by decide)) rfl rfl (Nat.le_of_ble_eq_true rfl) (by decide) (by decide) (by decide) (by decide) ?_
    simp only [upL_s, upL_u]
    refine aw_aload_n rfl rfl ?_
    refine pg_0_7 rfl kl_X11_186 ?_
    refine aw_icmp_ge (tgt := 81) rfl (by decide) (fun h38 => ?_) (fun h38 => ?_)
    · first
      | exact aw_fv rfl rfl (by (unfold ydK; rw [if_pos (show s 0 7 ≤ DV (DX (DX (n.1 38 0))) 10 from h38)]; rfl))
      | exact aw_fv rfl rfl (by (unfold ydK; rw [if_neg (show ¬ s 0 7 ≤ DV (DX (DX (n.1 38 0))) 10 from h38)]; exact congrArg (fun z => hp g z _) aPry_16))
    · refine aw_aload_n rfl rfl ?_
      refine pg_0_13 rfl kl_X11_94 ?_
      refine aw_aload_n rfl rfl ?_
      refine pg_0_8 rfl kl_X11_57 ?_
      refine pg_15_6 rfl kl_X11_122 ?_
      refine aw_iV (q0 := 38) (ci := 1) rfl cw_X11_228 rfl rfl rfl (hdr _ _ _ hdT) rfl rfl (Nat.le_of_ble_eq_true rfl) (by decide) (by decide) (by decide) (by decide) ?_
      simp only [upL_s, upL_u]
      refine aw_istore_n rfl (by decide) ?_
      refine aw_aload_n rfl rfl ?_
      refine pg_0_13 rfl kl_X11_94 ?_
      refine aw_aload_n rfl rfl ?_
      refine pg_0_8 rfl kl_X11_57 ?_
      refine pg_15_7 rfl kl_X11_234 ?_
      refine aw_iV (q0 := 38) (ci := 1) rfl cw_X11_228 rfl rfl rfl (hdr _ _ _ hdQ) rfl rfl (Nat.le_of_ble_eq_true rfl) (by decide) (by decide) (by decide) (by decide) ?_
      simp only [upL_s, upL_u]
      refine aw_istore_n rfl (by decide) ?_
      refine aw_aload_n rfl rfl ?_
      refine pg_0_8 rfl kl_X11_57 ?_
      refine aw_iload_n rfl rfl ?_
      refine aw_iload_n rfl rfl ?_
      refine aw_iV (q0 := 15) (ci := 8) rfl cw_X11_237 rfl rfl rfl (c_X8_pries (s := (up s 16 1 (mx 0 (mn 40 (s 16 1 + (if DV (DX (n.1 38 0)) 10 < 5 then -1 else 1)))))) hb) rfl rfl (Nat.le_of_ble_eq_true rfl) (by decide) (by decide) (by decide) (by decide) ?_
      refine aw_pop rfl rfl ?_
      first
      | exact aw_fv rfl rfl (by (unfold ydK; rw [if_pos (show s 0 7 ≤ DV (DX (DX (n.1 38 0))) 10 from h38)]; rfl))
      | exact aw_fv rfl rfl (by (unfold ydK; rw [if_neg (show ¬ s 0 7 ≤ DV (DX (DX (n.1 38 0))) 10 from h38)]; exact congrArg (fun z => hp g z _) aPry_16))
  · refine aw_iconst (v := 1) rfl (by decide) ?_
    refine aw_goto (tgt := 22) rfl (by decide) ?_
    refine aw_vV (q0 := 15) (ci := 8) rfl cw_X11_231 rfl rfl rfl (c_X8_warms) rfl rfl (Nat.le_of_ble_eq_true rfl) (by decide) (by decide) (by decide) (by decide) ?_
    first
    | (have z : DV (DX (n.1 38 0)) 10 < 5 := h14
       refine aw_eqs (ws' := hp g (up s 16 1 (mx 0 (mn 40 (s 16 1 + (if DV (DX (n.1 38 0)) 10 < 5 then -1 else 1))))) (upL n 38 0 (DX (n.1 38 0)))) ?_ rfl rfl (congrArg (fun v => hp g (up s 16 1 (mx 0 (mn 40 (s 16 1 + v)))) (upL n 38 0 (DX (n.1 38 0)))) (by rw [if_pos z])))
    | (have z : ¬ DV (DX (n.1 38 0)) 10 < 5 := h14
       refine aw_eqs (ws' := hp g (up s 16 1 (mx 0 (mn 40 (s 16 1 + (if DV (DX (n.1 38 0)) 10 < 5 then -1 else 1))))) (upL n 38 0 (DX (n.1 38 0)))) ?_ rfl rfl (congrArg (fun v => hp g (up s 16 1 (mx 0 (mn 40 (s 16 1 + v)))) (upL n 38 0 (DX (n.1 38 0)))) (by rw [if_neg z])))
    refine aw_aload_n rfl rfl ?_
    refine pg_0_13 rfl kl_X11_94 ?_
    refine aw_bipush (v := 10) rfl (by decide) ?_
    refine aw_iV (q0 := 38) (ci := 1) rfl cw_X11_228 rfl rfl rfl (hdr _ _ 10 (by decide)) rfl rfl (Nat.le_of_ble_eq_true rfl) (by decide) (by decide) (by decide) (by decide) ?_
    simp only [upL_s, upL_u]
    refine aw_aload_n rfl rfl ?_
    refine pg_0_7 rfl kl_X11_186 ?_
    refine aw_icmp_ge (tgt := 81) rfl (by decide) (fun h38 => ?_) (fun h38 => ?_)
    · first
      | exact aw_fv rfl rfl (by (unfold ydK; rw [if_pos (show s 0 7 ≤ DV (DX (DX (n.1 38 0))) 10 from h38)]; rfl))
      | exact aw_fv rfl rfl (by (unfold ydK; rw [if_neg (show ¬ s 0 7 ≤ DV (DX (DX (n.1 38 0))) 10 from h38)]; exact congrArg (fun z => hp g z _) aPry_16))
    · refine aw_aload_n rfl rfl ?_
      refine pg_0_13 rfl kl_X11_94 ?_
      refine aw_aload_n rfl rfl ?_
      refine pg_0_8 rfl kl_X11_57 ?_
      refine pg_15_6 rfl kl_X11_122 ?_
      refine aw_iV (q0 := 38) (ci := 1) rfl cw_X11_228 rfl rfl rfl (hdr _ _ _ hdT) rfl rfl (Nat.le_of_ble_eq_true rfl) (by decide) (by decide) (by decide) (by decide) ?_
      simp only [upL_s, upL_u]
      refine aw_istore_n rfl (by decide) ?_
      refine aw_aload_n rfl rfl ?_
      refine pg_0_13 rfl kl_X11_94 ?_
      refine aw_aload_n rfl rfl ?_
      refine pg_0_8 rfl kl_X11_57 ?_
      refine pg_15_7 rfl kl_X11_234 ?_
      refine aw_iV (q0 := 38) (ci := 1) rfl cw_X11_228 rfl rfl rfl (hdr _ _ _ hdQ) rfl rfl (Nat.le_of_ble_eq_true rfl) (by decide) (by decide) (by decide) (by decide) ?_
      simp only [upL_s, upL_u]
      refine aw_istore_n rfl (by decide) ?_
      refine aw_aload_n rfl rfl ?_
      refine pg_0_8 rfl kl_X11_57 ?_
      refine aw_iload_n rfl rfl ?_
      refine aw_iload_n rfl rfl ?_
      refine aw_iV (q0 := 15) (ci := 8) rfl cw_X11_237 rfl rfl rfl (c_X8_pries (s := (up s 16 1 (mx 0 (mn 40 (s 16 1 + (if DV (DX (n.1 38 0)) 10 < 5 then -1 else 1)))))) hb) rfl rfl (Nat.le_of_ble_eq_true rfl) (by decide) (by decide) (by decide) (by decide) ?_
      refine aw_pop rfl rfl ?_
      first
      | exact aw_fv rfl rfl (by (unfold ydK; rw [if_pos (show s 0 7 ≤ DV (DX (DX (n.1 38 0))) 10 from h38)]; rfl))
      | exact aw_fv rfl rfl (by (unfold ydK; rw [if_neg (show ¬ s 0 7 ≤ DV (DX (DX (n.1 38 0))) 10 from h38)]; exact congrArg (fun z => hp g z _) aPry_16))
theorem kPry_4 {s : am_S} {f : Nat → Int32} {T Q : Nat} {b c : Int32} (hb : kb s T Q) : (kPry s f b c).2 4 = f 4 := by
  have hT := hb.2.1
  unfold kPry
  split
  · rfl
  · rename_i h1
    have := slF_cl hb h1
    split
    · rfl
    · rename_i h2
      have := isR_cl hb h2
      (repeat' split) <;> first | rfl | (exact (upd_n (f := upd f (19 + cl b) (f (19 + cl b) ||| 1 <<< (c &&& 31))) (i := 3) (j := 4) (v := f 3 + 1) (by decide)).trans (upd_n (by omega))) | (show upd (upd (upd (upd f _ _) _ _) _ _) _ _ 4 = f 4; rw [upd_n (by omega), upd_n (by omega), upd_n (by omega), upd_n (by omega)])
theorem ydK_4 {DX : Int64 → Int64} {DV : Int64 → Int32 → Int32} {s : am_S} {f : Nat → Int32} {x : Int64} {T Q : Nat} (hb : kb s T Q) : (ydK DX DV s f x).1 4 = f 4 := by
  have h1 : ydH DX DV f x 4 = f 4 := by (unfold ydH; rw [upd_n (by decide)])
  unfold ydK
  split
  · exact h1
  · exact (kPry_4 hb).trans h1
theorem ydK_c {DX : Int64 → Int64} {DV : Int64 → Int32 → Int32} {s s' : am_S} (h : eqS s s') (h7 : s' 0 7 = s 0 7) : ydK DX DV s' = ydK DX DV s := by
  obtain ⟨h15, h18, h19, h20⟩ := h
  funext f x
  unfold ydK
  unfold kPry slF isT isR
  rw [h15 6, h15 7, h18, h7]
def ycG (V : (Nat → Int32) → Int32) (s : am_S) (T tm : Nat) (f : Nat → Int32) : am_S := if (kMonth V s T f).1 = -1 then upR (cp s 16 23 0 0 36) 16 (kMonth V s T f).2 else wr (upR (cp s 16 23 0 0 36) 16 (kMonth V s T f).2) tm (warm (f 1) (f 4)) (kMonth V s T f).1
def ycS (DX : Int64 → Int64) (DV : Int64 → Int32 → Int32) (V : (Nat → Int32) → Int32) (T : Nat) (s : am_S) (x : Int64) : am_S × Int64 := (keep (ycG V s T (cl (s 16 4)) (ydK DX DV s (s 16) x).1) (cl (s 21 3)) (cl (s 21 4)), (ydK DX DV s (s 16) x).2)
def ycL (DX : Int64 → Int64) (DV : Int64 → Int32 → Int32) (V : (Nat → Int32) → Int32) (T : Nat) : Nat → am_S → Int64 → am_S
  | 0, s, _ => s
  | d + 1, s, x => ycL DX DV V T d (ycS DX DV V T s x).1 (ycS DX DV V T s x).2
def q_years (DX : Int64 → Int64) (DV : Int64 → Int32 → Int32) (V : (Nat → Int32) → Int32) (s : am_S) (T : Nat) (m : Int32) (x : Int64) : Int32 × am_S := if 0 < s 15 6 then (if m < 1 then (-1, s) else if 60 < m then (-1, s) else if s 16 4 + m ≤ 9999 then (ycL DX DV V T (cl m) s x 16 4, ycL DX DV V T (cl m) s x) else (-1, s)) else (-1, s)
theorem dGo_yc {V : (Nat → Int32) → Int32} {s : am_S} {T tm : Nat} {f : Nat → Int32} : (dGo V (upR (cp s 16 23 0 0 36) 16 f) T tm).2 = ycG V s T tm f := by
  have em : kMonth V (upR (cp s 16 23 0 0 36) 16 f) = kMonth V s := kMonth_c ⟨fun _ => rfl, rfl, rfl, rfl⟩
  unfold dGo ycG
  rw [aMonth_r, em, upR_s]
  by_cases h1 : (kMonth V s T f).1 = -1
  · rw [if_pos (show (r16 (upR (cp s 16 23 0 0 36) 16 f) (kMonth V s T f)).1 = -1 from h1), if_pos h1]
    show upR (upR (cp s 16 23 0 0 36) 16 f) 16 _ = _
    rw [upR_upR]
  · rw [if_neg (show ¬ (r16 (upR (cp s 16 23 0 0 36) 16 f) (kMonth V s T f)).1 = -1 from h1), if_neg h1]
    show wr (upR (upR (cp s 16 23 0 0 36) 16 f) 16 _) tm _ _ = _
    rw [upR_upR]
    rfl
theorem ycG_16 {V : (Nat → Int32) → Int32} {s : am_S} {T tm : Nat} {f : Nat → Int32} : ycG V s T tm f 16 = (kMonth V s T f).2 := by
  unfold ycG
  split <;> rfl
theorem ycG_c {V : (Nat → Int32) → Int32} {s s1 : am_S} {T tm : Nat} {f : Nat → Int32} (he : eo skC s s1) : eo skC (ycG V s T tm f) (ycG V s1 T tm f) := by
  have e := kMonth_c (V := V) (eqS_C he)
  unfold ycG
  rw [e]
  have hu : eo skC (upR (cp s 16 23 0 0 36) 16 (kMonth V s T f).2) (upR (cp s1 16 23 0 0 36) 16 (kMonth V s T f).2) := eo_upR3 (eo_cp he (fun _ => rfl) (fun _ => rfl))
  split
  · exact hu
  · exact eo_wr hu
theorem eo_ycG {V : (Nat → Int32) → Int32} {s : am_S} {T tm : Nat} {f : Nat → Int32} : eo skD s (ycG V s T tm f) := by
  unfold ycG
  have hu : eo skD s (upR (cp s 16 23 0 0 36) 16 (kMonth V s T f).2) := eo_upRK (fun _ => rfl) (eo_upRK (fun _ => rfl) eo_rf)
  split
  · exact hu
  · exact eo_up (fun _ => rfl) (eo_up (fun _ => rfl) (eo_up (fun _ => rfl) hu))
theorem eo_keepD {s s1 : am_S} {q a : Nat} (h : eo skD s s1) : eo skD s (keep s1 q a) := eo_up (fun _ => rfl) (eo_up (fun _ => rfl) (eo_upRK (fun _ => rfl) h))
theorem ycG_ab {V : (Nat → Int32) → Int32} {s : am_S} {T tm : Nat} {f : Nat → Int32} {j : Nat} : ycG V s T tm f 21 j = s 21 j := by
  unfold ycG
  split <;> rfl
theorem PJ_ycS {DX : Int64 → Int64} {DV : Int64 → Int32 → Int32} {V : (Nat → Int32) → Int32} {s : am_S} {T Q : Nat} {x : Int64} (h : PJ s T Q) : PJ (ycS DX DV V T s x).1 T Q := by
  obtain ⟨hb, -, t, ht, ht9⟩ := h
  refine ⟨kb_D hb (eo_keepD eo_ycG), ⟨(cl (s 21 3) + 1) % 40, min 40 (cl (s 21 4) + 1), rfl, Nat.mod_lt _ (by decide), rfl, Nat.min_le_left _ _⟩, ?_⟩
  show ∃ tm, ycG V s T (cl (s 16 4)) (ydK DX DV s (s 16) x).1 16 4 = nI tm ∧ tm ≤ 9999
  rw [ycG_16]
  have h4 := kAct_4 (V := V) (a := 0) (b := 0) (c := 0) (f := (ydK DX DV s (s 16) x).1) hb
  rw [show kAct V s T (ydK DX DV s (s 16) x).1 0 0 0 = kMonth V s T (ydK DX DV s (s 16) x).1 from by (unfold kAct; rw [if_pos rfl]), ydK_4 hb, ht] at h4
  rcases h4 with e | ⟨e1, e2⟩
  · exact ⟨t, e, ht9⟩
  · refine ⟨t + 1, e2.trans (nI_1 t), ?_⟩
    have := (nI_ltI (a := t) (b := 9999) (by omega) (by decide)).mp e1
    omega
set_option maxRecDepth 4000 in
theorem c_X11_years {l : Launch} {g : ag_G} {s : am_S} {n : am_N} {DX : Int64 → Int64} {DV : Int64 → Int32 → Int32} (hdr : aw_dr l g DX DV) {T Q : Nat} (hI : PJ s T Q) {V : (Nat → Int32) → Int32} (hV : ∀ x, LawIs l g s (upL n 38 0 x) V) {m : Int32} {x : Int64} : aw_M l g mi_X11_years 8 0 0 [.ref (g_ad g 0), .int m, .long x] (hp g s n) (fun r w => ∃ s' n', r = some (.int (q_years DX DV V s T m x).1) ∧ w = hp g s' n' ∧ eo skC (q_years DX DV V s T m x).2 s' ∧ (n' = n ∨ ∃ x, n' = upL n 38 0 x)) := by
  have hT := hI.1.2.1
  refine aw_M_of mo_X11_years (by decide) (Nat.le_of_ble_eq_true rfl) ?_
  refine aw_aload_n rfl rfl ?_
  refine pg_0_8 rfl kl_X11_57 ?_
  refine aw_iV (q0 := 15) (ci := 8) rfl cw_X11_146 rfl rfl rfl (c_X8_isTold) rfl rfl (Nat.le_of_ble_eq_true rfl) (by decide) (by decide) (by decide) (by decide) ?_
  refine aw_if_eq (tgt := 38) rfl (by decide) (fun h7 => ?_) (fun h7 => ?_)
  · refine aw_iconst (v := -1) rfl (by decide) ?_
    exact aw_iret rfl rfl ⟨s, n, congrArg (fun v => some (Value.int v)) (by unfold q_years; first | (rw [if_neg (of_decide_eq_false (bB_0.mp h7))]; done) | (rw [if_pos hT1, if_pos h12]; done) | (rw [if_pos hT1, if_neg h12, if_pos h18]; done) | (rw [if_pos hT1, if_neg h12, if_neg h18, if_neg h35]; done)), rfl, by unfold q_years; first | (rw [if_neg (of_decide_eq_false (bB_0.mp h7))]; exact eo_rf) | (rw [if_pos hT1, if_pos h12]; exact eo_rf) | (rw [if_pos hT1, if_neg h12, if_pos h18]; exact eo_rf) | (rw [if_pos hT1, if_neg h12, if_neg h18, if_neg h35]; exact eo_rf), Or.inl rfl⟩
  · have hT1 : 0 < s 15 6 := of_decide_eq_true (bB_n0.mp h7)
    have hT0 : 0 < T := by
      have hz := hT1
      rw [hI.1.1] at hz
      exact (nI_ltI (a := 0) (b := T) (by decide) (by omega)).mp hz
    refine aw_iload_n rfl rfl ?_
    refine aw_iconst (v := 1) rfl (by decide) ?_
    refine aw_icmp_lt (tgt := 38) rfl (by decide) (fun h12 => ?_) (fun h12 => ?_)
    · refine aw_iconst (v := -1) rfl (by decide) ?_
      exact aw_iret rfl rfl ⟨s, n, congrArg (fun v => some (Value.int v)) (by unfold q_years; first | (rw [if_neg (of_decide_eq_false (bB_0.mp h7))]; done) | (rw [if_pos hT1, if_pos h12]; done) | (rw [if_pos hT1, if_neg h12, if_pos h18]; done) | (rw [if_pos hT1, if_neg h12, if_neg h18, if_neg h35]; done)), rfl, by unfold q_years; first | (rw [if_neg (of_decide_eq_false (bB_0.mp h7))]; exact eo_rf) | (rw [if_pos hT1, if_pos h12]; exact eo_rf) | (rw [if_pos hT1, if_neg h12, if_pos h18]; exact eo_rf) | (rw [if_pos hT1, if_neg h12, if_neg h18, if_neg h35]; exact eo_rf), Or.inl rfl⟩
    · refine aw_iload_n rfl rfl ?_
      refine aw_bipush (v := 60) rfl (by decide) ?_
      refine aw_icmp_gt (tgt := 38) rfl (by decide) (fun h18 => ?_) (fun h18 => ?_)
      · refine aw_iconst (v := -1) rfl (by decide) ?_
        exact aw_iret rfl rfl ⟨s, n, congrArg (fun v => some (Value.int v)) (by unfold q_years; first | (rw [if_neg (of_decide_eq_false (bB_0.mp h7))]; done) | (rw [if_pos hT1, if_pos h12]; done) | (rw [if_pos hT1, if_neg h12, if_pos h18]; done) | (rw [if_pos hT1, if_neg h12, if_neg h18, if_neg h35]; done)), rfl, by unfold q_years; first | (rw [if_neg (of_decide_eq_false (bB_0.mp h7))]; exact eo_rf) | (rw [if_pos hT1, if_pos h12]; exact eo_rf) | (rw [if_pos hT1, if_neg h12, if_pos h18]; exact eo_rf) | (rw [if_pos hT1, if_neg h12, if_neg h18, if_neg h35]; exact eo_rf), Or.inl rfl⟩
      · obtain ⟨M, hM, rfl⟩ := nI_of2 (M := 60) (n := 60) (by decide) (fun z => h12 (Int32.lt_of_lt_of_le z (by decide))) (Int32.not_lt.mp h18)
        have hcm : cl (nI M) = M := cl_nI (by omega)
        refine aw_aload_n rfl rfl ?_
        refine pg_0_8 rfl kl_X11_57 ?_
        refine pg_15_1 rfl kl_X11_149 ?_
        refine aw_iconst (v := 4) rfl (by decide) ?_
        refine pl_16 (j := 4) rfl rfl (by decide) ?_
        refine aw_iload_n rfl rfl ?_
        refine aw_iadd rfl ?_
        refine aw_sipush (v := 9999) rfl (by decide) ?_
        refine aw_icmp_le (tgt := 40) rfl (by decide) (fun h35 => ?_) (fun h35 => ?_)
        · rw [show q_years DX DV V s T (nI M) x = (ycL DX DV V T M s x 16 4, ycL DX DV V T M s x) from by (unfold q_years; rw [if_pos hT1, if_neg h12, if_neg h18, if_pos h35, hcm])]
          refine aw_aload_n rfl rfl ?_
          refine pg_0_13 rfl kl_X11_94 ?_
          refine aw_lload_n rfl rfl ?_
          refine pp_38_0 rfl kl_X11_221 ?_
          refine aw_iconst (v := 0) rfl (by decide) ?_
          refine aw_istore rfl (by decide) ?_
          have loop : ∀ (Y : am_S) (d i : Nat) (sv s1 : am_S) (y : Int64), i + d = M → eo skC sv s1 → eo skD s sv → PJ sv T Q → ycL DX DV V T d sv y = Y → aw_W l g mi_X11_years (aw_rm 8 0 0) (aw_Z g (fun r w => ∃ s' n', r = some (.int (Y 16 4)) ∧ w = hp g s' n' ∧ eo skC Y s' ∧ (n' = n ∨ ∃ x, n' = upL n 38 0 x)) 0 0) 0 0 (hp g s1 (upL n 38 0 y)) 51 [some (.ref (g_ad g 0)), some (.int (nI M)), none, none, some (.int (nI i))] [] := by
            intro Y d
            induction d with
            | zero =>
              intro i sv s1 y hi he hD hI1 hR
              have hR : sv = Y := hR
              refine aw_iload rfl rfl ?_
              refine aw_iload_n rfl rfl ?_
              refine aw_icmp_ge (tgt := 90) rfl (by decide) (fun h54 => ?_) (fun h54 => absurd (nI_le (by omega) (by omega)) h54)
              refine aw_aload_n rfl rfl ?_
              refine pg_0_8 rfl kl_X11_57 ?_
              refine pg_15_1 rfl kl_X11_149 ?_
              refine aw_iconst (v := 4) rfl (by decide) ?_
              refine pl_16 (j := 4) rfl rfl (by decide) ?_
              exact aw_iret rfl rfl ⟨s1, _, congrArg (fun v => some (Value.int v)) ((he 16 4 rfl).trans (by rw [hR])), rfl, by rw [← hR]; exact he, Or.inr ⟨y, rfl⟩⟩
            | succ d ih =>
              intro i sv s1 y hi he hD hI1 hR
              simp only [ycL] at hR
              have hb1 : kb s1 T Q := kb_c hI1.1 (eqS_C he)
              have hyK : ydK DX DV s1 (s1 16) y = ydK DX DV sv (sv 16) y := by rw [ydK_c (eqS_C he) (he 0 7 rfl), eo_cell he 16 (fun _ => rfl)]
              obtain ⟨-, ⟨q1, a1, hab⟩, tm, htm, htm9⟩ := id hI1
              have hab1 : ab4 s1 q1 a1 := ⟨(he 21 3 rfl).trans hab.1, hab.2.1, (he 21 4 rfl).trans hab.2.2.1, hab.2.2.2⟩
              have htm1 : (ydK DX DV sv (sv 16) y).1 4 = nI tm := (ydK_4 hI1.1).trans htm
              have hcl : cl (sv 16 4) = tm ∧ cl (sv 21 3) = q1 ∧ cl (sv 21 4) = a1 := by (rw [htm, hab.1, hab.2.2.1]; exact ⟨cl_nI (by omega), cl_nI (by have := hab.2.1; omega), cl_nI (by have := hab.2.2.2; omega)⟩)
              have hI2 := PJ_ycS (DX := DX) (DV := DV) (V := V) (x := y) hI1
              have hyS : ycS DX DV V T sv y = (keep (ycG V sv T tm (ydK DX DV sv (sv 16) y).1) q1 a1, (ydK DX DV sv (sv 16) y).2) := by (unfold ycS; rw [hcl.1, hcl.2.1, hcl.2.2])
              rw [hyS] at hR hI2
              refine aw_iload rfl rfl ?_
              refine aw_iload_n rfl rfl ?_
              refine aw_icmp_ge (tgt := 90) rfl (by decide) (fun h54 => absurd h54 (nI_ge (by omega) (by omega))) (fun h54 => ?_)
              refine aw_aload_n rfl rfl ?_
              refine pg_0_9 rfl kl_X11_64 ?_
              refine aw_aload_n rfl rfl ?_
              refine pg_0_8 rfl kl_X11_57 ?_
              refine aw_vV (q0 := 21) (ci := 0) rfl cw_X11_198 rfl rfl rfl (c_X0_begins) rfl rfl (Nat.le_of_ble_eq_true rfl) (by decide) (by decide) (by decide) (by decide) ?_
              refine aw_aload_n rfl rfl ?_
              refine aw_vV (q0 := 0) (ci := 11) rfl cw_X11_225 rfl rfl rfl (c_X11_drawsAhead (s := cp s1 16 23 0 0 36) (n := upL n 38 0 y) hdr (T := T) (Q := Q) hb1 hT0) rfl rfl (Nat.le_of_ble_eq_true rfl) (by decide) (by decide) (by decide) (by decide) ?_
              refine aw_eqs (ws' := hp g (upR (cp s1 16 23 0 0 36) 16 (ydK DX DV sv (sv 16) y).1) (upL n 38 0 (ydK DX DV sv (sv 16) y).2)) ?_ rfl rfl (by rw [show (upL n 38 0 y).1 38 0 = y from upL_s, upL_u, show ydK DX DV (cp s1 16 23 0 0 36) (cp s1 16 23 0 0 36 16) y = ydK DX DV sv (sv 16) y from hyK])
              refine aw_aload_n rfl rfl ?_
              refine aw_gV (q0 := 0) (ci := 11) rfl cw_X11_201 rfl rfl rfl (c_X11_goesBy (s := upR (cp s1 16 23 0 0 36) 16 (ydK DX DV sv (sv 16) y).1) (n := upL n 38 0 (ydK DX DV sv (sv 16) y).2) (T := T) (Q := Q) hb1 (tm := tm) htm1 (by omega) ((hV _).mv (fun j => (he 10 j rfl).trans (hD 10 j rfl)))) rfl rfl (Nat.le_of_ble_eq_true rfl) (by decide) (by decide) (by decide) (by decide) (fun s2 e2 => ?_)
              rw [dGo_yc] at e2
              have e3 := eo_tr (ycG_c (V := V) (T := T) (tm := tm) (f := (ydK DX DV sv (sv 16) y).1) he) e2
              refine aw_pop rfl rfl ?_
              refine aw_aload_n rfl rfl ?_
              refine pg_0_9 rfl kl_X11_64 ?_
              refine aw_vV (q0 := 21) (ci := 0) rfl cw_X11_208 rfl rfl rfl (c_X0_keepsAct (q := q1) (a := a1) ((e3 21 3 rfl).trans (ycG_ab.trans hab.1)) hab.2.1 ((e3 21 4 rfl).trans (ycG_ab.trans hab.2.2.1)) hab.2.2.2) rfl rfl (Nat.le_of_ble_eq_true rfl) (by decide) (by decide) (by decide) (by decide) ?_
              refine aw_inc1 rfl rfl (by decide) ?_
              refine aw_goto (tgt := 51) rfl (by decide) ?_
              exact aw_wk (ih (i + 1) _ _ _ (by omega) (eo_keep e3) (eo_tr hD (eo_keepD eo_ycG)) hI2 hR) (And.intro rfl (And.intro rfl (And.intro (congrArg (fun x => some (Value.int x)) (nI_1 i)) True.intro)))
          exact aw_wk (loop _ M 0 s s x (by omega) eo_rf eo_rf hI rfl) (And.intro rfl (And.intro rfl (And.intro rfl True.intro)))
        · refine aw_iconst (v := -1) rfl (by decide) ?_
          exact aw_iret rfl rfl ⟨s, n, congrArg (fun v => some (Value.int v)) (by unfold q_years; first | (rw [if_neg (of_decide_eq_false (bB_0.mp h7))]; done) | (rw [if_pos hT1, if_pos h12]; done) | (rw [if_pos hT1, if_neg h12, if_pos h18]; done) | (rw [if_pos hT1, if_neg h12, if_neg h18, if_neg h35]; done)), rfl, by unfold q_years; first | (rw [if_neg (of_decide_eq_false (bB_0.mp h7))]; exact eo_rf) | (rw [if_pos hT1, if_pos h12]; exact eo_rf) | (rw [if_pos hT1, if_neg h12, if_pos h18]; exact eo_rf) | (rw [if_pos hT1, if_neg h12, if_neg h18, if_neg h35]; exact eo_rf), Or.inl rfl⟩
theorem c_X11_yearsD {l : Launch} {g : ag_G} {s : am_S} {n : am_N} {T Q : Nat} (hI : PJ s T Q) {V : (Nat → Int32) → Int32} (hV : ∀ x, LawIs l g s (upL n 38 0 x) V) {m : Int32} {x : Int64} : aw_M l g mi_X11_years 8 0 0 [.ref (g_ad g 0), .int m, .long x] (hp g s n) (fun r w => ∃ s' n', r = some (.int (q_years dx dv V s T m x).1) ∧ w = hp g s' n' ∧ eo skC (q_years dx dv V s T m x).2 s' ∧ (n' = n ∨ ∃ x, n' = upL n 38 0 x)) := c_X11_years (fun _ _ _ h => c_X1_next h) hI hV
