/-! the reference: years -/
def eM (n n' : am_N) : Prop := (∀ k, Nat.beq k 54 = false → Nat.beq k 39 = false → n'.1 k = n.1 k) ∧ n'.2.1 = n.2.1 ∧ n'.2.2.2 = n.2.2.2
theorem eM_en {n n' : am_N} (h : en n n') : eM n n' := ⟨fun k e _ => h.1 k e, h.2⟩
theorem eM_tr {n n1 n2 : am_N} (h : eM n n1) (h2 : eM n1 n2) : eM n n2 := ⟨fun k e e' => (h2.1 k e e').trans (h.1 k e e'), h2.2.1.trans h.2.1, h2.2.2.trans h.2.2⟩
theorem eM_up {n : am_N} {v : Int64} : eM n (upL n 39 40 v) := ⟨fun k _ e => by unfold upL; simp only [e]; rfl, rfl, rfl⟩
def yrH (DX : Int64 → Int64) (DV : Int64 → Int32 → Int32) (s : am_S) (x : Int64) : Nat → Int32 := upd (s 52) 32 (if DV (DX x) 10 < 5 then mx 0 (s 52 32 - 1) else mn 40 (s 52 32 + 1))
def yrQ (s : am_S) (f : Nat → Int32) (t r : Int32) : Nat → Int32 := if cPm s f t r = true then (mPry f (cl t) (cl r)).2 else f
def yrG (s : am_S) (f : Nat → Int32) (k : Int32) (x2 : Int64) (t r : Int32) (x4 : Int64) : (Nat → Int32) × Int64 := if s 39 35 ≤ k then (f, x2) else (yrQ s f t r, x4)
def yrP (DX : Int64 → Int64) (DV : Int64 → Int32 → Int32) (s : am_S) (x : Int64) : (Nat → Int32) × Int64 := yrG s (yrH DX DV s x) (DV (DX (DX x)) 10) (DX (DX x)) (DV (DX (DX (DX x))) (s 39 26)) (DV (DX (DX (DX (DX x)))) (s 39 27)) (DX (DX (DX (DX x))))
theorem upL_s {n : am_N} {k i : Nat} {v : Int64} : (upL n k i v).1 k i = v := by unfold upL; simp [vp_updL]
theorem upL_u {n : am_N} {k i : Nat} {v x : Int64} : upL (upL n k i v) k i x = upL n k i x := by
  unfold upL
  refine Prod.ext (funext fun k' => ?_) rfl
  dsimp only
  cases hb : Nat.beq k' k with
  | true =>
    simp only [cond_true, Nat.beq_refl]
    funext j
    unfold vp_updL
    split <;> simp_all
  | false => simp only [cond_false]
def yrS (DX : Int64 → Int64) (DV : Int64 → Int32 → Int32) (V : (Nat → Int32) → Int32) (T Q : Nat) (s : am_S) (x : Int64) : am_S × Int64 := (upR (mRem s (cl (s 39 39))) 52 (goM V s T Q (cl (s 52 36)) (yrP DX DV s x).1).2, (yrP DX DV s x).2)
def yrL (DX : Int64 → Int64) (DV : Int64 → Int32 → Int32) (V : (Nat → Int32) → Int32) (T Q : Nat) : Nat → am_S → Int64 → am_S
  | 0, s, _ => s
  | d + 1, s, x => yrL DX DV V T Q d (yrS DX DV V T Q s x).1 (yrS DX DV V T Q s x).2
def m_years (DX : Int64 → Int64) (DV : Int64 → Int32 → Int32) (V : (Nat → Int32) → Int32) (s : am_S) (T Q : Nat) (m : Int32) (x : Int64) : Int32 × am_S := if s 39 26 = 0 then (-1, s) else if inn m.toInt64 1 60 = true then (if s 52 35 + m ≤ 9999 then (fun z : am_S => (z 52 35, z)) (yrL DX DV V T Q (cl m) s x) else (-1, s)) else (-1, s)
def aw_RY (l : Launch) (g : ag_G) (N : ag_M) (d : Nat) (K : Nat → Nat → Bool) (vs : List Value) (s : am_S) (n : am_N) (MI : am_S → am_N → Prop) (v : Value) (s2 : am_S) : Prop := aw_M l g N d 0 0 vs (hp g s n) (fun r w => ∃ s' n', r = some v ∧ w = hp g s' n' ∧ eo K s2 s' ∧ eM n n' ∧ MI s' n')
section AwRY
variable {l : Launch} {g : ag_G} {M : ag_M} {R : Room} {Z : ag_Z} {cells slots : Nat} {pc : Nat} {L : List (Option Value)} {st : List Value} {s s2 : am_S} {n n0 : am_N} {K : Nat → Nat → Bool} {MI : am_S → am_N → Prop}
theorem aw_RY_of {d : Nat} {vs : List Value} {v : Value} (hok : aw_ok M) (hy : plainName (m_y M).cls = true) (hn : (lg_sl vs).length ≤ m_n M) (body : aw_W l g M (aw_rm d 0 0) (aw_Z g (fun r w => ∃ s' n', r = some v ∧ w = hp g s' n' ∧ eo K s2 s' ∧ eM n n' ∧ MI s' n') 0 0) 0 0 (hp g s n) 0 (aw_arg vs) []) : aw_RY l g M d K vs s n MI v s2 := aw_M_of hok hy hn body
theorem aw_ry {v x : Int32} {s' : am_S} {n' : am_N} (hd : m_at M pc = some (.ireturn, 1)) (hr : m_r M = some .int) (hv : v = x) (he : eo K s2 s') (hn : eM n n') (hm : MI s' n') : aw_W l g M R (aw_Z g (fun r w => ∃ s' n', r = some (.int x) ∧ w = hp g s' n' ∧ eo K s2 s' ∧ eM n n' ∧ MI s' n') cells slots) cells slots (hp g s' n') pc L [.int v] := aw_iret hd hr ⟨s', n', by rw [hv], rfl, he, hn, hm⟩
end AwRY
theorem rI_yrH {DX : Int64 → Int64} {DV : Int64 → Int32 → Int32} {s : am_S} {x : Int64} {T Q : Nat} (hT : T ≤ 7) (hQ : Q ≤ 5) (h : rI (s 52) T Q) : rI (yrH DX DV s x) T Q := by
  unfold yrH
  obtain ⟨hr, G, hG, hGe⟩ := h
  refine ⟨rwb_of hr (fun q hq => ⟨?_, Or.inl ?_⟩) (fun r' hr' => Or.inl ?_) (Or.inl ?_), G, hG, ?_⟩
  · rw [upd_n (by omega)]
  · rw [upd_n (by omega)]
  · rw [upd_n (by omega)]
  · rw [upd_n (by omega)]
  · rw [upd_n (by omega)]; exact hGe
theorem mPry_hi {f : Nat → Int32} {j r i : Nat} (hj : j < 7) (hr : r < 5) (hi : 35 ≤ i) : (mPry f j r).2 i = f i := by
  unfold mPry
  split <;> dsimp only
  · rw [upd_n (by omega), upd_n (by omega)]
  · rw [upd_n (by omega), upd_n (by omega), upd_n (by omega), upd_n (by omega)]
theorem rI_yrQ {s : am_S} {f : Nat → Int32} {t r : Int32} {T Q : Nat} (hb : mb s T Q) (h1 : rI f T Q) : rI (yrQ s f t r) T Q ∧ yrQ s f t r 35 = f 35 ∧ yrQ s f t r 36 = f 36 := by
  have hT := hb.2.1
  have hQ := hb.2.2.2.1
  unfold yrQ
  split
  · rename_i hc
    unfold cPm shm at hc
    simp only [Bool.and_eq_true] at hc
    obtain ⟨j, hj, rfl⟩ := isTm_nI hb hc.1.1
    obtain ⟨r, hr1, rfl⟩ := isRm_nI hb hc.2.1
    rw [cl_nI (by omega), cl_nI (by omega), mPry_hi (by omega) (by omega) (by omega), mPry_hi (by omega) (by omega) (by omega)]
    obtain ⟨G, hG, hGe⟩ := h1.2
    exact ⟨⟨rwb_pry hT hQ hj hr1 h1.1, G, hG, by rw [mPry_hi (by omega) (by omega) (by omega)]; exact hGe⟩, rfl, rfl⟩
  · exact ⟨h1, rfl, rfl⟩
theorem rI_yrG {s : am_S} {f : Nat → Int32} {k t r : Int32} {x2 x4 : Int64} {T Q : Nat} (hb : mb s T Q) (h1 : rI f T Q) : rI (yrG s f k x2 t r x4).1 T Q ∧ (yrG s f k x2 t r x4).1 35 = f 35 ∧ (yrG s f k x2 t r x4).1 36 = f 36 := by
  unfold yrG
  split
  · exact ⟨h1, rfl, rfl⟩
  · exact rI_yrQ hb h1
theorem rI_yrP {DX : Int64 → Int64} {DV : Int64 → Int32 → Int32} {s : am_S} {x : Int64} {T Q : Nat} (hb : mb s T Q) (h : rI (s 52) T Q) : rI (yrP DX DV s x).1 T Q ∧ (yrP DX DV s x).1 35 = s 52 35 ∧ (yrP DX DV s x).1 36 = s 52 36 := by
  have h1 := rI_yrH (DX := DX) (DV := DV) (x := x) hb.2.1 hb.2.2.2.1 h
  have h35 : yrH DX DV s x 35 = s 52 35 := by unfold yrH; rw [upd_n (by omega)]
  have h36 : yrH DX DV s x 36 = s 52 36 := by unfold yrH; rw [upd_n (by omega)]
  unfold yrP
  have h2 := rI_yrG (k := DV (DX (DX x)) 10) (t := DV (DX (DX (DX x))) (s 39 26)) (r := DV (DX (DX (DX (DX x)))) (s 39 27)) (x2 := DX (DX x)) (x4 := DX (DX (DX (DX x)))) hb h1
  exact ⟨h2.1, h2.2.1.trans h35, h2.2.2.trans h36⟩
theorem goM_35 {V : (Nat → Int32) → Int32} {s : am_S} {f : Nat → Int32} {T Q G : Nat} (hT : T ≤ 7) : (goM V s T Q G f).2 35 = f 35 + 1 := by
  unfold goM
  generalize fd (gmM V s f) 0 T 0 = me
  have h35 : fd (gF (s 46) (bt Q - 1) me) 0 T f 35 = f 35 := fd_gF (by decide) (by decide) T 0 f (by omega)
  generalize fd (gF (s 46) (bt Q - 1) me) 0 T f = F at h35
  have h2 : gT F (s 44 2) 35 = f 35 + 1 := by unfold gT; rw [upd_s, h35]
  generalize gT F (s 44 2) = F2 at h2
  show gG F2 _ me G 35 = _
  unfold gG gE
  split
  · rw [upd_n (by omega), upd_n (by omega), upd_n (by omega), upd_n (by omega), upd_n (by omega)]
    unfold va_cpy
    rw [if_neg (by omega)]
    exact h2
  · rw [upd_n (by omega), upd_n (by omega), upd_n (by omega), upd_n (by omega)]
    exact h2
set_option maxRecDepth 4000 in
theorem c_m_yearsG {l : Launch} {g : ag_G} {s : am_S} {n : am_N} {DX : Int64 → Int64} {DV : Int64 → Int32 → Int32} (hdr : ∀ (s : am_S) (n : am_N) (j : Int32), ¬ j < 1 → aw_F l g mi_X12_draw 0 [.ref (g_ad g 39), .int j] (hp g s n) (.int (DV (DX (n.1 39 40)) j)) (hp g s (upL n 39 40 (DX (n.1 39 40))))) {MI : am_S → am_N → Prop} {V : (Nat → Int32) → Int32} {T Q : Nat} (hC : MC l g MI V s n T Q) (hr : rI (s 52) T Q) {a : Nat} (ha : s 39 39 = nI a) (ha4 : a ≤ 40) {m : Int32} {x : Int64} : aw_RY l g mi_X12_years 103 skM [.ref (g_ad g 39), .int m, .long x] s n MI (.int (m_years DX DV V (up s 39 0 0) T Q m x).1) (m_years DX DV V (up s 39 0 0) T Q m x).2 := by
  refine aw_RY_of mo_X12_years (by decide) (Nat.le_of_ble_eq_true rfl) ?_
  refine aw_aload_n rfl rfl ?_
  refine aw_iconst (v := 0) rfl (by decide) ?_
  refine pp_39_0 rfl kl_X12_96 ?_
  have hC : MC l g MI V (up s 39 0 0) n T Q := hC.z0
  have hr : rI (up s 39 0 0 52) T Q := hr
  have ha : up s 39 0 0 39 39 = nI a := ha
  generalize up s 39 0 0 = S at *
  have hT := hC.1.2.1
  have hQ := hC.1.2.2.2.1
  have loop : ∀ (Y : am_S) (M : Nat), M ≤ 60 → ∀ (d i a tm : Nat) (s0 s1 : am_S) (n1 : am_N) (y : Int64), i + d = M → a ≤ 40 → s0 39 39 = nI a → s0 52 35 = nI tm → tm + d ≤ 9999 → ¬ T = 0 → MC l g MI V s1 n1 T Q → rI (s1 52) T Q → eo skM s0 s1 → eM n n1 → n1.1 39 40 = y → yrL DX DV V T Q d s0 y = Y → aw_W l g mi_X12_years (aw_rm 103 0 0) (aw_Z g (fun r w => ∃ s' n', r = some (.int (Y 52 35)) ∧ w = hp g s' n' ∧ eo skM Y s' ∧ eM n n' ∧ MI s' n') 0 0) 0 0 (hp g s1 n1) 49 [some (.ref (g_ad g 39)), some (.int (nI M)), none, none, some (.int (nI i)), none, none, none] [] := by
    intro Y M hM d
    induction d with
    | zero =>
      intro i a tm s0 s1 n1 y hi ha4 ha htm htl hT0 hC1 hr1 e1 f1 hy hX
      obtain rfl := hy
      simp only [yrL] at hX
      subst hX
      refine aw_iload rfl rfl ?_
      refine aw_iload_n rfl rfl ?_
      refine aw_icmp_ge (tgt := 183) rfl (by decide) (fun h52 => ?_) (fun h52 => absurd (nI_le (by omega) (by omega)) h52)
      refine aw_aload_n rfl rfl ?_
      refine pg_39_32 rfl kl_X12_61 ?_
      refine aw_bipush (v := 35) rfl (by decide) ?_
      refine pl_52 (j := 35) rfl rfl (by decide) ?_
      exact aw_ry rfl rfl (e1 52 35 rfl) e1 f1 hC1.2.2.1
    | succ d ih =>
      intro i a tm s0 s1 n1 y hi ha4 ha htm htl hT0 hC1 hr1 e1 f1 hy hX
      obtain rfl := hy
      simp only [yrL] at hX
      have hh52 : s1 52 = s0 52 := eo_cell e1 52 (fun _ => rfl)
      have ha1 : s1 39 39 = nI a := (e1 39 39 rfl).trans ha
      have hca : cl (s1 39 39) = a := by rw [ha1]; exact cl_nI (by omega)
      have hT1 := hC1.1.1
      have hQ1 := hC1.1.2.2.1
      have hQ0 : ¬ Q = 0 := by
        obtain ⟨o, ho, -⟩ := hC1.1.2.2.2.2 0 (by omega)
        omega
      have hdT : ¬ s1 39 26 < 1 := by rw [hT1]; exact Int32.not_lt.mpr (nI_le (a := 1) (by omega) (by omega))
      have hdQ : ¬ s1 39 27 < 1 := by rw [hQ1]; exact Int32.not_lt.mpr (nI_le (a := 1) (by omega) (by omega))
      obtain ⟨hrr, G, hG, hGe⟩ := hr1
      have hr1 : rI (s1 52) T Q := ⟨hrr, G, hG, hGe⟩
      have hcG : cl (s1 52 36) = G := by rw [hGe]; exact cl_nI (by omega)
      have hyP : ∀ x, yrP DX DV s0 x = yrP DX DV s1 x := by
        intro x
        unfold yrP yrG yrQ yrH
        rw [hh52, e1 39 35 rfl, e1 39 26 rfl, e1 39 27 rfl, cPm_c (eo_cell e1 46 (fun _ => rfl)) (e1 39 26 rfl) (e1 39 27 rfl)]
      have hyS : yrS DX DV V T Q s0 (n1.1 39 40) = (upR (mRem s0 a) 52 (goM V s1 T Q G (yrP DX DV s1 (n1.1 39 40)).1).2, (yrP DX DV s1 (n1.1 39 40)).2) := by
        unfold yrS
        rw [hyP, ← goM_c (V := V) (eo_cell e1 46 (fun _ => rfl)) (eo_cell e1 44 (fun _ => rfl)), ← hh52, hcG, show cl (s0 39 39) = a from by rw [ha]; exact cl_nI (by omega)]
      rw [hyS] at hX
      have hP := rI_yrP (DX := DX) (DV := DV) (x := n1.1 39 40) hC1.1 hr1
      have tail : ∀ (f : Nat → Int32) (n2 : am_N), f = (yrP DX DV s1 (n1.1 39 40)).1 → n2.1 39 40 = (yrP DX DV s1 (n1.1 39 40)).2 → eM n n2 → n2.1 54 = n1.1 54 → aw_W l g mi_X12_years (aw_rm 103 0 0) (aw_Z g (fun r w => ∃ s' n', r = some (.int (Y 52 35)) ∧ w = hp g s' n' ∧ eo skM Y s' ∧ eM n n' ∧ MI s' n') 0 0) 0 0 (hp g (upR (mRem s1 a) 52 f) n2) 167 [some (.ref (g_ad g 39)), some (.int (nI M)), none, none, some (.int (nI i)), none, none, none] [] := by
        intro f n2 hf hx hn h54
        subst hf
        have hCf : MC l g MI V (upR (mRem s1 a) 52 (yrP DX DV s1 (n1.1 39 40)).1) n2 T Q := ⟨hC1.1, hC1.2.1, hC1.2.1.2.2.1 s1 _ n1 n2 hC1.2.2.1 rfl rfl rfl rfl rfl h54, hC1.2.2.2⟩
        refine aw_aload_n rfl rfl ?_
        refine aw_aload_n rfl rfl ?_
        refine pg_39_32 rfl kl_X12_61 ?_
        refine aw_rV (q0 := 39) (ci := 12) rfl cw_X12_362 rfl rfl rfl ((show aw_R l g mi_X12_goMonth 102 skM [.ref (g_ad g 39), .ref (g_ad g 52)] (upR (mRem s1 a) 52 (yrP DX DV s1 (n1.1 39 40)).1) n2 MI (.int (goM V s1 T Q G (yrP DX DV s1 (n1.1 39 40)).1).1) (upR (mRem s1 a) 52 (goM V s1 T Q G (yrP DX DV s1 (n1.1 39 40)).1).2) from by (have z := c_m_goMonth_52 (G := G) hCf hP.1.1 hG (hP.2.2.trans hGe); rw [upR_upR] at z; exact z))) rfl rfl (Nat.le_of_ble_eq_true rfl) (by decide) (by decide) (by decide) (by decide) (fun s3 n3 e3 f3 m3 => ?_)
        refine aw_istore rfl (by decide) ?_
        refine aw_inc1 rfl rfl (by decide) ?_
        refine aw_goto (tgt := 49) rfl (by decide) ?_
        have hC3 : MC l g MI V s3 n3 T Q := MC.eo (s := upR (mRem s1 a) 52 (goM V s1 T Q G (yrP DX DV s1 (n1.1 39 40)).1).2) (n := n2) ⟨hC1.1, hC1.2.1, hC1.2.1.2.2.1 s1 _ n1 n2 hC1.2.2.1 rfl rfl rfl rfl rfl h54, hC1.2.2.2⟩ e3 m3
        have hr3 : rI (s3 52) T Q := by
          rw [show s3 52 = (goM V s1 T Q G (yrP DX DV s1 (n1.1 39 40)).1).2 from eo_cell e3 52 (fun _ => rfl)]
          exact rI_goM hT hQ hP.1.1 hG (by rw [hP.2.1, hh52, htm]; intro e; have := (nI_eq (a := tm) (b := 9999) (by omega) (by decide)).mp e; omega)
        exact aw_wk (ih (i + 1) (min 40 (a + 1)) (tm + 1) (upR (mRem s0 a) 52 (goM V s1 T Q G (yrP DX DV s1 (n1.1 39 40)).1).2) s3 n3 (yrP DX DV s1 (n1.1 39 40)).2 (by omega) (by omega) rfl (by show (goM V s1 T Q G (yrP DX DV s1 (n1.1 39 40)).1).2 35 = _; rw [goM_35 hT, hP.2.1, hh52, htm]; exact nI_1 tm) (by omega) hT0 hC3 hr3 (eo_tr (eo_upR3 (eo_mRem e1)) e3) (eM_tr hn (eM_en f3)) (by rw [f3.1 39 rfl]; exact hx) hX) (And.intro rfl (And.intro rfl (And.intro (congrArg (fun x => some (Value.int x)) (nI_1 i)) True.intro)))
      refine aw_iload rfl rfl ?_
      refine aw_iload_n rfl rfl ?_
      refine aw_icmp_ge (tgt := 183) rfl (by decide) (fun h52 => absurd h52 (nI_ge (by omega) (by omega))) (fun h52 => ?_)
      refine aw_aload_n rfl rfl ?_
      refine aw_vV (q0 := 39) (ci := 12) rfl cw_X12_359 rfl rfl rfl (c_m_remember ha1 ha4) rfl rfl (Nat.le_of_ble_eq_true rfl) (by decide) (by decide) (by decide) (by decide) ?_
      refine aw_aload_n rfl rfl ?_
      refine pg_39_32 rfl kl_X12_61 ?_
      refine aw_bipush (v := 32) rfl (by decide) ?_
      refine aw_aload_n rfl rfl ?_
      refine aw_bipush (v := 10) rfl (by decide) ?_
      refine aw_iV (q0 := 39) (ci := 12) rfl cw_X12_407 rfl rfl rfl (hdr _ _ 10 (by decide)) rfl rfl (Nat.le_of_ble_eq_true rfl) (by decide) (by decide) (by decide) (by decide) ?_
      refine aw_iconst (v := 5) rfl (by decide) ?_
      refine aw_icmp_lt (tgt := 92) rfl (by decide) (fun h72 => ?_) (fun h72 => ?_)
      · refine aw_iconst (v := 0) rfl (by decide) ?_
        refine aw_aload_n rfl rfl ?_
        refine pg_39_32 rfl kl_X12_61 ?_
        refine aw_bipush (v := 32) rfl (by decide) ?_
        refine pl_52 (j := 32) rfl rfl (by decide) ?_
        refine aw_iconst (v := 1) rfl (by decide) ?_
        refine aw_isub rfl ?_
        refine aw_mmax rfl km_X12_326 (aw_t2 168 rfl rfl) (aw_t1 18 rfl rfl) (aw_t2 169 rfl rfl) (by decide) (Nat.le_of_ble_eq_true rfl) (by decide) (by decide) ?_
        refine ps_52 (j := 32) rfl rfl (by decide) ?_
        have hH : ∀ v : Int32, v = (if DV (DX (n1.1 39 40)) 10 < 5 then mx 0 (s1 52 32 - 1) else mn 40 (s1 52 32 + 1)) → up (mRem s1 a) 52 32 v = upR (mRem s1 a) 52 (yrH DX DV s1 (n1.1 39 40)) := by (intro v hv; unfold yrH; rw [hv]; rfl)
        first
        | (have z : DV (DX (n1.1 39 40)) 10 < 5 := h72
           refine aw_eqs (ws' := hp g (upR (mRem s1 a) 52 (yrH DX DV s1 (n1.1 39 40))) (upL n1 39 40 (DX (n1.1 39 40)))) ?_ rfl rfl (congrArg (fun z => hp g z (upL n1 39 40 (DX (n1.1 39 40)))) (hH (mx 0 (s1 52 32 - 1)) (by rw [if_pos z]))))
        | (have z : ¬ DV (DX (n1.1 39 40)) 10 < 5 := h72
           refine aw_eqs (ws' := hp g (upR (mRem s1 a) 52 (yrH DX DV s1 (n1.1 39 40))) (upL n1 39 40 (DX (n1.1 39 40)))) ?_ rfl rfl (congrArg (fun z => hp g z (upL n1 39 40 (DX (n1.1 39 40)))) (hH (mn 40 (s1 52 32 + 1)) (by rw [if_neg z]))))
        refine aw_aload_n rfl rfl ?_
        refine aw_bipush (v := 10) rfl (by decide) ?_
        refine aw_iV (q0 := 39) (ci := 12) rfl cw_X12_407 rfl rfl rfl (hdr _ _ 10 (by decide)) rfl rfl (Nat.le_of_ble_eq_true rfl) (by decide) (by decide) (by decide) (by decide) ?_
        simp only [upL_s, upL_u]
        refine aw_aload_n rfl rfl ?_
        refine pg_39_35 rfl kl_X12_356 ?_
        refine aw_icmp_ge (tgt := 167) rfl (by decide) (fun h116 => ?_) (fun h116 => ?_)
        · first
          | (have z0 : s1 39 35 ≤ DV (DX (DX (n1.1 39 40))) 10 := h116
             exact aw_wk (tail _ _ (by unfold yrP yrG; rw [if_pos (show s1 39 35 ≤ DV (DX (DX (n1.1 39 40))) 10 from h116)]) (by unfold yrP yrG; rw [upL_s, if_pos (show s1 39 35 ≤ DV (DX (DX (n1.1 39 40))) 10 from h116)]) (eM_tr f1 eM_up) rfl) (And.intro rfl (And.intro rfl (And.intro rfl True.intro))))
          | (have z2 := bB_0.mp h151
             exact aw_wk (tail _ _ (by unfold yrP yrG yrQ; rw [if_neg (show ¬ s1 39 35 ≤ DV (DX (DX (n1.1 39 40))) 10 from h116), if_neg (fun z => absurd (z.symm.trans z2) (by decide))]) (by unfold yrP yrG; rw [upL_s, if_neg (show ¬ s1 39 35 ≤ DV (DX (DX (n1.1 39 40))) 10 from h116)]) (eM_tr f1 eM_up) rfl) (And.intro rfl (And.intro rfl (And.intro rfl True.intro))))
          | (rw [upR_upR]; exact aw_wk (tail _ _ (by unfold yrP yrG yrQ; rw [if_neg (show ¬ s1 39 35 ≤ DV (DX (DX (n1.1 39 40))) 10 from h116), if_pos (by exact q), show cl (DV (DX (DX (DX (n1.1 39 40)))) (s1 39 26)) = j from (congrArg cl hje).trans (cl_nI (by omega)), show cl (DV (DX (DX (DX (DX (n1.1 39 40))))) (s1 39 27)) = r from (congrArg cl hre).trans (cl_nI (by omega))]; rfl) (by unfold yrP yrG; rw [upL_s, if_neg (show ¬ s1 39 35 ≤ DV (DX (DX (n1.1 39 40))) 10 from h116)]) (eM_tr f1 eM_up) rfl) (And.intro rfl (And.intro rfl (And.intro rfl True.intro))))
        · refine aw_aload_n rfl rfl ?_
          refine aw_aload_n rfl rfl ?_
          refine pg_39_26 rfl kl_X12_291 ?_
          refine aw_iV (q0 := 39) (ci := 12) rfl cw_X12_407 rfl rfl rfl (hdr _ _ _ hdT) rfl rfl (Nat.le_of_ble_eq_true rfl) (by decide) (by decide) (by decide) (by decide) ?_
          simp only [upL_s, upL_u]
          refine aw_istore rfl (by decide) ?_
          refine aw_aload_n rfl rfl ?_
          refine aw_aload_n rfl rfl ?_
          refine pg_39_27 rfl kl_X12_294 ?_
          refine aw_iV (q0 := 39) (ci := 12) rfl cw_X12_407 rfl rfl rfl (hdr _ _ _ hdQ) rfl rfl (Nat.le_of_ble_eq_true rfl) (by decide) (by decide) (by decide) (by decide) ?_
          simp only [upL_s, upL_u]
          refine aw_istore rfl (by decide) ?_
          refine aw_aload_n rfl rfl ?_
          refine aw_aload_n rfl rfl ?_
          refine pg_39_32 rfl kl_X12_61 ?_
          refine aw_iload rfl rfl ?_
          refine aw_iload rfl rfl ?_
          refine aw_iV (q0 := 39) (ci := 12) rfl cw_X12_389 rfl rfl rfl (c_m_canPry_52 (T := T) (Q := Q) hC1.1) rfl rfl (Nat.le_of_ble_eq_true rfl) (by decide) (by decide) (by decide) (by decide) ?_
          refine aw_if_eq (tgt := 167) rfl (by decide) (fun h151 => ?_) (fun h151 => ?_)
          · first
            | (have z0 : s1 39 35 ≤ DV (DX (DX (n1.1 39 40))) 10 := h116
               exact aw_wk (tail _ _ (by unfold yrP yrG; rw [if_pos (show s1 39 35 ≤ DV (DX (DX (n1.1 39 40))) 10 from h116)]) (by unfold yrP yrG; rw [upL_s, if_pos (show s1 39 35 ≤ DV (DX (DX (n1.1 39 40))) 10 from h116)]) (eM_tr f1 eM_up) rfl) (And.intro rfl (And.intro rfl (And.intro rfl True.intro))))
            | (have z2 := bB_0.mp h151
               exact aw_wk (tail _ _ (by unfold yrP yrG yrQ; rw [if_neg (show ¬ s1 39 35 ≤ DV (DX (DX (n1.1 39 40))) 10 from h116), if_neg (fun z => absurd (z.symm.trans z2) (by decide))]) (by unfold yrP yrG; rw [upL_s, if_neg (show ¬ s1 39 35 ≤ DV (DX (DX (n1.1 39 40))) 10 from h116)]) (eM_tr f1 eM_up) rfl) (And.intro rfl (And.intro rfl (And.intro rfl True.intro))))
            | (rw [upR_upR]; exact aw_wk (tail _ _ (by unfold yrP yrG yrQ; rw [if_neg (show ¬ s1 39 35 ≤ DV (DX (DX (n1.1 39 40))) 10 from h116), if_pos (by exact q), show cl (DV (DX (DX (DX (n1.1 39 40)))) (s1 39 26)) = j from (congrArg cl hje).trans (cl_nI (by omega)), show cl (DV (DX (DX (DX (DX (n1.1 39 40))))) (s1 39 27)) = r from (congrArg cl hre).trans (cl_nI (by omega))]; rfl) (by unfold yrP yrG; rw [upL_s, if_neg (show ¬ s1 39 35 ≤ DV (DX (DX (n1.1 39 40))) 10 from h116)]) (eM_tr f1 eM_up) rfl) (And.intro rfl (And.intro rfl (And.intro rfl True.intro))))
          · have q := bB_n0.mp h151
            have qq := q
            unfold cPm shm at qq
            simp only [Bool.and_eq_true] at qq
            obtain ⟨j, hj, hje⟩ := isTm_nI (T := T) (Q := Q) (show mb (upR (mRem s1 a) 52 (yrH DX DV s1 (n1.1 39 40))) T Q from hC1.1) qq.1.1
            obtain ⟨r, hr2, hre⟩ := isRm_nI (T := T) (Q := Q) (show mb (upR (mRem s1 a) 52 (yrH DX DV s1 (n1.1 39 40))) T Q from hC1.1) qq.2.1
            rw [hje, hre]
            refine aw_aload_n rfl rfl ?_
            refine pg_39_32 rfl kl_X12_61 ?_
            refine aw_iload rfl rfl ?_
            refine aw_iload rfl rfl ?_
            refine aw_iS rfl cw_X12_392 (c_m_pries_52 (j := j) (r := r) (by omega) (by omega)) rfl rfl (Nat.le_of_ble_eq_true rfl) (by decide) (by decide) (by decide) (by decide) ?_
            refine aw_istore rfl (by decide) ?_
            first
            | (have z0 : s1 39 35 ≤ DV (DX (DX (n1.1 39 40))) 10 := h116
               exact aw_wk (tail _ _ (by unfold yrP yrG; rw [if_pos (show s1 39 35 ≤ DV (DX (DX (n1.1 39 40))) 10 from h116)]) (by unfold yrP yrG; rw [upL_s, if_pos (show s1 39 35 ≤ DV (DX (DX (n1.1 39 40))) 10 from h116)]) (eM_tr f1 eM_up) rfl) (And.intro rfl (And.intro rfl (And.intro rfl True.intro))))
            | (have z2 := bB_0.mp h151
               exact aw_wk (tail _ _ (by unfold yrP yrG yrQ; rw [if_neg (show ¬ s1 39 35 ≤ DV (DX (DX (n1.1 39 40))) 10 from h116), if_neg (fun z => absurd (z.symm.trans z2) (by decide))]) (by unfold yrP yrG; rw [upL_s, if_neg (show ¬ s1 39 35 ≤ DV (DX (DX (n1.1 39 40))) 10 from h116)]) (eM_tr f1 eM_up) rfl) (And.intro rfl (And.intro rfl (And.intro rfl True.intro))))
            | (rw [upR_upR]; exact aw_wk (tail _ _ (by unfold yrP yrG yrQ; rw [if_neg (show ¬ s1 39 35 ≤ DV (DX (DX (n1.1 39 40))) 10 from h116), if_pos (by exact q), show cl (DV (DX (DX (DX (n1.1 39 40)))) (s1 39 26)) = j from (congrArg cl hje).trans (cl_nI (by omega)), show cl (DV (DX (DX (DX (DX (n1.1 39 40))))) (s1 39 27)) = r from (congrArg cl hre).trans (cl_nI (by omega))]; rfl) (by unfold yrP yrG; rw [upL_s, if_neg (show ¬ s1 39 35 ≤ DV (DX (DX (n1.1 39 40))) 10 from h116)]) (eM_tr f1 eM_up) rfl) (And.intro rfl (And.intro rfl (And.intro rfl True.intro))))
      · refine aw_bipush (v := 40) rfl (by decide) ?_
        refine aw_aload_n rfl rfl ?_
        refine pg_39_32 rfl kl_X12_61 ?_
        refine aw_bipush (v := 32) rfl (by decide) ?_
        refine pl_52 (j := 32) rfl rfl (by decide) ?_
        refine aw_iconst (v := 1) rfl (by decide) ?_
        refine aw_iadd rfl ?_
        refine aw_mmin rfl km_X12_309 (aw_t2 171 rfl rfl) (aw_t1 18 rfl rfl) (aw_t2 172 rfl rfl) (by decide) (Nat.le_of_ble_eq_true rfl) (by decide) (by decide) ?_
        refine aw_goto (tgt := 105) rfl (by decide) ?_
        refine ps_52 (j := 32) rfl rfl (by decide) ?_
        have hH : ∀ v : Int32, v = (if DV (DX (n1.1 39 40)) 10 < 5 then mx 0 (s1 52 32 - 1) else mn 40 (s1 52 32 + 1)) → up (mRem s1 a) 52 32 v = upR (mRem s1 a) 52 (yrH DX DV s1 (n1.1 39 40)) := by (intro v hv; unfold yrH; rw [hv]; rfl)
        first
        | (have z : DV (DX (n1.1 39 40)) 10 < 5 := h72
           refine aw_eqs (ws' := hp g (upR (mRem s1 a) 52 (yrH DX DV s1 (n1.1 39 40))) (upL n1 39 40 (DX (n1.1 39 40)))) ?_ rfl rfl (congrArg (fun z => hp g z (upL n1 39 40 (DX (n1.1 39 40)))) (hH (mx 0 (s1 52 32 - 1)) (by rw [if_pos z]))))
        | (have z : ¬ DV (DX (n1.1 39 40)) 10 < 5 := h72
           refine aw_eqs (ws' := hp g (upR (mRem s1 a) 52 (yrH DX DV s1 (n1.1 39 40))) (upL n1 39 40 (DX (n1.1 39 40)))) ?_ rfl rfl (congrArg (fun z => hp g z (upL n1 39 40 (DX (n1.1 39 40)))) (hH (mn 40 (s1 52 32 + 1)) (by rw [if_neg z]))))
        refine aw_aload_n rfl rfl ?_
        refine aw_bipush (v := 10) rfl (by decide) ?_
        refine aw_iV (q0 := 39) (ci := 12) rfl cw_X12_407 rfl rfl rfl (hdr _ _ 10 (by decide)) rfl rfl (Nat.le_of_ble_eq_true rfl) (by decide) (by decide) (by decide) (by decide) ?_
        simp only [upL_s, upL_u]
        refine aw_aload_n rfl rfl ?_
        refine pg_39_35 rfl kl_X12_356 ?_
        refine aw_icmp_ge (tgt := 167) rfl (by decide) (fun h116 => ?_) (fun h116 => ?_)
        · first
          | (have z0 : s1 39 35 ≤ DV (DX (DX (n1.1 39 40))) 10 := h116
             exact aw_wk (tail _ _ (by unfold yrP yrG; rw [if_pos (show s1 39 35 ≤ DV (DX (DX (n1.1 39 40))) 10 from h116)]) (by unfold yrP yrG; rw [upL_s, if_pos (show s1 39 35 ≤ DV (DX (DX (n1.1 39 40))) 10 from h116)]) (eM_tr f1 eM_up) rfl) (And.intro rfl (And.intro rfl (And.intro rfl True.intro))))
          | (have z2 := bB_0.mp h151
             exact aw_wk (tail _ _ (by unfold yrP yrG yrQ; rw [if_neg (show ¬ s1 39 35 ≤ DV (DX (DX (n1.1 39 40))) 10 from h116), if_neg (fun z => absurd (z.symm.trans z2) (by decide))]) (by unfold yrP yrG; rw [upL_s, if_neg (show ¬ s1 39 35 ≤ DV (DX (DX (n1.1 39 40))) 10 from h116)]) (eM_tr f1 eM_up) rfl) (And.intro rfl (And.intro rfl (And.intro rfl True.intro))))
          | (rw [upR_upR]; exact aw_wk (tail _ _ (by unfold yrP yrG yrQ; rw [if_neg (show ¬ s1 39 35 ≤ DV (DX (DX (n1.1 39 40))) 10 from h116), if_pos (by exact q), show cl (DV (DX (DX (DX (n1.1 39 40)))) (s1 39 26)) = j from (congrArg cl hje).trans (cl_nI (by omega)), show cl (DV (DX (DX (DX (DX (n1.1 39 40))))) (s1 39 27)) = r from (congrArg cl hre).trans (cl_nI (by omega))]; rfl) (by unfold yrP yrG; rw [upL_s, if_neg (show ¬ s1 39 35 ≤ DV (DX (DX (n1.1 39 40))) 10 from h116)]) (eM_tr f1 eM_up) rfl) (And.intro rfl (And.intro rfl (And.intro rfl True.intro))))
        · refine aw_aload_n rfl rfl ?_
          refine aw_aload_n rfl rfl ?_
          refine pg_39_26 rfl kl_X12_291 ?_
          refine aw_iV (q0 := 39) (ci := 12) rfl cw_X12_407 rfl rfl rfl (hdr _ _ _ hdT) rfl rfl (Nat.le_of_ble_eq_true rfl) (by decide) (by decide) (by decide) (by decide) ?_
          simp only [upL_s, upL_u]
          refine aw_istore rfl (by decide) ?_
          refine aw_aload_n rfl rfl ?_
          refine aw_aload_n rfl rfl ?_
          refine pg_39_27 rfl kl_X12_294 ?_
          refine aw_iV (q0 := 39) (ci := 12) rfl cw_X12_407 rfl rfl rfl (hdr _ _ _ hdQ) rfl rfl (Nat.le_of_ble_eq_true rfl) (by decide) (by decide) (by decide) (by decide) ?_
          simp only [upL_s, upL_u]
          refine aw_istore rfl (by decide) ?_
          refine aw_aload_n rfl rfl ?_
          refine aw_aload_n rfl rfl ?_
          refine pg_39_32 rfl kl_X12_61 ?_
          refine aw_iload rfl rfl ?_
          refine aw_iload rfl rfl ?_
          refine aw_iV (q0 := 39) (ci := 12) rfl cw_X12_389 rfl rfl rfl (c_m_canPry_52 (T := T) (Q := Q) hC1.1) rfl rfl (Nat.le_of_ble_eq_true rfl) (by decide) (by decide) (by decide) (by decide) ?_
          refine aw_if_eq (tgt := 167) rfl (by decide) (fun h151 => ?_) (fun h151 => ?_)
          · first
            | (have z0 : s1 39 35 ≤ DV (DX (DX (n1.1 39 40))) 10 := h116
               exact aw_wk (tail _ _ (by unfold yrP yrG; rw [if_pos (show s1 39 35 ≤ DV (DX (DX (n1.1 39 40))) 10 from h116)]) (by unfold yrP yrG; rw [upL_s, if_pos (show s1 39 35 ≤ DV (DX (DX (n1.1 39 40))) 10 from h116)]) (eM_tr f1 eM_up) rfl) (And.intro rfl (And.intro rfl (And.intro rfl True.intro))))
            | (have z2 := bB_0.mp h151
               exact aw_wk (tail _ _ (by unfold yrP yrG yrQ; rw [if_neg (show ¬ s1 39 35 ≤ DV (DX (DX (n1.1 39 40))) 10 from h116), if_neg (fun z => absurd (z.symm.trans z2) (by decide))]) (by unfold yrP yrG; rw [upL_s, if_neg (show ¬ s1 39 35 ≤ DV (DX (DX (n1.1 39 40))) 10 from h116)]) (eM_tr f1 eM_up) rfl) (And.intro rfl (And.intro rfl (And.intro rfl True.intro))))
            | (rw [upR_upR]; exact aw_wk (tail _ _ (by unfold yrP yrG yrQ; rw [if_neg (show ¬ s1 39 35 ≤ DV (DX (DX (n1.1 39 40))) 10 from h116), if_pos (by exact q), show cl (DV (DX (DX (DX (n1.1 39 40)))) (s1 39 26)) = j from (congrArg cl hje).trans (cl_nI (by omega)), show cl (DV (DX (DX (DX (DX (n1.1 39 40))))) (s1 39 27)) = r from (congrArg cl hre).trans (cl_nI (by omega))]; rfl) (by unfold yrP yrG; rw [upL_s, if_neg (show ¬ s1 39 35 ≤ DV (DX (DX (n1.1 39 40))) 10 from h116)]) (eM_tr f1 eM_up) rfl) (And.intro rfl (And.intro rfl (And.intro rfl True.intro))))
          · have q := bB_n0.mp h151
            have qq := q
            unfold cPm shm at qq
            simp only [Bool.and_eq_true] at qq
            obtain ⟨j, hj, hje⟩ := isTm_nI (T := T) (Q := Q) (show mb (upR (mRem s1 a) 52 (yrH DX DV s1 (n1.1 39 40))) T Q from hC1.1) qq.1.1
            obtain ⟨r, hr2, hre⟩ := isRm_nI (T := T) (Q := Q) (show mb (upR (mRem s1 a) 52 (yrH DX DV s1 (n1.1 39 40))) T Q from hC1.1) qq.2.1
            rw [hje, hre]
            refine aw_aload_n rfl rfl ?_
            refine pg_39_32 rfl kl_X12_61 ?_
            refine aw_iload rfl rfl ?_
            refine aw_iload rfl rfl ?_
            refine aw_iS rfl cw_X12_392 (c_m_pries_52 (j := j) (r := r) (by omega) (by omega)) rfl rfl (Nat.le_of_ble_eq_true rfl) (by decide) (by decide) (by decide) (by decide) ?_
            refine aw_istore rfl (by decide) ?_
            first
            | (have z0 : s1 39 35 ≤ DV (DX (DX (n1.1 39 40))) 10 := h116
               exact aw_wk (tail _ _ (by unfold yrP yrG; rw [if_pos (show s1 39 35 ≤ DV (DX (DX (n1.1 39 40))) 10 from h116)]) (by unfold yrP yrG; rw [upL_s, if_pos (show s1 39 35 ≤ DV (DX (DX (n1.1 39 40))) 10 from h116)]) (eM_tr f1 eM_up) rfl) (And.intro rfl (And.intro rfl (And.intro rfl True.intro))))
            | (have z2 := bB_0.mp h151
               exact aw_wk (tail _ _ (by unfold yrP yrG yrQ; rw [if_neg (show ¬ s1 39 35 ≤ DV (DX (DX (n1.1 39 40))) 10 from h116), if_neg (fun z => absurd (z.symm.trans z2) (by decide))]) (by unfold yrP yrG; rw [upL_s, if_neg (show ¬ s1 39 35 ≤ DV (DX (DX (n1.1 39 40))) 10 from h116)]) (eM_tr f1 eM_up) rfl) (And.intro rfl (And.intro rfl (And.intro rfl True.intro))))
            | (rw [upR_upR]; exact aw_wk (tail _ _ (by unfold yrP yrG yrQ; rw [if_neg (show ¬ s1 39 35 ≤ DV (DX (DX (n1.1 39 40))) 10 from h116), if_pos (by exact q), show cl (DV (DX (DX (DX (n1.1 39 40)))) (s1 39 26)) = j from (congrArg cl hje).trans (cl_nI (by omega)), show cl (DV (DX (DX (DX (DX (n1.1 39 40))))) (s1 39 27)) = r from (congrArg cl hre).trans (cl_nI (by omega))]; rfl) (by unfold yrP yrG; rw [upL_s, if_neg (show ¬ s1 39 35 ≤ DV (DX (DX (n1.1 39 40))) 10 from h116)]) (eM_tr f1 eM_up) rfl) (And.intro rfl (And.intro rfl (And.intro rfl True.intro))))
  refine aw_aload_n rfl rfl ?_
  refine pg_39_26 rfl kl_X12_291 ?_
  refine aw_if_eq (tgt := 39) rfl (by decide) (fun h9 => ?_) (fun h9 => ?_)
  · refine aw_iconst (v := -1) rfl (by decide) ?_
    first
      | (rw [show m_years DX DV V S T Q m x = (-1, S) from by (unfold m_years; rw [if_pos h9])]; exact aw_ry rfl rfl rfl eo_rf (eM_en en_rf) hC.2.2.1)
      | (rw [show m_years DX DV V S T Q m x = (-1, S) from by (unfold m_years; rw [if_neg h9, if_neg (by rw [bB_0.mp h21]; exact Bool.false_ne_true)])]; exact aw_ry rfl rfl rfl eo_rf (eM_en en_rf) hC.2.2.1)
      | (rw [show m_years DX DV V S T Q (nI M) x = (-1, S) from by (unfold m_years; rw [if_neg h9, if_pos q1, if_neg h36])]; exact aw_ry rfl rfl rfl eo_rf (eM_en en_rf) hC.2.2.1)
      | fail "x"
  · refine aw_iload_n rfl rfl ?_
    refine aw_i2l rfl ?_
    refine aw_lconst (v := 1) rfl (by decide) ?_
    refine aw_ldc2 (v := 60) rfl (aw_t7 204 rfl rfl) ?_
    refine aw_iS rfl cw_X12_217 (c_m_isIn) rfl rfl (Nat.le_of_ble_eq_true rfl) (by decide) (by decide) (by decide) (by decide) ?_
    refine aw_if_eq (tgt := 39) rfl (by decide) (fun h21 => ?_) (fun h21 => ?_)
    · refine aw_iconst (v := -1) rfl (by decide) ?_
      first
        | (rw [show m_years DX DV V S T Q m x = (-1, S) from by (unfold m_years; rw [if_pos h9])]; exact aw_ry rfl rfl rfl eo_rf (eM_en en_rf) hC.2.2.1)
        | (rw [show m_years DX DV V S T Q m x = (-1, S) from by (unfold m_years; rw [if_neg h9, if_neg (by rw [bB_0.mp h21]; exact Bool.false_ne_true)])]; exact aw_ry rfl rfl rfl eo_rf (eM_en en_rf) hC.2.2.1)
        | (rw [show m_years DX DV V S T Q (nI M) x = (-1, S) from by (unfold m_years; rw [if_neg h9, if_pos q1, if_neg h36])]; exact aw_ry rfl rfl rfl eo_rf (eM_en en_rf) hC.2.2.1)
        | fail "x"
    · have q1 := bB_n0.mp h21
      obtain ⟨M, hM, rfl⟩ := mm_in (M := 60) (by decide) (by decide) q1
      have hcm : cl (nI M) = M := cl_nI (by omega)
      obtain ⟨tm, htl, hte⟩ := hr.1.2.2
      refine aw_aload_n rfl rfl ?_
      refine pg_39_32 rfl kl_X12_61 ?_
      refine aw_bipush (v := 35) rfl (by decide) ?_
      refine pl_52 (j := 35) rfl rfl (by decide) ?_
      refine aw_iload_n rfl rfl ?_
      refine aw_iadd rfl ?_
      refine aw_sipush (v := 9999) rfl (by decide) ?_
      refine aw_icmp_le (tgt := 41) rfl (by decide) (fun h36 => ?_) (fun h36 => ?_)
      · refine aw_aload_n rfl rfl ?_
        refine aw_lload_n rfl rfl ?_
        refine pp_39_40 rfl kl_X12_397 ?_
        refine aw_iconst (v := 0) rfl (by decide) ?_
        refine aw_istore rfl (by decide) ?_
        rw [show m_years DX DV V S T Q (nI M) x = (yrL DX DV V T Q M S x 52 35, yrL DX DV V T Q M S x) from by (unfold m_years; rw [if_neg h9, if_pos q1, if_pos h36, hcm])]
        have h99 : tm + M ≤ 9999 := by (have z := h36; rw [hte, nI_add] at z; by_cases e : tm + M ≤ 9999; exact e; exact absurd ((nI_ltI (a := 9999) (b := tm + M) (by decide) (by omega)).mpr (by omega)) (Int32.not_lt.mpr z))
        exact aw_wk (loop _ M hM M 0 a tm S S (upL n 39 40 x) x (by omega) ha4 ha hte (by omega) (fun e => h9 (by rw [hC.1.1, e]; rfl)) ⟨hC.1, hC.2.1, hC.2.1.2.2.1 S S n _ hC.2.2.1 rfl rfl rfl rfl rfl rfl, hC.2.2.2⟩ hr eo_rf eM_up rfl rfl) (And.intro rfl (And.intro rfl (And.intro rfl True.intro)))
      · refine aw_iconst (v := -1) rfl (by decide) ?_
        first
          | (rw [show m_years DX DV V S T Q m x = (-1, S) from by (unfold m_years; rw [if_pos h9])]; exact aw_ry rfl rfl rfl eo_rf (eM_en en_rf) hC.2.2.1)
          | (rw [show m_years DX DV V S T Q m x = (-1, S) from by (unfold m_years; rw [if_neg h9, if_neg (by rw [bB_0.mp h21]; exact Bool.false_ne_true)])]; exact aw_ry rfl rfl rfl eo_rf (eM_en en_rf) hC.2.2.1)
          | (rw [show m_years DX DV V S T Q (nI M) x = (-1, S) from by (unfold m_years; rw [if_neg h9, if_pos q1, if_neg h36])]; exact aw_ry rfl rfl rfl eo_rf (eM_en en_rf) hC.2.2.1)
          | fail "x"
theorem c_m_years {l : Launch} {g : ag_G} {s : am_S} {n : am_N} {MI : am_S → am_N → Prop} {V : (Nat → Int32) → Int32} {T Q : Nat} (hC : MC l g MI V s n T Q) (hr : rI (s 52) T Q) {a : Nat} (ha : s 39 39 = nI a) (ha4 : a ≤ 40) {m : Int32} {x : Int64} : aw_RY l g mi_X12_years 103 skM [.ref (g_ad g 39), .int m, .long x] s n MI (.int (m_years dx dv V (up s 39 0 0) T Q m x).1) (m_years dx dv V (up s 39 0 0) T Q m x).2 := c_m_yearsG (fun _ _ _ h => c_m_draw h) hC hr ha ha4
