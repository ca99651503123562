/-! the reference: a month goes by -/
theorem eo_upR3 {K : Nat → Nat → Bool} {s s1 : am_S} {k : Nat} {f : Nat → Int32} (h : eo K s s1) : eo K (upR s k f) (upR s1 k f) := by
  intro k' j e
  unfold upR
  cases hb : Nat.beq k' k with
  | true => rfl
  | false => exact h k' j e
theorem upd_s {f : Nat → Int32} {i : Nat} {v : Int32} : upd f i v i = v := by unfold upd; simp
theorem upd_n {f : Nat → Int32} {i j : Nat} {v : Int32} (h : j ≠ i) : upd f i v j = f j := by unfold upd; simp [h]
def gmM (V : (Nat → Int32) → Int32) (s : am_S) (f : Nat → Int32) : Nat → Int32 → Int32 := fun i a => if f (3 * i + 1) = 0 then a else if hnm V s f i < warm (f 32) (f 35) then a ||| bt i else a
def gF (D : Nat → Int32) (ev me : Int32) (i : Nat) (f : Nat → Int32) : Nat → Int32 := if hs me (nI i) = true then (if f (3 * i + 2) = ev then upd (upd f (3 * i + 1) 0) (3 * i + 2) ev else upd (upd (upd f (3 * i + 1) 0) 33 (f 33 + D (5 * i + 2))) (3 * i + 2) ev) else f
def gE (f : Nat → Int32) (wm me : Int32) (G : Nat) : Nat → Int32 := upd (upd (upd (upd f (37 + 3 * G) wm) (37 + 3 * G + 1) me) (37 + 3 * G + 2) (f 33)) 36 (nI (G + 1))
def gG (f : Nat → Int32) (wm me : Int32) (G : Nat) : Nat → Int32 := if G = 60 then gE (upd (va_cpy f f 40 37 177) 36 59) wm me 59 else gE f wm me G
def gT (f : Nat → Int32) (x : Int32) : Nat → Int32 := upd (upd f 31 (mn 999 (f 31 + x))) 35 (f 35 + 1)
def goM (V : (Nat → Int32) → Int32) (s : am_S) (T Q G : Nat) (f : Nat → Int32) : Int32 × (Nat → Int32) := (fd (gmM V s f) 0 T 0, gG (gT (fd (gF (s 46) (bt Q - 1) (fd (gmM V s f) 0 T 0)) 0 T f) (s 44 2)) (warm (f 32) (f 35)) (fd (gmM V s f) 0 T 0) G)
theorem gF_33 {D : Nat → Int32} {ev me : Int32} {i : Nat} {f : Nat → Int32} {j : Nat} (h1 : j ≠ 33) (h2 : j ≠ 3 * i + 1) (h3 : j ≠ 3 * i + 2) : gF D ev me i f j = f j := by
  unfold gF
  (repeat' split) <;> simp only [upd_n h1, upd_n h2, upd_n h3]
theorem fd_gF {D : Nat → Int32} {ev me : Int32} {j : Nat} (h1 : j ≠ 33) (h2 : 21 ≤ j) : ∀ (d i : Nat) (f : Nat → Int32), i + d ≤ 7 → fd (gF D ev me) i d f j = f j
  | 0, _, _, _ => rfl
  | d + 1, i, f, h => by
    simp only [fd]
    rw [fd_gF h1 h2 d (i + 1) _ (by omega)]
    exact gF_33 h1 (by omega) (by omega)
set_option maxRecDepth 4000 in
theorem c_m_goMonth_52 {l : Launch} {g : ag_G} {s : am_S} {n : am_N} {MI : am_S → am_N → Prop} {V : (Nat → Int32) → Int32} {T Q : Nat} (hC : MC l g MI V s n T Q) (hr : rwb (s 52) T Q) {G : Nat} (hG : G ≤ 60) (hGe : s 52 36 = nI G) : aw_R l g mi_X12_goMonth 102 skM [.ref (g_ad g 39), .ref (g_ad g 52)] s n MI (.int (goM V s T Q G (s 52)).1) (upR s 52 (goM V s T Q G (s 52)).2) := by
  have hT := hC.1.2.1
  have hQ := hC.1.2.2.2.1
  obtain ⟨WM, hWM⟩ : ∃ z, z = warm (s 52 32) (s 52 35) := ⟨_, rfl⟩
  obtain ⟨ME, hME⟩ : ∃ z, z = fd (gmM V s (s 52)) 0 T 0 := ⟨_, rfl⟩
  obtain ⟨FF, hFF⟩ : ∃ z, z = fd (gF (s 46) (bt Q - 1) ME) 0 T (s 52) := ⟨_, rfl⟩
  have hgo : goM V s T Q G (s 52) = (ME, gG (gT FF (s 44 2)) WM ME G) := by rw [hFF, hWM, hME]; rfl
  rw [hgo]
  have tail : ∀ (s1 : am_S) (n1 : am_N), eo skM s s1 → en n n1 → MI s1 n1 → aw_W l g mi_X12_goMonth (aw_rm 102 0 0) (aw_Z g (fun r w => ∃ s' n', r = some (.int ME) ∧ w = hp g s' n' ∧ eo skM (upR s 52 (gG (gT FF (s 44 2)) WM ME G)) s' ∧ en n n' ∧ MI s' n') 0 0) 0 0 (hp g s1 n1) 59 [some (.ref (g_ad g 39)), some (.ref (g_ad g 52)), some (.int WM), some (.int ME), none] [] := by
    intro s1 n1 e1 f1 m1
    have h46 : s1 46 = s 46 := eo_cell e1 46 (fun _ => rfl)
    have h44 : s1 44 = s 44 := eo_cell e1 44 (fun _ => rfl)
    have hW : s1 52 = s 52 := eo_cell e1 52 (fun _ => rfl)
    have hT1 : s1 39 26 = nI T := (e1 39 26 rfl).trans hC.1.1
    have hQ1 : s1 39 27 = nI Q := (e1 39 27 rfl).trans hC.1.2.2.1
    have hMI : ∀ f, MI (upR s1 52 f) n1 := fun f => hC.2.1.2.2.1 s1 _ n1 n1 m1 rfl rfl rfl rfl rfl rfl
    have last : ∀ (f : Nat → Int32) (q : Nat) (y : Option Value), f 36 = nI q → q < 60 → gE f WM ME q = gG (gT FF (s 44 2)) WM ME G → aw_W l g mi_X12_goMonth (aw_rm 102 0 0) (aw_Z g (fun r w => ∃ s' n', r = some (.int ME) ∧ w = hp g s' n' ∧ eo skM (upR s 52 (gG (gT FF (s 44 2)) WM ME G)) s' ∧ en n n' ∧ MI s' n') 0 0) 0 0 (hp g (upR s1 52 f) n1) 224 [some (.ref (g_ad g 39)), some (.ref (g_ad g 52)), some (.int WM), some (.int ME), some (.int (bt Q - 1)), y] [] := by
      intro f q y hf hq hE
      refine aw_bipush (v := 37) rfl (by decide) ?_
      refine aw_iconst (v := 3) rfl (by decide) ?_
      refine aw_aload_n rfl rfl ?_
      refine aw_bipush (v := 36) rfl (by decide) ?_
      refine pl_52 (j := 36) rfl rfl (by decide) ?_
      refine aw_imul rfl ?_
      refine aw_iadd rfl ?_
      refine aw_istore rfl (by decide) ?_
      refine aw_aload_n rfl rfl ?_
      refine aw_iload rfl rfl ?_
      refine aw_iload_n rfl rfl ?_
      refine ps_52 rfl (show (37 : Int32) + 3 * upR s1 52 f 52 36 = nI (37 + 3 * q) from by (rw [upR_s, hf, show (3 : Int32) * nI q = nI (3 * q) from pk_mul 3 q]; exact nI_add 37 _)) (by omega) ?_
      refine aw_aload_n rfl rfl ?_
      refine aw_iload rfl rfl ?_
      refine aw_iconst (v := 1) rfl (by decide) ?_
      refine aw_iadd rfl ?_
      refine aw_iload_n rfl rfl ?_
      refine ps_52 rfl (show (37 : Int32) + 3 * upR s1 52 f 52 36 + 1 = nI (37 + 3 * q + 1) from by (rw [upR_s, hf, show (3 : Int32) * nI q = nI (3 * q) from pk_mul 3 q, show (37 : Int32) + nI (3 * q) = nI (37 + 3 * q) from nI_add 37 _]; exact nI_add _ 1)) (by omega) ?_
      refine aw_aload_n rfl rfl ?_
      refine aw_iload rfl rfl ?_
      refine aw_iconst (v := 2) rfl (by decide) ?_
      refine aw_iadd rfl ?_
      refine aw_aload_n rfl rfl ?_
      refine aw_bipush (v := 33) rfl (by decide) ?_
      refine pl_52 (j := 33) rfl rfl (by decide) ?_
      refine ps_52 rfl (show (37 : Int32) + 3 * upR s1 52 f 52 36 + 2 = nI (37 + 3 * q + 2) from by (rw [upR_s, hf, show (3 : Int32) * nI q = nI (3 * q) from pk_mul 3 q, show (37 : Int32) + nI (3 * q) = nI (37 + 3 * q) from nI_add 37 _]; exact nI_add _ 2)) (by omega) ?_
      refine aw_aload_n rfl rfl ?_
      refine aw_bipush (v := 36) rfl (by decide) ?_
      refine aw_dup2 rfl rfl rfl ?_
      refine pl_52 (j := 36) rfl rfl (by decide) ?_
      refine aw_iconst (v := 1) rfl (by decide) ?_
      refine aw_iadd rfl ?_
      refine ps_52 (j := 36) rfl rfl (by decide) ?_
      refine aw_iload_n rfl rfl ?_
      simp only [upR_up, upR_s]
      rw [upd_n (i := 37 + 3 * q + 1) (j := 33) (by omega), upd_n (i := 37 + 3 * q) (j := 33) (by omega), upd_n (i := 37 + 3 * q + 2) (j := 36) (by omega), upd_n (i := 37 + 3 * q + 1) (j := 36) (by omega), upd_n (i := 37 + 3 * q) (j := 36) (by omega), hf, nI_1, ← hE]
      exact aw_ri rfl rfl rfl (eo_upR3 e1) f1 (hMI _)
    have shift : ∀ (f : Nat → Int32), f 36 = nI 60 → gE (upd (va_cpy f f 40 37 177) 36 59) WM ME 59 = gG (gT FF (s 44 2)) WM ME G → ∀ (d i : Nat), i + d = 177 → aw_W l g mi_X12_goMonth (aw_rm 102 0 0) (aw_Z g (fun r w => ∃ s' n', r = some (.int ME) ∧ w = hp g s' n' ∧ eo skM (upR s 52 (gG (gT FF (s 44 2)) WM ME G)) s' ∧ en n n' ∧ MI s' n') 0 0) 0 0 (hp g (upR s1 52 (va_cpy f f 40 37 i)) n1) 186 [some (.ref (g_ad g 39)), some (.ref (g_ad g 52)), some (.int WM), some (.int ME), some (.int (bt Q - 1)), some (.int (nI (i + 1)))] [] := by
      intro f hf hE d
      induction d with
      | zero =>
        intro i hi
        obtain rfl : i = 177 := by omega
        refine aw_iload rfl rfl ?_
        refine aw_sipush (v := 177) rfl (by decide) ?_
        refine aw_icmp_gt (tgt := 216) rfl (by decide) (fun h191 => ?_) (fun h191 => absurd (by decide) h191)
        refine aw_aload_n rfl rfl ?_
        refine aw_bipush (v := 36) rfl (by decide) ?_
        refine aw_dup2 rfl rfl rfl ?_
        refine pl_52 (j := 36) rfl rfl (by decide) ?_
        refine aw_iconst (v := 1) rfl (by decide) ?_
        refine aw_isub rfl ?_
        refine ps_52 (j := 36) rfl rfl (by decide) ?_
        simp only [upR_up, upR_s]
        rw [show va_cpy f f 40 37 177 36 - 1 = 59 from by (rw [show va_cpy f f 40 37 177 36 = f 36 from rfl, hf]; rfl)]
        exact aw_wk (last _ 59 (some (.int (nI (177 + 1)))) (upd_s) (by decide) hE) (And.intro rfl (And.intro rfl (And.intro rfl (And.intro rfl (And.intro rfl (And.intro rfl True.intro))))))
      | succ d ih =>
        intro i hi
        refine aw_iload rfl rfl ?_
        refine aw_sipush (v := 177) rfl (by decide) ?_
        refine aw_icmp_gt (tgt := 216) rfl (by decide) (fun h191 => absurd h191 (fun h => absurd h (Int32.not_lt.mpr (nI_le (b := 177) (by omega) (by decide))))) (fun h191 => ?_)
        refine aw_aload_n rfl rfl ?_
        refine aw_bipush (v := 36) rfl (by decide) ?_
        refine aw_iload rfl rfl ?_
        refine aw_iadd rfl ?_
        refine aw_aload_n rfl rfl ?_
        refine aw_bipush (v := 36) rfl (by decide) ?_
        refine aw_iload rfl rfl ?_
        refine aw_iadd rfl ?_
        refine aw_iconst (v := 3) rfl (by decide) ?_
        refine aw_iadd rfl ?_
        refine pl_52 rfl (show (36 : Int32) + nI (i + 1) + 3 = nI (40 + i) from by (rw [show (36 : Int32) + nI (i + 1) = nI (36 + (i + 1)) from nI_add 36 _, show nI (36 + (i + 1)) + 3 = nI (36 + (i + 1) + 3) from nI_add _ 3]; exact congrArg nI (by omega))) (by omega) ?_
        refine ps_52 rfl (show (36 : Int32) + nI (i + 1) = nI (37 + i) from by (rw [show (36 : Int32) + nI (i + 1) = nI (36 + (i + 1)) from nI_add 36 _]; exact congrArg nI (by omega))) (by omega) ?_
        refine aw_inc1 rfl rfl (by decide) ?_
        refine aw_goto (tgt := 186) rfl (by decide) ?_
        refine aw_wk (aw_eqs (ih (i + 1) (by omega)) rfl rfl (congrArg (fun z => hp g z n1) ?_)) (And.intro rfl (And.intro rfl (And.intro rfl (And.intro rfl (And.intro rfl (And.intro (congrArg (fun x => some (Value.int x)) (nI_1 (i + 1))) True.intro))))))
        rw [upR_up, upR_s, show va_cpy f f 40 37 i (40 + i) = f (40 + i) from by (unfold va_cpy; rw [if_neg (by omega)]), cpy_s]
    have loop2 : ∀ (d i : Nat) (a : Nat → Int32), i + d = T → fd (gF (s 46) (bt Q - 1) ME) i d a = FF → aw_W l g mi_X12_goMonth (aw_rm 102 0 0) (aw_Z g (fun r w => ∃ s' n', r = some (.int ME) ∧ w = hp g s' n' ∧ eo skM (upR s 52 (gG (gT FF (s 44 2)) WM ME G)) s' ∧ en n n' ∧ MI s' n') 0 0) 0 0 (hp g (upR s1 52 a) n1) 72 [some (.ref (g_ad g 39)), some (.ref (g_ad g 52)), some (.int WM), some (.int ME), some (.int (bt Q - 1)), some (.int (nI i))] [] := by
      intro d
      induction d with
      | zero =>
        intro i a hi hX
        simp only [fd] at hX
        subst hX
        have hiN : i = T := by omega
        have ha36 : a 36 = nI G := by rw [hFF, fd_gF (by decide) (by decide) T 0 _ (by omega)]; exact hGe
        refine aw_iload rfl rfl ?_
        refine aw_aload_n rfl rfl ?_
        refine pg_39_26 rfl kl_X12_291 ?_
        refine aw_icmp_ge (tgt := 145) rfl (by decide) (fun h78 => ?_) (fun h78 => absurd (by rw [show upR s1 52 a 39 26 = nI T from hT1]; exact nI_le (by omega) (by omega)) h78)
        refine aw_aload_n rfl rfl ?_
        refine aw_bipush (v := 31) rfl (by decide) ?_
        refine aw_sipush (v := 999) rfl (by decide) ?_
        refine aw_aload_n rfl rfl ?_
        refine aw_bipush (v := 31) rfl (by decide) ?_
        refine pl_52 (j := 31) rfl rfl (by decide) ?_
        refine aw_aload_n rfl rfl ?_
        refine pg_39_18 rfl kl_X12_37 ?_
        refine aw_iconst (v := 2) rfl (by decide) ?_
        refine pl_44 (j := 2) rfl rfl (by decide) ?_
        refine aw_iadd rfl ?_
        refine aw_mmin rfl km_X12_309 (aw_t2 171 rfl rfl) (aw_t1 18 rfl rfl) (aw_t2 172 rfl rfl) (by decide) (Nat.le_of_ble_eq_true rfl) (by decide) (by decide) ?_
        refine ps_52 (j := 31) rfl rfl (by decide) ?_
        refine aw_aload_n rfl rfl ?_
        refine aw_bipush (v := 35) rfl (by decide) ?_
        refine aw_dup2 rfl rfl rfl ?_
        refine pl_52 (j := 35) rfl rfl (by decide) ?_
        refine aw_iconst (v := 1) rfl (by decide) ?_
        refine aw_iadd rfl ?_
        refine ps_52 (j := 35) rfl rfl (by decide) ?_
        simp only [upR_up, upR_s]
        rw [show upR s1 52 a 44 2 = s 44 2 from congrFun h44 2, show upd a 31 (if a 31 + s 44 2 < 999 then a 31 + s 44 2 else 999) 35 + 1 = a 35 + 1 from rfl]
        have h36 : (gT a (s 44 2)) 36 = nI G := ha36
        refine aw_aload_n rfl rfl ?_
        refine aw_bipush (v := 36) rfl (by decide) ?_
        refine pl_52 (j := 36) rfl rfl (by decide) ?_
        refine aw_bipush (v := 60) rfl (by decide) ?_
        refine aw_icmp_ne (tgt := 224) rfl (by decide) (fun h180 => ?_) (fun h180 => ?_)
        · have hG6 : ¬ G = 60 := fun e => h180 (h36.trans (by rw [e]; rfl))
          exact aw_wk (last (gT a (s 44 2)) G (some (.int (nI i))) h36 (by omega) (by unfold gG; rw [if_neg hG6])) (And.intro rfl (And.intro rfl (And.intro rfl (And.intro rfl (And.intro rfl (And.intro rfl True.intro))))))
        · refine aw_iconst (v := 1) rfl (by decide) ?_
          refine aw_istore rfl (by decide) ?_
          have hG6 : G = 60 := by (have e : (nI G : Int32) = 60 := h36.symm.trans h180; exact (nI_eq (b := 60) (by omega) (by decide)).mp e)
          refine aw_wk (aw_eqs (shift (gT a (s 44 2)) (by rw [h36, hG6]) (by unfold gG; rw [if_pos hG6]) 177 0 (by decide)) rfl rfl (congrArg (fun z => hp g z n1) ?_)) (And.intro rfl (And.intro rfl (And.intro rfl (And.intro rfl (And.intro rfl (And.intro rfl True.intro))))))
          rw [cpy_0]; rfl
      | succ d ih =>
        intro i a hi hX
        simp only [fd] at hX
        refine aw_iload rfl rfl ?_
        refine aw_aload_n rfl rfl ?_
        refine pg_39_26 rfl kl_X12_291 ?_
        refine aw_icmp_ge (tgt := 145) rfl (by decide) (fun h78 => absurd h78 (by rw [show upR s1 52 a 39 26 = nI T from hT1]; exact nI_ge (by omega) (by omega))) (fun h78 => ?_)
        refine aw_iload_n rfl rfl ?_
        refine aw_iload rfl rfl ?_
        refine aw_iS rfl cw_X12_229 (c_m_has) rfl rfl (Nat.le_of_ble_eq_true rfl) (by decide) (by decide) (by decide) (by decide) ?_
        refine aw_if_ne (tgt := 93) rfl (by decide) (fun h87 => ?_) (fun h87 => ?_)
        · refine aw_aload_n rfl rfl ?_
          refine aw_iconst (v := 3) rfl (by decide) ?_
          refine aw_iload rfl rfl ?_
          refine aw_imul rfl ?_
          refine aw_iconst (v := 1) rfl (by decide) ?_
          refine aw_iadd rfl ?_
          refine aw_iconst (v := 0) rfl (by decide) ?_
          refine ps_52 rfl (i3 i 1) (by omega) ?_
          simp only [upR_up, upR_s]
          have hr2 : upd a (3 * i + 1) 0 (3 * i + 2) = a (3 * i + 2) := upd_n (by omega)
          have hr3 : upd a (3 * i + 1) 0 33 = a 33 := upd_n (by omega)
          refine aw_aload_n rfl rfl ?_
          refine aw_iconst (v := 3) rfl (by decide) ?_
          refine aw_iload rfl rfl ?_
          refine aw_imul rfl ?_
          refine aw_iconst (v := 2) rfl (by decide) ?_
          refine aw_iadd rfl ?_
          refine pl_52 rfl (i3 i 2) (by omega) ?_
          refine aw_iload rfl rfl ?_
          refine aw_icmp_eq (tgt := 129) rfl (by decide) (fun h112 => ?_) (fun h112 => ?_)
          · refine aw_aload_n rfl rfl ?_
            refine aw_iconst (v := 3) rfl (by decide) ?_
            refine aw_iload rfl rfl ?_
            refine aw_imul rfl ?_
            refine aw_iconst (v := 2) rfl (by decide) ?_
            refine aw_iadd rfl ?_
            refine aw_iload rfl rfl ?_
            refine ps_52 rfl (i3 i 2) (by omega) ?_
            refine aw_inc1 rfl rfl (by decide) ?_
            refine aw_goto (tgt := 72) rfl (by decide) ?_
            refine aw_wk (aw_eqs (ih (i + 1) _ (by omega) hX) rfl rfl (congrArg (fun z => hp g z n1) ?_)) (And.intro rfl (And.intro rfl (And.intro rfl (And.intro rfl (And.intro rfl (And.intro (congrArg (fun x => some (Value.int x)) (nI_1 i)) True.intro))))))
            first
          | (rw [show gF (s 46) (bt Q - 1) ME i a = a from by (unfold gF; rw [if_neg (by rw [bB_0.mp h87]; exact Bool.false_ne_true)])]; done)
          | (simp only [upR_up, upR_s]
             unfold gF
             rw [if_pos (bB_n0.mp h87)]
             first
               | (rw [if_pos (hr2.symm.trans h112)]; done)
               | (rw [if_neg (fun e => h112 (hr2.trans e)), hr3, show upR s1 52 (upd a (3 * i + 1) 0) 46 = s 46 from h46]; done))
          · refine aw_aload_n rfl rfl ?_
            refine aw_bipush (v := 33) rfl (by decide) ?_
            refine aw_dup2 rfl rfl rfl ?_
            refine pl_52 (j := 33) rfl rfl (by decide) ?_
            refine aw_aload_n rfl rfl ?_
            refine aw_iload rfl rfl ?_
            refine aw_iconst (v := 2) rfl (by decide) ?_
            refine aw_iV (q0 := 39) (ci := 12) rfl cw_X12_319 rfl rfl rfl (c_m_of (j := i) (c := 2) (by omega) (by decide)) rfl rfl (Nat.le_of_ble_eq_true rfl) (by decide) (by decide) (by decide) (by decide) ?_
            refine aw_iadd rfl ?_
            refine ps_52 (j := 33) rfl rfl (by decide) ?_
            refine aw_aload_n rfl rfl ?_
            refine aw_iconst (v := 3) rfl (by decide) ?_
            refine aw_iload rfl rfl ?_
            refine aw_imul rfl ?_
            refine aw_iconst (v := 2) rfl (by decide) ?_
            refine aw_iadd rfl ?_
            refine aw_iload rfl rfl ?_
            refine ps_52 rfl (i3 i 2) (by omega) ?_
            refine aw_inc1 rfl rfl (by decide) ?_
            refine aw_goto (tgt := 72) rfl (by decide) ?_
            refine aw_wk (aw_eqs (ih (i + 1) _ (by omega) hX) rfl rfl (congrArg (fun z => hp g z n1) ?_)) (And.intro rfl (And.intro rfl (And.intro rfl (And.intro rfl (And.intro rfl (And.intro (congrArg (fun x => some (Value.int x)) (nI_1 i)) True.intro))))))
            first
          | (rw [show gF (s 46) (bt Q - 1) ME i a = a from by (unfold gF; rw [if_neg (by rw [bB_0.mp h87]; exact Bool.false_ne_true)])]; done)
          | (simp only [upR_up, upR_s]
             unfold gF
             rw [if_pos (bB_n0.mp h87)]
             first
               | (rw [if_pos (hr2.symm.trans h112)]; done)
               | (rw [if_neg (fun e => h112 (hr2.trans e)), hr3, show upR s1 52 (upd a (3 * i + 1) 0) 46 = s 46 from h46]; done))
        · refine aw_goto (tgt := 139) rfl (by decide) ?_
          refine aw_inc1 rfl rfl (by decide) ?_
          refine aw_goto (tgt := 72) rfl (by decide) ?_
          refine aw_wk (aw_eqs (ih (i + 1) _ (by omega) hX) rfl rfl (congrArg (fun z => hp g z n1) ?_)) (And.intro rfl (And.intro rfl (And.intro rfl (And.intro rfl (And.intro rfl (And.intro (congrArg (fun x => some (Value.int x)) (nI_1 i)) True.intro))))))
          first
          | (rw [show gF (s 46) (bt Q - 1) ME i a = a from by (unfold gF; rw [if_neg (by rw [bB_0.mp h87]; exact Bool.false_ne_true)])]; done)
          | (simp only [upR_up, upR_s]
             unfold gF
             rw [if_pos (bB_n0.mp h87)]
             first
               | (rw [if_pos (hr2.symm.trans h112)]; done)
               | (rw [if_neg (fun e => h112 (hr2.trans e)), hr3, show upR s1 52 (upd a (3 * i + 1) 0) 46 = s 46 from h46]; done))
    have go0 := loop2 T 0 (s1 52) (by omega) (by rw [hW]; exact hFF.symm)
    rw [upR_rf] at go0
    refine aw_iconst (v := 1) rfl (by decide) ?_
    refine aw_aload_n rfl rfl ?_
    refine pg_39_27 rfl kl_X12_294 ?_
    refine aw_ishl rfl ?_
    refine aw_iconst (v := 1) rfl (by decide) ?_
    refine aw_isub rfl ?_
    rw [show s1 39 27 = nI Q from hQ1]
    refine aw_istore rfl (by decide) ?_
    refine aw_iconst (v := 0) rfl (by decide) ?_
    refine aw_istore rfl (by decide) ?_
    exact aw_wk go0 (And.intro rfl (And.intro rfl (And.intro rfl (And.intro rfl (And.intro rfl (And.intro rfl True.intro))))))
  have loop : ∀ (d i : Nat) (s1 : am_S) (n1 : am_N) (a : Int32), i + d = T → eo skM s s1 → en n n1 → MI s1 n1 → fd (gmM V s (s 52)) i d a = ME → aw_W l g mi_X12_goMonth (aw_rm 102 0 0) (aw_Z g (fun r w => ∃ s' n', r = some (.int ME) ∧ w = hp g s' n' ∧ eo skM (upR s 52 (gG (gT FF (s 44 2)) WM ME G)) s' ∧ en n n' ∧ MI s' n') 0 0) 0 0 (hp g s1 n1) 17 [some (.ref (g_ad g 39)), some (.ref (g_ad g 52)), some (.int WM), some (.int a), some (.int (nI i))] [] := by
    intro d
    induction d with
    | zero =>
      intro i s1 n1 a hi e1 f1 m1 hX
      simp only [fd] at hX
      subst hX
      have hT1 : s1 39 26 = nI T := (e1 39 26 rfl).trans hC.1.1
      refine aw_iload rfl rfl ?_
      refine aw_aload_n rfl rfl ?_
      refine pg_39_26 rfl kl_X12_291 ?_
      refine aw_icmp_ge (tgt := 59) rfl (by decide) (fun h23 => ?_) (fun h23 => absurd (by rw [hT1]; exact nI_le (by omega) (by omega)) h23)
      exact aw_wk (tail s1 n1 e1 f1 m1) (And.intro rfl (And.intro rfl (And.intro rfl (And.intro rfl True.intro))))
    | succ d ih =>
      intro i s1 n1 a hi e1 f1 m1 hX
      simp only [fd] at hX
      have hT1 : s1 39 26 = nI T := (e1 39 26 rfl).trans hC.1.1
      have hC1 := hC.eo e1 m1
      have hW : s1 52 = s 52 := eo_cell e1 52 (fun _ => rfl)
      have hr1 : rwb (s1 52) T Q := by rw [hW]; exact hr
      have hh : hnm V s1 (s1 52) i = hnm V s (s 52) i := by (unfold hnm; rw [hbm_m e1, hW, eo_cell e1 46 (fun _ => rfl)])
      refine aw_iload rfl rfl ?_
      refine aw_aload_n rfl rfl ?_
      refine pg_39_26 rfl kl_X12_291 ?_
      refine aw_icmp_ge (tgt := 59) rfl (by decide) (fun h23 => absurd h23 (by rw [hT1]; exact nI_ge (by omega) (by omega))) (fun h23 => ?_)
      refine aw_aload_n rfl rfl ?_
      refine aw_iload rfl rfl ?_
      refine aw_iS rfl cw_X12_338 (c_m_isOpen_52 (j := i) (by omega)) rfl rfl (Nat.le_of_ble_eq_true rfl) (by decide) (by decide) (by decide) (by decide) ?_
      refine aw_if_ne (tgt := 53) rfl (by decide) (fun h32 => ?_) (fun h32 => ?_)
      · refine aw_inc1 rfl rfl (by decide) ?_
        refine aw_goto (tgt := 17) rfl (by decide) ?_
        first
        | exact aw_wk (ih (i + 1) s1 n1 _ (by omega) e1 f1 m1 (Eq.trans (congrArg (fd _ (i + 1) d) (by (unfold gmM; rw [if_pos (by have := of_decide_eq_true (bB_n0.mp h32); rw [hW] at this; exact this)]; done))) hX)) (And.intro rfl (And.intro rfl (And.intro rfl (And.intro rfl (And.intro (congrArg (fun x => some (Value.int x)) (nI_1 i)) True.intro)))))
        | exact aw_wk (ih (i + 1) s2 n2 _ (by omega) (eo_tr e1 e2) (en_tr f1 f2) m2 (Eq.trans (congrArg (fd _ (i + 1) d) (by (unfold gmM; rw [if_neg (by have := of_decide_eq_false (bB_0.mp h32); rw [hW] at this; exact this), if_neg (by rw [← hWM, ← hh]; exact Int32.not_lt.mpr h43)]; done))) hX)) (And.intro rfl (And.intro rfl (And.intro rfl (And.intro rfl (And.intro (congrArg (fun x => some (Value.int x)) (nI_1 i)) True.intro)))))
        | exact aw_wk (ih (i + 1) s2 n2 _ (by omega) (eo_tr e1 e2) (en_tr f1 f2) m2 (Eq.trans (congrArg (fd _ (i + 1) d) (by (unfold gmM; rw [if_neg (by have := of_decide_eq_false (bB_0.mp h32); rw [hW] at this; exact this), if_pos (by rw [← hWM, ← hh]; exact Int32.not_le.mp h43)]; rfl))) hX)) (And.intro rfl (And.intro rfl (And.intro rfl (And.intro rfl (And.intro (congrArg (fun x => some (Value.int x)) (nI_1 i)) True.intro)))))
      · refine aw_iload_n rfl rfl ?_
        refine aw_aload_n rfl rfl ?_
        refine aw_aload_n rfl rfl ?_
        refine aw_iload rfl rfl ?_
        refine aw_rV (q0 := 39) (ci := 12) rfl cw_X12_342 rfl rfl rfl (c_m_holds_52 hC1 hr1 (j := i) (by omega)) rfl rfl (Nat.le_of_ble_eq_true rfl) (by decide) (by decide) (by decide) (by decide) (fun s2 n2 e2 f2 m2 => ?_)
        refine aw_icmp_le (tgt := 53) rfl (by decide) (fun h43 => ?_) (fun h43 => ?_)
        · refine aw_inc1 rfl rfl (by decide) ?_
          refine aw_goto (tgt := 17) rfl (by decide) ?_
          first
          | exact aw_wk (ih (i + 1) s1 n1 _ (by omega) e1 f1 m1 (Eq.trans (congrArg (fd _ (i + 1) d) (by (unfold gmM; rw [if_pos (by have := of_decide_eq_true (bB_n0.mp h32); rw [hW] at this; exact this)]; done))) hX)) (And.intro rfl (And.intro rfl (And.intro rfl (And.intro rfl (And.intro (congrArg (fun x => some (Value.int x)) (nI_1 i)) True.intro)))))
          | exact aw_wk (ih (i + 1) s2 n2 _ (by omega) (eo_tr e1 e2) (en_tr f1 f2) m2 (Eq.trans (congrArg (fd _ (i + 1) d) (by (unfold gmM; rw [if_neg (by have := of_decide_eq_false (bB_0.mp h32); rw [hW] at this; exact this), if_neg (by rw [← hWM, ← hh]; exact Int32.not_lt.mpr h43)]; done))) hX)) (And.intro rfl (And.intro rfl (And.intro rfl (And.intro rfl (And.intro (congrArg (fun x => some (Value.int x)) (nI_1 i)) True.intro)))))
          | exact aw_wk (ih (i + 1) s2 n2 _ (by omega) (eo_tr e1 e2) (en_tr f1 f2) m2 (Eq.trans (congrArg (fd _ (i + 1) d) (by (unfold gmM; rw [if_neg (by have := of_decide_eq_false (bB_0.mp h32); rw [hW] at this; exact this), if_pos (by rw [← hWM, ← hh]; exact Int32.not_le.mp h43)]; rfl))) hX)) (And.intro rfl (And.intro rfl (And.intro rfl (And.intro rfl (And.intro (congrArg (fun x => some (Value.int x)) (nI_1 i)) True.intro)))))
        · refine aw_iload_n rfl rfl ?_
          refine aw_iconst (v := 1) rfl (by decide) ?_
          refine aw_iload rfl rfl ?_
          refine aw_ishl rfl ?_
          refine aw_ior rfl ?_
          refine aw_istore_n rfl (by decide) ?_
          refine aw_inc1 rfl rfl (by decide) ?_
          refine aw_goto (tgt := 17) rfl (by decide) ?_
          first
          | exact aw_wk (ih (i + 1) s1 n1 _ (by omega) e1 f1 m1 (Eq.trans (congrArg (fd _ (i + 1) d) (by (unfold gmM; rw [if_pos (by have := of_decide_eq_true (bB_n0.mp h32); rw [hW] at this; exact this)]; done))) hX)) (And.intro rfl (And.intro rfl (And.intro rfl (And.intro rfl (And.intro (congrArg (fun x => some (Value.int x)) (nI_1 i)) True.intro)))))
          | exact aw_wk (ih (i + 1) s2 n2 _ (by omega) (eo_tr e1 e2) (en_tr f1 f2) m2 (Eq.trans (congrArg (fd _ (i + 1) d) (by (unfold gmM; rw [if_neg (by have := of_decide_eq_false (bB_0.mp h32); rw [hW] at this; exact this), if_neg (by rw [← hWM, ← hh]; exact Int32.not_lt.mpr h43)]; done))) hX)) (And.intro rfl (And.intro rfl (And.intro rfl (And.intro rfl (And.intro (congrArg (fun x => some (Value.int x)) (nI_1 i)) True.intro)))))
          | exact aw_wk (ih (i + 1) s2 n2 _ (by omega) (eo_tr e1 e2) (en_tr f1 f2) m2 (Eq.trans (congrArg (fd _ (i + 1) d) (by (unfold gmM; rw [if_neg (by have := of_decide_eq_false (bB_0.mp h32); rw [hW] at this; exact this), if_pos (by rw [← hWM, ← hh]; exact Int32.not_le.mp h43)]; rfl))) hX)) (And.intro rfl (And.intro rfl (And.intro rfl (And.intro rfl (And.intro (congrArg (fun x => some (Value.int x)) (nI_1 i)) True.intro)))))
  refine aw_R_of mo_X12_goMonth (by decide) (Nat.le_of_ble_eq_true rfl) ?_
  refine aw_aload_n rfl rfl ?_
  refine aw_bipush (v := 32) rfl (by decide) ?_
  refine pl_52 (j := 32) rfl rfl (by decide) ?_
  refine aw_aload_n rfl rfl ?_
  refine aw_bipush (v := 35) rfl (by decide) ?_
  refine pl_52 (j := 35) rfl rfl (by decide) ?_
  refine aw_iS rfl cw_X12_328 (c_m_warmthAt) rfl rfl (Nat.le_of_ble_eq_true rfl) (by decide) (by decide) (by decide) (by decide) ?_
  refine aw_istore_n rfl (by decide) ?_
  refine aw_iconst (v := 0) rfl (by decide) ?_
  refine aw_istore_n rfl (by decide) ?_
  refine aw_iconst (v := 0) rfl (by decide) ?_
  refine aw_istore rfl (by decide) ?_
  rw [← hWM]
  exact aw_wk (loop T 0 s n 0 (by omega) eo_rf en_rf hC.2.2.1 hME.symm) (And.intro rfl (And.intro rfl (And.intro rfl (And.intro rfl (And.intro rfl True.intro)))))
set_option maxRecDepth 4000 in
theorem c_m_goMonth_53 {l : Launch} {g : ag_G} {s : am_S} {n : am_N} {MI : am_S → am_N → Prop} {V : (Nat → Int32) → Int32} {T Q : Nat} (hC : MC l g MI V s n T Q) (hr : rwb (s 53) T Q) {G : Nat} (hG : G ≤ 60) (hGe : s 53 36 = nI G) : aw_R l g mi_X12_goMonth 102 skM [.ref (g_ad g 39), .ref (g_ad g 53)] s n MI (.int (goM V s T Q G (s 53)).1) (upR s 53 (goM V s T Q G (s 53)).2) := by
  have hT := hC.1.2.1
  have hQ := hC.1.2.2.2.1
  obtain ⟨WM, hWM⟩ : ∃ z, z = warm (s 53 32) (s 53 35) := ⟨_, rfl⟩
  obtain ⟨ME, hME⟩ : ∃ z, z = fd (gmM V s (s 53)) 0 T 0 := ⟨_, rfl⟩
  obtain ⟨FF, hFF⟩ : ∃ z, z = fd (gF (s 46) (bt Q - 1) ME) 0 T (s 53) := ⟨_, rfl⟩
  have hgo : goM V s T Q G (s 53) = (ME, gG (gT FF (s 44 2)) WM ME G) := by rw [hFF, hWM, hME]; rfl
  rw [hgo]
  have tail : ∀ (s1 : am_S) (n1 : am_N), eo skM s s1 → en n n1 → MI s1 n1 → aw_W l g mi_X12_goMonth (aw_rm 102 0 0) (aw_Z g (fun r w => ∃ s' n', r = some (.int ME) ∧ w = hp g s' n' ∧ eo skM (upR s 53 (gG (gT FF (s 44 2)) WM ME G)) s' ∧ en n n' ∧ MI s' n') 0 0) 0 0 (hp g s1 n1) 59 [some (.ref (g_ad g 39)), some (.ref (g_ad g 53)), some (.int WM), some (.int ME), none] [] := by
    intro s1 n1 e1 f1 m1
    have h46 : s1 46 = s 46 := eo_cell e1 46 (fun _ => rfl)
    have h44 : s1 44 = s 44 := eo_cell e1 44 (fun _ => rfl)
    have hW : s1 53 = s 53 := eo_cell e1 53 (fun _ => rfl)
    have hT1 : s1 39 26 = nI T := (e1 39 26 rfl).trans hC.1.1
    have hQ1 : s1 39 27 = nI Q := (e1 39 27 rfl).trans hC.1.2.2.1
    have hMI : ∀ f, MI (upR s1 53 f) n1 := fun f => hC.2.1.2.2.1 s1 _ n1 n1 m1 rfl rfl rfl rfl rfl rfl
    have last : ∀ (f : Nat → Int32) (q : Nat) (y : Option Value), f 36 = nI q → q < 60 → gE f WM ME q = gG (gT FF (s 44 2)) WM ME G → aw_W l g mi_X12_goMonth (aw_rm 102 0 0) (aw_Z g (fun r w => ∃ s' n', r = some (.int ME) ∧ w = hp g s' n' ∧ eo skM (upR s 53 (gG (gT FF (s 44 2)) WM ME G)) s' ∧ en n n' ∧ MI s' n') 0 0) 0 0 (hp g (upR s1 53 f) n1) 224 [some (.ref (g_ad g 39)), some (.ref (g_ad g 53)), some (.int WM), some (.int ME), some (.int (bt Q - 1)), y] [] := by
      intro f q y hf hq hE
      refine aw_bipush (v := 37) rfl (by decide) ?_
      refine aw_iconst (v := 3) rfl (by decide) ?_
      refine aw_aload_n rfl rfl ?_
      refine aw_bipush (v := 36) rfl (by decide) ?_
      refine pl_53 (j := 36) rfl rfl (by decide) ?_
      refine aw_imul rfl ?_
      refine aw_iadd rfl ?_
      refine aw_istore rfl (by decide) ?_
      refine aw_aload_n rfl rfl ?_
      refine aw_iload rfl rfl ?_
      refine aw_iload_n rfl rfl ?_
      refine ps_53 rfl (show (37 : Int32) + 3 * upR s1 53 f 53 36 = nI (37 + 3 * q) from by (rw [upR_s, hf, show (3 : Int32) * nI q = nI (3 * q) from pk_mul 3 q]; exact nI_add 37 _)) (by omega) ?_
      refine aw_aload_n rfl rfl ?_
      refine aw_iload rfl rfl ?_
      refine aw_iconst (v := 1) rfl (by decide) ?_
      refine aw_iadd rfl ?_
      refine aw_iload_n rfl rfl ?_
      refine ps_53 rfl (show (37 : Int32) + 3 * upR s1 53 f 53 36 + 1 = nI (37 + 3 * q + 1) from by (rw [upR_s, hf, show (3 : Int32) * nI q = nI (3 * q) from pk_mul 3 q, show (37 : Int32) + nI (3 * q) = nI (37 + 3 * q) from nI_add 37 _]; exact nI_add _ 1)) (by omega) ?_
      refine aw_aload_n rfl rfl ?_
      refine aw_iload rfl rfl ?_
      refine aw_iconst (v := 2) rfl (by decide) ?_
      refine aw_iadd rfl ?_
      refine aw_aload_n rfl rfl ?_
      refine aw_bipush (v := 33) rfl (by decide) ?_
      refine pl_53 (j := 33) rfl rfl (by decide) ?_
      refine ps_53 rfl (show (37 : Int32) + 3 * upR s1 53 f 53 36 + 2 = nI (37 + 3 * q + 2) from by (rw [upR_s, hf, show (3 : Int32) * nI q = nI (3 * q) from pk_mul 3 q, show (37 : Int32) + nI (3 * q) = nI (37 + 3 * q) from nI_add 37 _]; exact nI_add _ 2)) (by omega) ?_
      refine aw_aload_n rfl rfl ?_
      refine aw_bipush (v := 36) rfl (by decide) ?_
      refine aw_dup2 rfl rfl rfl ?_
      refine pl_53 (j := 36) rfl rfl (by decide) ?_
      refine aw_iconst (v := 1) rfl (by decide) ?_
      refine aw_iadd rfl ?_
      refine ps_53 (j := 36) rfl rfl (by decide) ?_
      refine aw_iload_n rfl rfl ?_
      simp only [upR_up, upR_s]
      rw [upd_n (i := 37 + 3 * q + 1) (j := 33) (by omega), upd_n (i := 37 + 3 * q) (j := 33) (by omega), upd_n (i := 37 + 3 * q + 2) (j := 36) (by omega), upd_n (i := 37 + 3 * q + 1) (j := 36) (by omega), upd_n (i := 37 + 3 * q) (j := 36) (by omega), hf, nI_1, ← hE]
      exact aw_ri rfl rfl rfl (eo_upR3 e1) f1 (hMI _)
    have shift : ∀ (f : Nat → Int32), f 36 = nI 60 → gE (upd (va_cpy f f 40 37 177) 36 59) WM ME 59 = gG (gT FF (s 44 2)) WM ME G → ∀ (d i : Nat), i + d = 177 → aw_W l g mi_X12_goMonth (aw_rm 102 0 0) (aw_Z g (fun r w => ∃ s' n', r = some (.int ME) ∧ w = hp g s' n' ∧ eo skM (upR s 53 (gG (gT FF (s 44 2)) WM ME G)) s' ∧ en n n' ∧ MI s' n') 0 0) 0 0 (hp g (upR s1 53 (va_cpy f f 40 37 i)) n1) 186 [some (.ref (g_ad g 39)), some (.ref (g_ad g 53)), some (.int WM), some (.int ME), some (.int (bt Q - 1)), some (.int (nI (i + 1)))] [] := by
      intro f hf hE d
      induction d with
      | zero =>
        intro i hi
        obtain rfl : i = 177 := by omega
        refine aw_iload rfl rfl ?_
        refine aw_sipush (v := 177) rfl (by decide) ?_
        refine aw_icmp_gt (tgt := 216) rfl (by decide) (fun h191 => ?_) (fun h191 => absurd (by decide) h191)
        refine aw_aload_n rfl rfl ?_
        refine aw_bipush (v := 36) rfl (by decide) ?_
        refine aw_dup2 rfl rfl rfl ?_
        refine pl_53 (j := 36) rfl rfl (by decide) ?_
        refine aw_iconst (v := 1) rfl (by decide) ?_
        refine aw_isub rfl ?_
        refine ps_53 (j := 36) rfl rfl (by decide) ?_
        simp only [upR_up, upR_s]
        rw [show va_cpy f f 40 37 177 36 - 1 = 59 from by (rw [show va_cpy f f 40 37 177 36 = f 36 from rfl, hf]; rfl)]
        exact aw_wk (last _ 59 (some (.int (nI (177 + 1)))) (upd_s) (by decide) hE) (And.intro rfl (And.intro rfl (And.intro rfl (And.intro rfl (And.intro rfl (And.intro rfl True.intro))))))
      | succ d ih =>
        intro i hi
        refine aw_iload rfl rfl ?_
        refine aw_sipush (v := 177) rfl (by decide) ?_
        refine aw_icmp_gt (tgt := 216) rfl (by decide) (fun h191 => absurd h191 (fun h => absurd h (Int32.not_lt.mpr (nI_le (b := 177) (by omega) (by decide))))) (fun h191 => ?_)
        refine aw_aload_n rfl rfl ?_
        refine aw_bipush (v := 36) rfl (by decide) ?_
        refine aw_iload rfl rfl ?_
        refine aw_iadd rfl ?_
        refine aw_aload_n rfl rfl ?_
        refine aw_bipush (v := 36) rfl (by decide) ?_
        refine aw_iload rfl rfl ?_
        refine aw_iadd rfl ?_
        refine aw_iconst (v := 3) rfl (by decide) ?_
        refine aw_iadd rfl ?_
        refine pl_53 rfl (show (36 : Int32) + nI (i + 1) + 3 = nI (40 + i) from by (rw [show (36 : Int32) + nI (i + 1) = nI (36 + (i + 1)) from nI_add 36 _, show nI (36 + (i + 1)) + 3 = nI (36 + (i + 1) + 3) from nI_add _ 3]; exact congrArg nI (by omega))) (by omega) ?_
        refine ps_53 rfl (show (36 : Int32) + nI (i + 1) = nI (37 + i) from by (rw [show (36 : Int32) + nI (i + 1) = nI (36 + (i + 1)) from nI_add 36 _]; exact congrArg nI (by omega))) (by omega) ?_
        refine aw_inc1 rfl rfl (by decide) ?_
        refine aw_goto (tgt := 186) rfl (by decide) ?_
        refine aw_wk (aw_eqs (ih (i + 1) (by omega)) rfl rfl (congrArg (fun z => hp g z n1) ?_)) (And.intro rfl (And.intro rfl (And.intro rfl (And.intro rfl (And.intro rfl (And.intro (congrArg (fun x => some (Value.int x)) (nI_1 (i + 1))) True.intro))))))
        rw [upR_up, upR_s, show va_cpy f f 40 37 i (40 + i) = f (40 + i) from by (unfold va_cpy; rw [if_neg (by omega)]), cpy_s]
    have loop2 : ∀ (d i : Nat) (a : Nat → Int32), i + d = T → fd (gF (s 46) (bt Q - 1) ME) i d a = FF → aw_W l g mi_X12_goMonth (aw_rm 102 0 0) (aw_Z g (fun r w => ∃ s' n', r = some (.int ME) ∧ w = hp g s' n' ∧ eo skM (upR s 53 (gG (gT FF (s 44 2)) WM ME G)) s' ∧ en n n' ∧ MI s' n') 0 0) 0 0 (hp g (upR s1 53 a) n1) 72 [some (.ref (g_ad g 39)), some (.ref (g_ad g 53)), some (.int WM), some (.int ME), some (.int (bt Q - 1)), some (.int (nI i))] [] := by
      intro d
      induction d with
      | zero =>
        intro i a hi hX
        simp only [fd] at hX
        subst hX
        have hiN : i = T := by omega
        have ha36 : a 36 = nI G := by rw [hFF, fd_gF (by decide) (by decide) T 0 _ (by omega)]; exact hGe
        refine aw_iload rfl rfl ?_
        refine aw_aload_n rfl rfl ?_
        refine pg_39_26 rfl kl_X12_291 ?_
        refine aw_icmp_ge (tgt := 145) rfl (by decide) (fun h78 => ?_) (fun h78 => absurd (by rw [show upR s1 53 a 39 26 = nI T from hT1]; exact nI_le (by omega) (by omega)) h78)
        refine aw_aload_n rfl rfl ?_
        refine aw_bipush (v := 31) rfl (by decide) ?_
        refine aw_sipush (v := 999) rfl (by decide) ?_
        refine aw_aload_n rfl rfl ?_
        refine aw_bipush (v := 31) rfl (by decide) ?_
        refine pl_53 (j := 31) rfl rfl (by decide) ?_
        refine aw_aload_n rfl rfl ?_
        refine pg_39_18 rfl kl_X12_37 ?_
        refine aw_iconst (v := 2) rfl (by decide) ?_
        refine pl_44 (j := 2) rfl rfl (by decide) ?_
        refine aw_iadd rfl ?_
        refine aw_mmin rfl km_X12_309 (aw_t2 171 rfl rfl) (aw_t1 18 rfl rfl) (aw_t2 172 rfl rfl) (by decide) (Nat.le_of_ble_eq_true rfl) (by decide) (by decide) ?_
        refine ps_53 (j := 31) rfl rfl (by decide) ?_
        refine aw_aload_n rfl rfl ?_
        refine aw_bipush (v := 35) rfl (by decide) ?_
        refine aw_dup2 rfl rfl rfl ?_
        refine pl_53 (j := 35) rfl rfl (by decide) ?_
        refine aw_iconst (v := 1) rfl (by decide) ?_
        refine aw_iadd rfl ?_
        refine ps_53 (j := 35) rfl rfl (by decide) ?_
        simp only [upR_up, upR_s]
        rw [show upR s1 53 a 44 2 = s 44 2 from congrFun h44 2, show upd a 31 (if a 31 + s 44 2 < 999 then a 31 + s 44 2 else 999) 35 + 1 = a 35 + 1 from rfl]
        have h36 : (gT a (s 44 2)) 36 = nI G := ha36
        refine aw_aload_n rfl rfl ?_
        refine aw_bipush (v := 36) rfl (by decide) ?_
        refine pl_53 (j := 36) rfl rfl (by decide) ?_
        refine aw_bipush (v := 60) rfl (by decide) ?_
        refine aw_icmp_ne (tgt := 224) rfl (by decide) (fun h180 => ?_) (fun h180 => ?_)
        · have hG6 : ¬ G = 60 := fun e => h180 (h36.trans (by rw [e]; rfl))
          exact aw_wk (last (gT a (s 44 2)) G (some (.int (nI i))) h36 (by omega) (by unfold gG; rw [if_neg hG6])) (And.intro rfl (And.intro rfl (And.intro rfl (And.intro rfl (And.intro rfl (And.intro rfl True.intro))))))
        · refine aw_iconst (v := 1) rfl (by decide) ?_
          refine aw_istore rfl (by decide) ?_
          have hG6 : G = 60 := by (have e : (nI G : Int32) = 60 := h36.symm.trans h180; exact (nI_eq (b := 60) (by omega) (by decide)).mp e)
          refine aw_wk (aw_eqs (shift (gT a (s 44 2)) (by rw [h36, hG6]) (by unfold gG; rw [if_pos hG6]) 177 0 (by decide)) rfl rfl (congrArg (fun z => hp g z n1) ?_)) (And.intro rfl (And.intro rfl (And.intro rfl (And.intro rfl (And.intro rfl (And.intro rfl True.intro))))))
          rw [cpy_0]; rfl
      | succ d ih =>
        intro i a hi hX
        simp only [fd] at hX
        refine aw_iload rfl rfl ?_
        refine aw_aload_n rfl rfl ?_
        refine pg_39_26 rfl kl_X12_291 ?_
        refine aw_icmp_ge (tgt := 145) rfl (by decide) (fun h78 => absurd h78 (by rw [show upR s1 53 a 39 26 = nI T from hT1]; exact nI_ge (by omega) (by omega))) (fun h78 => ?_)
        refine aw_iload_n rfl rfl ?_
        refine aw_iload rfl rfl ?_
        refine aw_iS rfl cw_X12_229 (c_m_has) rfl rfl (Nat.le_of_ble_eq_true rfl) (by decide) (by decide) (by decide) (by decide) ?_
        refine aw_if_ne (tgt := 93) rfl (by decide) (fun h87 => ?_) (fun h87 => ?_)
        · refine aw_aload_n rfl rfl ?_
          refine aw_iconst (v := 3) rfl (by decide) ?_
          refine aw_iload rfl rfl ?_
          refine aw_imul rfl ?_
          refine aw_iconst (v := 1) rfl (by decide) ?_
          refine aw_iadd rfl ?_
          refine aw_iconst (v := 0) rfl (by decide) ?_
          refine ps_53 rfl (i3 i 1) (by omega) ?_
          simp only [upR_up, upR_s]
          have hr2 : upd a (3 * i + 1) 0 (3 * i + 2) = a (3 * i + 2) := upd_n (by omega)
          have hr3 : upd a (3 * i + 1) 0 33 = a 33 := upd_n (by omega)
          refine aw_aload_n rfl rfl ?_
          refine aw_iconst (v := 3) rfl (by decide) ?_
          refine aw_iload rfl rfl ?_
          refine aw_imul rfl ?_
          refine aw_iconst (v := 2) rfl (by decide) ?_
          refine aw_iadd rfl ?_
          refine pl_53 rfl (i3 i 2) (by omega) ?_
          refine aw_iload rfl rfl ?_
          refine aw_icmp_eq (tgt := 129) rfl (by decide) (fun h112 => ?_) (fun h112 => ?_)
          · refine aw_aload_n rfl rfl ?_
            refine aw_iconst (v := 3) rfl (by decide) ?_
            refine aw_iload rfl rfl ?_
            refine aw_imul rfl ?_
            refine aw_iconst (v := 2) rfl (by decide) ?_
            refine aw_iadd rfl ?_
            refine aw_iload rfl rfl ?_
            refine ps_53 rfl (i3 i 2) (by omega) ?_
            refine aw_inc1 rfl rfl (by decide) ?_
            refine aw_goto (tgt := 72) rfl (by decide) ?_
            refine aw_wk (aw_eqs (ih (i + 1) _ (by omega) hX) rfl rfl (congrArg (fun z => hp g z n1) ?_)) (And.intro rfl (And.intro rfl (And.intro rfl (And.intro rfl (And.intro rfl (And.intro (congrArg (fun x => some (Value.int x)) (nI_1 i)) True.intro))))))
            first
          | (rw [show gF (s 46) (bt Q - 1) ME i a = a from by (unfold gF; rw [if_neg (by rw [bB_0.mp h87]; exact Bool.false_ne_true)])]; done)
          | (simp only [upR_up, upR_s]
             unfold gF
             rw [if_pos (bB_n0.mp h87)]
             first
               | (rw [if_pos (hr2.symm.trans h112)]; done)
               | (rw [if_neg (fun e => h112 (hr2.trans e)), hr3, show upR s1 53 (upd a (3 * i + 1) 0) 46 = s 46 from h46]; done))
          · refine aw_aload_n rfl rfl ?_
            refine aw_bipush (v := 33) rfl (by decide) ?_
            refine aw_dup2 rfl rfl rfl ?_
            refine pl_53 (j := 33) rfl rfl (by decide) ?_
            refine aw_aload_n rfl rfl ?_
            refine aw_iload rfl rfl ?_
            refine aw_iconst (v := 2) rfl (by decide) ?_
            refine aw_iV (q0 := 39) (ci := 12) rfl cw_X12_319 rfl rfl rfl (c_m_of (j := i) (c := 2) (by omega) (by decide)) rfl rfl (Nat.le_of_ble_eq_true rfl) (by decide) (by decide) (by decide) (by decide) ?_
            refine aw_iadd rfl ?_
            refine ps_53 (j := 33) rfl rfl (by decide) ?_
            refine aw_aload_n rfl rfl ?_
            refine aw_iconst (v := 3) rfl (by decide) ?_
            refine aw_iload rfl rfl ?_
            refine aw_imul rfl ?_
            refine aw_iconst (v := 2) rfl (by decide) ?_
            refine aw_iadd rfl ?_
            refine aw_iload rfl rfl ?_
            refine ps_53 rfl (i3 i 2) (by omega) ?_
            refine aw_inc1 rfl rfl (by decide) ?_
            refine aw_goto (tgt := 72) rfl (by decide) ?_
            refine aw_wk (aw_eqs (ih (i + 1) _ (by omega) hX) rfl rfl (congrArg (fun z => hp g z n1) ?_)) (And.intro rfl (And.intro rfl (And.intro rfl (And.intro rfl (And.intro rfl (And.intro (congrArg (fun x => some (Value.int x)) (nI_1 i)) True.intro))))))
            first
          | (rw [show gF (s 46) (bt Q - 1) ME i a = a from by (unfold gF; rw [if_neg (by rw [bB_0.mp h87]; exact Bool.false_ne_true)])]; done)
          | (simp only [upR_up, upR_s]
             unfold gF
             rw [if_pos (bB_n0.mp h87)]
             first
               | (rw [if_pos (hr2.symm.trans h112)]; done)
               | (rw [if_neg (fun e => h112 (hr2.trans e)), hr3, show upR s1 53 (upd a (3 * i + 1) 0) 46 = s 46 from h46]; done))
        · refine aw_goto (tgt := 139) rfl (by decide) ?_
          refine aw_inc1 rfl rfl (by decide) ?_
          refine aw_goto (tgt := 72) rfl (by decide) ?_
          refine aw_wk (aw_eqs (ih (i + 1) _ (by omega) hX) rfl rfl (congrArg (fun z => hp g z n1) ?_)) (And.intro rfl (And.intro rfl (And.intro rfl (And.intro rfl (And.intro rfl (And.intro (congrArg (fun x => some (Value.int x)) (nI_1 i)) True.intro))))))
          first
          | (rw [show gF (s 46) (bt Q - 1) ME i a = a from by (unfold gF; rw [if_neg (by rw [bB_0.mp h87]; exact Bool.false_ne_true)])]; done)
          | (simp only [upR_up, upR_s]
             unfold gF
             rw [if_pos (bB_n0.mp h87)]
             first
               | (rw [if_pos (hr2.symm.trans h112)]; done)
               | (rw [if_neg (fun e => h112 (hr2.trans e)), hr3, show upR s1 53 (upd a (3 * i + 1) 0) 46 = s 46 from h46]; done))
    have go0 := loop2 T 0 (s1 53) (by omega) (by rw [hW]; exact hFF.symm)
    rw [upR_rf] at go0
    refine aw_iconst (v := 1) rfl (by decide) ?_
    refine aw_aload_n rfl rfl ?_
    refine pg_39_27 rfl kl_X12_294 ?_
    refine aw_ishl rfl ?_
    refine aw_iconst (v := 1) rfl (by decide) ?_
    refine aw_isub rfl ?_
    rw [show s1 39 27 = nI Q from hQ1]
    refine aw_istore rfl (by decide) ?_
    refine aw_iconst (v := 0) rfl (by decide) ?_
    refine aw_istore rfl (by decide) ?_
    exact aw_wk go0 (And.intro rfl (And.intro rfl (And.intro rfl (And.intro rfl (And.intro rfl (And.intro rfl True.intro))))))
  have loop : ∀ (d i : Nat) (s1 : am_S) (n1 : am_N) (a : Int32), i + d = T → eo skM s s1 → en n n1 → MI s1 n1 → fd (gmM V s (s 53)) i d a = ME → aw_W l g mi_X12_goMonth (aw_rm 102 0 0) (aw_Z g (fun r w => ∃ s' n', r = some (.int ME) ∧ w = hp g s' n' ∧ eo skM (upR s 53 (gG (gT FF (s 44 2)) WM ME G)) s' ∧ en n n' ∧ MI s' n') 0 0) 0 0 (hp g s1 n1) 17 [some (.ref (g_ad g 39)), some (.ref (g_ad g 53)), some (.int WM), some (.int a), some (.int (nI i))] [] := by
    intro d
    induction d with
    | zero =>
      intro i s1 n1 a hi e1 f1 m1 hX
      simp only [fd] at hX
      subst hX
      have hT1 : s1 39 26 = nI T := (e1 39 26 rfl).trans hC.1.1
      refine aw_iload rfl rfl ?_
      refine aw_aload_n rfl rfl ?_
      refine pg_39_26 rfl kl_X12_291 ?_
      refine aw_icmp_ge (tgt := 59) rfl (by decide) (fun h23 => ?_) (fun h23 => absurd (by rw [hT1]; exact nI_le (by omega) (by omega)) h23)
      exact aw_wk (tail s1 n1 e1 f1 m1) (And.intro rfl (And.intro rfl (And.intro rfl (And.intro rfl True.intro))))
    | succ d ih =>
      intro i s1 n1 a hi e1 f1 m1 hX
      simp only [fd] at hX
      have hT1 : s1 39 26 = nI T := (e1 39 26 rfl).trans hC.1.1
      have hC1 := hC.eo e1 m1
      have hW : s1 53 = s 53 := eo_cell e1 53 (fun _ => rfl)
      have hr1 : rwb (s1 53) T Q := by rw [hW]; exact hr
      have hh : hnm V s1 (s1 53) i = hnm V s (s 53) i := by (unfold hnm; rw [hbm_m e1, hW, eo_cell e1 46 (fun _ => rfl)])
      refine aw_iload rfl rfl ?_
      refine aw_aload_n rfl rfl ?_
      refine pg_39_26 rfl kl_X12_291 ?_
      refine aw_icmp_ge (tgt := 59) rfl (by decide) (fun h23 => absurd h23 (by rw [hT1]; exact nI_ge (by omega) (by omega))) (fun h23 => ?_)
      refine aw_aload_n rfl rfl ?_
      refine aw_iload rfl rfl ?_
      refine aw_iS rfl cw_X12_338 (c_m_isOpen_53 (j := i) (by omega)) rfl rfl (Nat.le_of_ble_eq_true rfl) (by decide) (by decide) (by decide) (by decide) ?_
      refine aw_if_ne (tgt := 53) rfl (by decide) (fun h32 => ?_) (fun h32 => ?_)
      · refine aw_inc1 rfl rfl (by decide) ?_
        refine aw_goto (tgt := 17) rfl (by decide) ?_
        first
        | exact aw_wk (ih (i + 1) s1 n1 _ (by omega) e1 f1 m1 (Eq.trans (congrArg (fd _ (i + 1) d) (by (unfold gmM; rw [if_pos (by have := of_decide_eq_true (bB_n0.mp h32); rw [hW] at this; exact this)]; done))) hX)) (And.intro rfl (And.intro rfl (And.intro rfl (And.intro rfl (And.intro (congrArg (fun x => some (Value.int x)) (nI_1 i)) True.intro)))))
        | exact aw_wk (ih (i + 1) s2 n2 _ (by omega) (eo_tr e1 e2) (en_tr f1 f2) m2 (Eq.trans (congrArg (fd _ (i + 1) d) (by (unfold gmM; rw [if_neg (by have := of_decide_eq_false (bB_0.mp h32); rw [hW] at this; exact this), if_neg (by rw [← hWM, ← hh]; exact Int32.not_lt.mpr h43)]; done))) hX)) (And.intro rfl (And.intro rfl (And.intro rfl (And.intro rfl (And.intro (congrArg (fun x => some (Value.int x)) (nI_1 i)) True.intro)))))
        | exact aw_wk (ih (i + 1) s2 n2 _ (by omega) (eo_tr e1 e2) (en_tr f1 f2) m2 (Eq.trans (congrArg (fd _ (i + 1) d) (by (unfold gmM; rw [if_neg (by have := of_decide_eq_false (bB_0.mp h32); rw [hW] at this; exact this), if_pos (by rw [← hWM, ← hh]; exact Int32.not_le.mp h43)]; rfl))) hX)) (And.intro rfl (And.intro rfl (And.intro rfl (And.intro rfl (And.intro (congrArg (fun x => some (Value.int x)) (nI_1 i)) True.intro)))))
      · refine aw_iload_n rfl rfl ?_
        refine aw_aload_n rfl rfl ?_
        refine aw_aload_n rfl rfl ?_
        refine aw_iload rfl rfl ?_
        refine aw_rV (q0 := 39) (ci := 12) rfl cw_X12_342 rfl rfl rfl (c_m_holds_53 hC1 hr1 (j := i) (by omega)) rfl rfl (Nat.le_of_ble_eq_true rfl) (by decide) (by decide) (by decide) (by decide) (fun s2 n2 e2 f2 m2 => ?_)
        refine aw_icmp_le (tgt := 53) rfl (by decide) (fun h43 => ?_) (fun h43 => ?_)
        · refine aw_inc1 rfl rfl (by decide) ?_
          refine aw_goto (tgt := 17) rfl (by decide) ?_
          first
          | exact aw_wk (ih (i + 1) s1 n1 _ (by omega) e1 f1 m1 (Eq.trans (congrArg (fd _ (i + 1) d) (by (unfold gmM; rw [if_pos (by have := of_decide_eq_true (bB_n0.mp h32); rw [hW] at this; exact this)]; done))) hX)) (And.intro rfl (And.intro rfl (And.intro rfl (And.intro rfl (And.intro (congrArg (fun x => some (Value.int x)) (nI_1 i)) True.intro)))))
          | exact aw_wk (ih (i + 1) s2 n2 _ (by omega) (eo_tr e1 e2) (en_tr f1 f2) m2 (Eq.trans (congrArg (fd _ (i + 1) d) (by (unfold gmM; rw [if_neg (by have := of_decide_eq_false (bB_0.mp h32); rw [hW] at this; exact this), if_neg (by rw [← hWM, ← hh]; exact Int32.not_lt.mpr h43)]; done))) hX)) (And.intro rfl (And.intro rfl (And.intro rfl (And.intro rfl (And.intro (congrArg (fun x => some (Value.int x)) (nI_1 i)) True.intro)))))
          | exact aw_wk (ih (i + 1) s2 n2 _ (by omega) (eo_tr e1 e2) (en_tr f1 f2) m2 (Eq.trans (congrArg (fd _ (i + 1) d) (by (unfold gmM; rw [if_neg (by have := of_decide_eq_false (bB_0.mp h32); rw [hW] at this; exact this), if_pos (by rw [← hWM, ← hh]; exact Int32.not_le.mp h43)]; rfl))) hX)) (And.intro rfl (And.intro rfl (And.intro rfl (And.intro rfl (And.intro (congrArg (fun x => some (Value.int x)) (nI_1 i)) True.intro)))))
        · refine aw_iload_n rfl rfl ?_
          refine aw_iconst (v := 1) rfl (by decide) ?_
          refine aw_iload rfl rfl ?_
          refine aw_ishl rfl ?_
          refine aw_ior rfl ?_
          refine aw_istore_n rfl (by decide) ?_
          refine aw_inc1 rfl rfl (by decide) ?_
          refine aw_goto (tgt := 17) rfl (by decide) ?_
          first
          | exact aw_wk (ih (i + 1) s1 n1 _ (by omega) e1 f1 m1 (Eq.trans (congrArg (fd _ (i + 1) d) (by (unfold gmM; rw [if_pos (by have := of_decide_eq_true (bB_n0.mp h32); rw [hW] at this; exact this)]; done))) hX)) (And.intro rfl (And.intro rfl (And.intro rfl (And.intro rfl (And.intro (congrArg (fun x => some (Value.int x)) (nI_1 i)) True.intro)))))
          | exact aw_wk (ih (i + 1) s2 n2 _ (by omega) (eo_tr e1 e2) (en_tr f1 f2) m2 (Eq.trans (congrArg (fd _ (i + 1) d) (by (unfold gmM; rw [if_neg (by have := of_decide_eq_false (bB_0.mp h32); rw [hW] at this; exact this), if_neg (by rw [← hWM, ← hh]; exact Int32.not_lt.mpr h43)]; done))) hX)) (And.intro rfl (And.intro rfl (And.intro rfl (And.intro rfl (And.intro (congrArg (fun x => some (Value.int x)) (nI_1 i)) True.intro)))))
          | exact aw_wk (ih (i + 1) s2 n2 _ (by omega) (eo_tr e1 e2) (en_tr f1 f2) m2 (Eq.trans (congrArg (fd _ (i + 1) d) (by (unfold gmM; rw [if_neg (by have := of_decide_eq_false (bB_0.mp h32); rw [hW] at this; exact this), if_pos (by rw [← hWM, ← hh]; exact Int32.not_le.mp h43)]; rfl))) hX)) (And.intro rfl (And.intro rfl (And.intro rfl (And.intro rfl (And.intro (congrArg (fun x => some (Value.int x)) (nI_1 i)) True.intro)))))
  refine aw_R_of mo_X12_goMonth (by decide) (Nat.le_of_ble_eq_true rfl) ?_
  refine aw_aload_n rfl rfl ?_
  refine aw_bipush (v := 32) rfl (by decide) ?_
  refine pl_53 (j := 32) rfl rfl (by decide) ?_
  refine aw_aload_n rfl rfl ?_
  refine aw_bipush (v := 35) rfl (by decide) ?_
  refine pl_53 (j := 35) rfl rfl (by decide) ?_
  refine aw_iS rfl cw_X12_328 (c_m_warmthAt) rfl rfl (Nat.le_of_ble_eq_true rfl) (by decide) (by decide) (by decide) (by decide) ?_
  refine aw_istore_n rfl (by decide) ?_
  refine aw_iconst (v := 0) rfl (by decide) ?_
  refine aw_istore_n rfl (by decide) ?_
  refine aw_iconst (v := 0) rfl (by decide) ?_
  refine aw_istore rfl (by decide) ?_
  rw [← hWM]
  exact aw_wk (loop T 0 s n 0 (by omega) eo_rf en_rf hC.2.2.1 hME.symm) (And.intro rfl (And.intro rfl (And.intro rfl (And.intro rfl (And.intro rfl True.intro)))))
