/-! the reference: the items of a clause of a kingdom -/
theorem TX_R {s : am_S} {n : am_N} {B b E k : Nat} {tx : Nat → Nat} {f : Nat → Int32} (h : TX s n B b E tx) (h1 : Nat.beq 39 k = false) (h2 : Nat.beq 40 k = false) (h3 : Nat.beq 41 k = false) : TX (upR s k f) n B b E tx := by
  refine ⟨h.1, ?_, ?_, h.2.2.2.1, h.2.2.2.2.1, ?_⟩
  · unfold upR; rw [h1]; exact h.2.1
  · unfold upR; rw [h1]; exact h.2.2.1
  · rcases h.2.2.2.2.1 with ⟨rfl, _⟩ | ⟨rfl, _⟩
    · unfold upR; rw [h2]; exact h.2.2.2.2.2
    · unfold upR; rw [h3]; exact h.2.2.2.2.2
theorem pst_C {s : am_S} {k p w i : Nat} {x v : Int32} {f : Nat → Int32} (h : Nat.beq 39 k = false) (h' : Nat.beq k 39 = false) : up (pst (upR s k f) p w x) k i v = pst (upR s k (upd f i v)) p w x := by
  unfold pst
  rw [up_comm h h', up_comm h h', up_comm h h', upR_up]
section AwD2
variable {l : Launch} {g : ag_G} {M : ag_M} {R : Room} {Z : ag_Z} {pc : Nat} {L : List (Option Value)} {st : List Value} {s : am_S} {n : am_N} {ws : va_W}
theorem aw_d2 {N : ag_M} {index d k q0 ci b w : Nat} {rr : Except Nat (Nat × Nat)} {C : vw_C} {fs As rest st0 : List Value}
    (hd : m_at M pc = some (.invokevirtual index, 3)) (hw : aw_cV (m_y M).cls index N k) (hc : aw_cl[ci]? = some C) (hcn : C.1 = (m_y N).cls) (he : ws[q0]? = some (b, .inr (ci, fs)))
    (hM : aw_M l g N d 0 0 (.ref b :: As) ws (PD2 g s n w rr)) (hk : As.length = k) (hst : st0 = As.reverse ++ .ref b :: rest) (hrest : (rest.map fun v => v.category).sum ≤ 8) (hf : d + 1 ≤ R.frames) (hlo : 8 + (m_n N + 11) + 100 * d ≤ R.locals) (h1 : 0 ≤ R.cells) (h2 : 0 ≤ R.slots)
    (kk : ∀ z, rr = .ok z → aw_W l g M R Z 0 0 (hp g (pst s z.1 w (-1)) n) (pc + 3) L (.int (nI z.2) :: rest)) (kn : ∀ f x, rr = .error f → aw_W l g M R Z 0 0 (hp g (pst s f w (nI f)) n) (pc + 3) L (.int x :: rest)) : aw_W l g M R Z 0 0 ws pc L st0 :=
  aw_callV hd hw hc hcn he hM hk hst hrest hf hlo h1 h2 (by
    cases rr with
    | ok z => rintro r y ⟨rfl, rfl⟩; exact kk z rfl
    | error f => rintro r y ⟨x, rfl, rfl⟩; exact kn f x rfl)
end AwD2
def itL (tx : Nat → Nat) (E si : Nat) (ms : Nat → Nat) (row : Nat) : Nat → Nat → Int32 → (Nat → Int32) → Except Nat (Nat × (Nat → Int32))
  | 0, p, _, _ => .error p
  | d + 1, p, met, f => match xsp si (cst tx E p) with
    | none => .ok (skw tx E p, f)
    | some i => if hs met (nI i) = true then .error (skw tx E p) else match nm2 tx E (skw tx E p + 1) (ms i) with
      | .error e => .error e
      | .ok z => itL tx E si ms row d z.1 (met ||| bt i) (upd f (row + i) (nI z.2))
def usF (d : Int32) (row len : Nat) (f : Nat → Int32) : Nat → Int32 := fd (fun k f => upd f (row + k) (usO d (nI k))) 0 len f
theorem fd_snoc {α : Type} {F : Nat → α → α} : ∀ (d i : Nat) (a : α), fd F i (d + 1) a = F (i + d) (fd F i d a)
  | 0, i, a => rfl
  | d + 1, i, a => by
    show fd F (i + 1) (d + 1) (F i a) = F (i + (d + 1)) (fd F (i + 1) d (F i a))
    rw [fd_snoc d (i + 1) (F i a)]
    exact congrArg (fun q => F q _) (by omega)
theorem nm2_b {tx : Nat → Nat} {E p M : Nat} (hp : p ≤ E) : match nm2 tx E p M with
    | .ok z => p < z.1 ∧ z.1 ≤ E ∧ z.2 ≤ M
    | .error f => p ≤ f ∧ f ≤ E := by
  have hk := skw_b (tx := tx) hp
  unfold nm2
  by_cases h1 : dg tx E (skw tx E p) = true
  · have := dg_lt h1
    rw [if_pos h1]
    by_cases h2 : dg tx E (skw tx E p + 1) = true
    · have := dg_lt h2
      rw [if_pos h2]
      by_cases h3 : dg tx E (skw tx E p + 2) = true
      · rw [if_pos h3]; exact ⟨by omega, by omega⟩
      · rw [if_neg h3]
        by_cases h4 : 10 * (tx (skw tx E p) - 48) + (tx (skw tx E p + 1) - 48) ≤ M
        · rw [if_pos h4]; exact ⟨by show p < skw tx E p + 2; omega, by show skw tx E p + 2 ≤ E; omega, h4⟩
        · rw [if_neg h4]; exact ⟨by omega, by omega⟩
    · rw [if_neg h2]
      by_cases h4 : tx (skw tx E p) - 48 ≤ M
      · rw [if_pos h4]; exact ⟨by show p < skw tx E p + 1; omega, by show skw tx E p + 1 ≤ E; omega, h4⟩
      · rw [if_neg h4]; exact ⟨by omega, by omega⟩
  · rw [if_neg h1]; exact ⟨by omega, by omega⟩
def msN (d : Nat) (i : Nat) : Nat := if d = 115 then [99, 40, 9].getD i 9 else if d = 116 then [4, 40, 9, 9, 9].getD i 9 else 9
theorem msN_c : (∀ i, i < 3 → msO 115 (nI i) = nI (msN 115 i)) ∧ (∀ i, i < 5 → msO 116 (nI i) = nI (msN 116 i)) ∧ (∀ i, i < 1 → msO 114 (nI i) = nI (msN 114 i)) ∧ ∀ i, msN 115 i ≤ 99 ∧ msN 116 i ≤ 99 ∧ msN 114 i ≤ 99 := by
  refine ⟨by decide +kernel, by decide +kernel, by decide +kernel, fun i => ?_⟩
  unfold msN
  match i with
  | 0 => decide
  | 1 => decide
  | 2 => decide
  | 3 => decide
  | 4 => decide
  | j + 5 => exact ⟨(by decide : 9 ≤ 99), (by decide : 9 ≤ 99), (by decide : 9 ≤ 99)⟩
theorem xsp_lt {si i : Nat} {c : Int32} (h : xsp si c = some i) : i < xLen.getD si 0 := by
  unfold xsp at h
  have := (fs_some _ _ _ h).1
  omega
def PI (g : ag_G) (s : am_S) (n : am_N) (C w : Nat) : Except Nat (Nat × (Nat → Int32)) → Option Value → va_W → Prop
  | .ok z => fun o y => o = none ∧ y = hp g (pst (upR s C z.2) z.1 w (-1)) n
  | .error e => fun o y => o = none ∧ ∃ f p, y = hp g (pst (upR s C f) p w (nI e)) n
set_option maxRecDepth 4000 in
theorem c_m_readItems_45 {l : Launch} {g : ag_G} {s : am_S} {n : am_N} {B b E p w row : Nat} {tx : Nat → Nat} (hx : aw_hx g) (hT : TX s n B b E tx) (hpE : p ≤ E) (hrow : row + 3 ≤ 3) : aw_M l g mi_X12_readItems 5 0 0 [.ref (g_ad g 39), .int 115, .ref (g_ad g 45), .int (nI row), .ref (g_ad g (100 + 1))] (hp g (pst s p w (-1)) n) (PI g s n 45 w (itL tx E 1 (msN 115) row (E + 1) p 0 (usF 115 row 3 (s 45)))) := by
  have hE := hT.2.2.2.1
  have hTR : ∀ f, TX (upR s 45 f) n B b E tx := fun f => TX_R hT rfl rfl rfl
  have hxl : xLen.getD 1 0 = 3 := rfl
  have loop : ∀ (d p : Nat) (met : Int32) (f : Nat → Int32) (R : Except Nat (Nat × (Nat → Int32))), E - p < d → p ≤ E → itL tx E 1 (msN 115) row d p met f = R → aw_W l g mi_X12_readItems (aw_rm 5 0 0) (aw_Z g (PI g s n 45 w R) 0 0) 0 0 (hp g (pst (upR s 45 f) (skw tx E p) w (-1)) n) 45 [some (.ref (g_ad g 39)), some (.int 115), some (.ref (g_ad g 45)), some (.int (nI row)), some (.ref (g_ad g (100 + 1))), some (.int met), some (.int (on (xsp 1 (cst tx E p))))] [] := by
    intro d
    induction d with
    | zero => intro p met f R h; exact absurd h (Nat.not_lt_zero _)
    | succ d ih =>
      intro p met f R hd hpE hR
      have hk := skw_b (tx := tx) hpE
      simp only [itL] at hR
      cases hi : xsp 1 (cst tx E p) with
      | none =>
        rw [hi] at hR
        subst hR
        refine aw_iload rfl rfl ?_
        refine aw_iconst (v := -1) rfl (by decide) ?_
        refine aw_icmp_eq (tgt := 133) rfl (by decide) (fun h48 => ?_) (fun h48 => absurd (rfl) h48)
        exact aw_vret rfl rfl ⟨rfl, rfl⟩
      | some i =>
        have hil : i < 3 := xsp_lt hi
        have hnx : skw tx E p + 1 ≤ E := by
          have := cst_lt (tx := tx) (E := E) (p := p) (by intro e; rw [e, xsp_m1 1 (by decide)] at hi; cases hi)
          omega
        simp only [hi] at hR
        cases hm : hs met (nI i) with
        | true =>
          rw [if_pos hm] at hR
          subst hR
          refine aw_iload rfl rfl ?_
          refine aw_iconst (v := -1) rfl (by decide) ?_
          refine aw_icmp_eq (tgt := 133) rfl (by decide) (fun h48 => absurd h48 (fun e => absurd e (nI_nm1 (by omega)))) (fun h48 => ?_)
          refine aw_aload_n rfl rfl ?_
          refine pg_39_11 rfl kl_X12_128 ?_
          refine aw_iconst (v := -1) rfl (by decide) ?_
          refine aw_icmp_ne (tgt := 133) rfl (by decide) (fun h56 => absurd (rfl) h56) (fun h56 => ?_)
          refine aw_iload rfl rfl ?_
          refine aw_iload rfl rfl ?_
          refine aw_iS rfl cw_X12_229 (c_m_has) rfl rfl (Nat.le_of_ble_eq_true rfl) (by decide) (by decide) (by decide) (by decide) ?_
          refine aw_if_eq (tgt := 75) rfl (by decide) (fun h66 => absurd h66 (by show ¬ bB (hs met (nI i)) = 0; rw [hm]; decide)) (fun h66 => ?_)
          refine aw_aload_n rfl rfl ?_
          refine aw_iV (q0 := 39) (ci := 12) rfl cw_X12_134 rfl rfl rfl (c_m_fails) rfl rfl (Nat.le_of_ble_eq_true rfl) (by decide) (by decide) (by decide) (by decide) ?_
          refine aw_pop rfl rfl ?_
          exact aw_vret rfl rfl ⟨rfl, _, _, rfl⟩
        | false =>
          rw [if_neg (by rw [hm]; exact Bool.false_ne_true)] at hR
          refine aw_iload rfl rfl ?_
          refine aw_iconst (v := -1) rfl (by decide) ?_
          refine aw_icmp_eq (tgt := 133) rfl (by decide) (fun h48 => absurd h48 (fun e => absurd e (nI_nm1 (by omega)))) (fun h48 => ?_)
          refine aw_aload_n rfl rfl ?_
          refine pg_39_11 rfl kl_X12_128 ?_
          refine aw_iconst (v := -1) rfl (by decide) ?_
          refine aw_icmp_ne (tgt := 133) rfl (by decide) (fun h56 => absurd (rfl) h56) (fun h56 => ?_)
          refine aw_iload rfl rfl ?_
          refine aw_iload rfl rfl ?_
          refine aw_iS rfl cw_X12_229 (c_m_has) rfl rfl (Nat.le_of_ble_eq_true rfl) (by decide) (by decide) (by decide) (by decide) ?_
          refine aw_if_eq (tgt := 75) rfl (by decide) (fun h66 => ?_) (fun h66 => absurd (by show bB (hs met (nI i)) = 0; rw [hm]; rfl) h66)
          refine aw_iload rfl rfl ?_
          refine aw_iconst (v := 1) rfl (by decide) ?_
          refine aw_iload rfl rfl ?_
          refine aw_ishl rfl ?_
          refine aw_ior rfl ?_
          refine aw_istore rfl (by decide) ?_
          refine aw_aload_n rfl rfl ?_
          refine aw_dup rfl rfl ?_
          refine pg_39_10 rfl kl_X12_119 ?_
          refine aw_iconst (v := 1) rfl (by decide) ?_
          refine aw_iadd rfl ?_
          refine pp_39_10 rfl kl_X12_119 ?_
          refine aw_eqs (ws' := hp g (pst (upR s 45 f) (skw tx E p + 1) w (-1)) n) ?_ rfl rfl (congrArg (fun z => hp g z n) pst_in)
          refine aw_aload_n rfl rfl ?_
          refine aw_iload_n rfl rfl ?_
          refine aw_iload rfl rfl ?_
          refine aw_iadd rfl ?_
          refine aw_aload_n rfl rfl ?_
          refine aw_iconst (v := 0) rfl (by decide) ?_
          refine aw_iload_n rfl rfl ?_
          refine aw_iload rfl rfl ?_
          refine aw_iS rfl cw_X12_233 (c_m_mostOf) rfl rfl (Nat.le_of_ble_eq_true rfl) (by decide) (by decide) (by decide) (by decide) ?_
          refine aw_d2 (q0 := 39) (ci := 12) rfl cw_X12_236 rfl rfl rfl (show aw_M l g mi_X12_number 1 0 0 [.ref (g_ad g 39), .int 0, .int (msO 115 (nI i))] (hp g (pst (upR s 45 f) (skw tx E p + 1) w (-1)) n) (PD2 g (upR s 45 f) n w (nm2 tx E (skw tx E p + 1) (msN 115 i))) from by (rw [msN_c.1 i hil]; exact c_m_number (hTR f) hnx (by have := msN_c.2.2.2 i; omega))) rfl rfl (Nat.le_of_ble_eq_true rfl) (by decide) (by decide) (by decide) (by decide) (fun z hz => ?_) (fun fe xe hz => ?_)
          · have hb2 := nm2_b (tx := tx) (M := msN 115 i) hnx
            rw [hz] at hb2 hR
            have hz1 : z.1 ≤ E := hb2.2.1
            have hz2 : skw tx E p + 1 < z.1 := hb2.1
            refine ps_45 rfl (nI_add row i) (by omega) ?_
            refine aw_eqs (ws' := hp g (pst (upR s 45 (upd f (row + i) (nI z.2))) z.1 w (-1)) n) ?_ rfl rfl (congrArg (fun z => hp g z n) (pst_C rfl rfl))
            refine aw_aload_n rfl rfl ?_
            refine pg_39_11 rfl kl_X12_128 ?_
            refine aw_iconst (v := -1) rfl (by decide) ?_
            refine aw_icmp_ne (tgt := 45) rfl (by decide) (fun h116 => absurd (rfl) h116) (fun h116 => ?_)
            refine aw_aload rfl rfl ?_
            refine aw_aload_n rfl rfl ?_
            refine aw_iV (q0 := 39) (ci := 12) rfl cw_X12_138 rfl rfl rfl (c_m_lookC (hTR _) hz1) rfl rfl (Nat.le_of_ble_eq_true rfl) (by decide) (by decide) (by decide) (by decide) ?_
            refine aw_iS rfl cw_X12_225 (c_m_spotOf (i := 1) hx (by decide)) rfl rfl (Nat.le_of_ble_eq_true rfl) (by decide) (by decide) (by decide) (by decide) ?_
            refine aw_istore rfl (by decide) ?_
            refine aw_goto (tgt := 45) rfl (by decide) ?_
            exact aw_wk (ih z.1 (met ||| bt i) _ R (by omega) hz1 hR) (And.intro rfl (And.intro rfl (And.intro rfl (And.intro rfl (And.intro rfl (And.intro rfl (And.intro rfl True.intro)))))))
          · have hb2 := nm2_b (tx := tx) (M := msN 115 i) hnx
            rw [hz] at hb2 hR
            have hfe : fe ≤ E := hb2.2
            have hf24 : ¬ nI fe = (-1 : Int32) := nI_nm1 (by omega)
            subst hR
            refine ps_45 rfl (nI_add row i) (by omega) ?_
            refine aw_eqs (ws' := hp g (pst (upR s 45 (upd f (row + i) xe)) fe w (nI fe)) n) ?_ rfl rfl (congrArg (fun z => hp g z n) (pst_C rfl rfl))
            refine aw_aload_n rfl rfl ?_
            refine pg_39_11 rfl kl_X12_128 ?_
            refine aw_iconst (v := -1) rfl (by decide) ?_
            refine aw_icmp_ne (tgt := 45) rfl (by decide) (fun h116 => ?_) (fun h116 => absurd h116 (hf24))
            refine aw_iload rfl rfl ?_
            refine aw_iconst (v := -1) rfl (by decide) ?_
            refine aw_icmp_eq (tgt := 133) rfl (by decide) (fun h48 => absurd h48 (fun e => absurd e (nI_nm1 (by omega)))) (fun h48 => ?_)
            refine aw_aload_n rfl rfl ?_
            refine pg_39_11 rfl kl_X12_128 ?_
            refine aw_iconst (v := -1) rfl (by decide) ?_
            refine aw_icmp_ne (tgt := 133) rfl (by decide) (fun h56 => ?_) (fun h56 => absurd h56 (hf24))
            exact aw_vret rfl rfl ⟨rfl, _, _, rfl⟩
  have loop1 : ∀ (d q : Nat), q + d = 3 → aw_W l g mi_X12_readItems (aw_rm 5 0 0) (aw_Z g (PI g s n 45 w (itL tx E 1 (msN 115) row (E + 1) p 0 (usF 115 row 3 (s 45)))) 0 0) 0 0 (hp g (pst (upR s 45 (usF 115 row q (s 45))) p w (-1)) n) 3 [some (.ref (g_ad g 39)), some (.int 115), some (.ref (g_ad g 45)), some (.int (nI row)), some (.ref (g_ad g (100 + 1))), some (.int (nI q)), none] [] := by
    intro d
    induction d with
    | zero =>
      intro q hq
      obtain rfl : q = 3 := by omega
      refine aw_iload rfl rfl ?_
      refine aw_aload rfl rfl ?_
      refine aw_iX rfl cw_X12_99 (xs_recv hx (i := 1) (by decide)) (c_length (i := 1) hx (by decide)) rfl rfl (Nat.le_of_ble_eq_true rfl) (by decide) (by decide) (by decide) (by decide) ?_
      refine aw_icmp_ge (tgt := 31) rfl (by decide) (fun h10 => ?_) (fun h10 => absurd (by decide) h10)
      refine aw_iconst (v := 0) rfl (by decide) ?_
      refine aw_istore rfl (by decide) ?_
      refine aw_aload rfl rfl ?_
      refine aw_aload_n rfl rfl ?_
      refine aw_iV (q0 := 39) (ci := 12) rfl cw_X12_138 rfl rfl rfl (c_m_lookC (hTR _) hpE) rfl rfl (Nat.le_of_ble_eq_true rfl) (by decide) (by decide) (by decide) (by decide) ?_
      refine aw_iS rfl cw_X12_225 (c_m_spotOf (i := 1) hx (by decide)) rfl rfl (Nat.le_of_ble_eq_true rfl) (by decide) (by decide) (by decide) (by decide) ?_
      refine aw_istore rfl (by decide) ?_
      exact aw_wk (loop (E + 1) p 0 _ _ (by omega) hpE rfl) (And.intro rfl (And.intro rfl (And.intro rfl (And.intro rfl (And.intro rfl (And.intro rfl (And.intro rfl True.intro)))))))
    | succ d ih =>
      intro q hq
      refine aw_iload rfl rfl ?_
      refine aw_aload rfl rfl ?_
      refine aw_iX rfl cw_X12_99 (xs_recv hx (i := 1) (by decide)) (c_length (i := 1) hx (by decide)) rfl rfl (Nat.le_of_ble_eq_true rfl) (by decide) (by decide) (by decide) (by decide) ?_
      refine aw_icmp_ge (tgt := 31) rfl (by decide) (fun h10 => absurd h10 (nI_ge (b := 3) (by omega) (by decide))) (fun h10 => ?_)
      refine aw_aload_n rfl rfl ?_
      refine aw_iload_n rfl rfl ?_
      refine aw_iload rfl rfl ?_
      refine aw_iadd rfl ?_
      refine aw_iload_n rfl rfl ?_
      refine aw_iload rfl rfl ?_
      refine aw_iS rfl cw_X12_221 (c_m_usual) rfl rfl (Nat.le_of_ble_eq_true rfl) (by decide) (by decide) (by decide) (by decide) ?_
      refine ps_45 rfl (nI_add row q) (by omega) ?_
      refine aw_inc1 rfl rfl (by decide) ?_
      refine aw_goto (tgt := 3) rfl (by decide) ?_
      refine aw_wk (aw_eqs (ih (q + 1) (by omega)) rfl rfl (congrArg (fun z => hp g z n) ?_)) (And.intro rfl (And.intro rfl (And.intro rfl (And.intro rfl (And.intro rfl (And.intro (congrArg (fun x => some (Value.int x)) (nI_1 q)) True.intro))))))
      rw [pst_C rfl rfl, show usF 115 row (q + 1) (s 45) = upd (usF 115 row q (s 45)) (row + q) (usO 115 (nI q)) from by (unfold usF; rw [fd_snoc, Nat.zero_add])]
  have go0 := loop1 3 0 (by decide)
  rw [show usF 115 row 0 (s 45) = s 45 from rfl, upR_rf] at go0
  refine aw_M_of mo_X12_readItems (by decide) (Nat.le_of_ble_eq_true rfl) ?_
  refine aw_iconst (v := 0) rfl (by decide) ?_
  refine aw_istore rfl (by decide) ?_
  exact aw_wk go0 (And.intro rfl (And.intro rfl (And.intro rfl (And.intro rfl (And.intro rfl (And.intro rfl True.intro))))))
set_option maxRecDepth 4000 in
theorem c_m_readItems_47 {l : Launch} {g : ag_G} {s : am_S} {n : am_N} {B b E p w row : Nat} {tx : Nat → Nat} (hx : aw_hx g) (hT : TX s n B b E tx) (hpE : p ≤ E) (hrow : row + 5 ≤ 35) : aw_M l g mi_X12_readItems 5 0 0 [.ref (g_ad g 39), .int 116, .ref (g_ad g 47), .int (nI row), .ref (g_ad g (100 + 2))] (hp g (pst s p w (-1)) n) (PI g s n 47 w (itL tx E 2 (msN 116) row (E + 1) p 0 (usF 116 row 5 (s 47)))) := by
  have hE := hT.2.2.2.1
  have hTR : ∀ f, TX (upR s 47 f) n B b E tx := fun f => TX_R hT rfl rfl rfl
  have hxl : xLen.getD 2 0 = 5 := rfl
  have loop : ∀ (d p : Nat) (met : Int32) (f : Nat → Int32) (R : Except Nat (Nat × (Nat → Int32))), E - p < d → p ≤ E → itL tx E 2 (msN 116) row d p met f = R → aw_W l g mi_X12_readItems (aw_rm 5 0 0) (aw_Z g (PI g s n 47 w R) 0 0) 0 0 (hp g (pst (upR s 47 f) (skw tx E p) w (-1)) n) 45 [some (.ref (g_ad g 39)), some (.int 116), some (.ref (g_ad g 47)), some (.int (nI row)), some (.ref (g_ad g (100 + 2))), some (.int met), some (.int (on (xsp 2 (cst tx E p))))] [] := by
    intro d
    induction d with
    | zero => intro p met f R h; exact absurd h (Nat.not_lt_zero _)
    | succ d ih =>
      intro p met f R hd hpE hR
      have hk := skw_b (tx := tx) hpE
      simp only [itL] at hR
      cases hi : xsp 2 (cst tx E p) with
      | none =>
        rw [hi] at hR
        subst hR
        refine aw_iload rfl rfl ?_
        refine aw_iconst (v := -1) rfl (by decide) ?_
        refine aw_icmp_eq (tgt := 133) rfl (by decide) (fun h48 => ?_) (fun h48 => absurd (rfl) h48)
        exact aw_vret rfl rfl ⟨rfl, rfl⟩
      | some i =>
        have hil : i < 5 := xsp_lt hi
        have hnx : skw tx E p + 1 ≤ E := by
          have := cst_lt (tx := tx) (E := E) (p := p) (by intro e; rw [e, xsp_m1 2 (by decide)] at hi; cases hi)
          omega
        simp only [hi] at hR
        cases hm : hs met (nI i) with
        | true =>
          rw [if_pos hm] at hR
          subst hR
          refine aw_iload rfl rfl ?_
          refine aw_iconst (v := -1) rfl (by decide) ?_
          refine aw_icmp_eq (tgt := 133) rfl (by decide) (fun h48 => absurd h48 (fun e => absurd e (nI_nm1 (by omega)))) (fun h48 => ?_)
          refine aw_aload_n rfl rfl ?_
          refine pg_39_11 rfl kl_X12_128 ?_
          refine aw_iconst (v := -1) rfl (by decide) ?_
          refine aw_icmp_ne (tgt := 133) rfl (by decide) (fun h56 => absurd (rfl) h56) (fun h56 => ?_)
          refine aw_iload rfl rfl ?_
          refine aw_iload rfl rfl ?_
          refine aw_iS rfl cw_X12_229 (c_m_has) rfl rfl (Nat.le_of_ble_eq_true rfl) (by decide) (by decide) (by decide) (by decide) ?_
          refine aw_if_eq (tgt := 75) rfl (by decide) (fun h66 => absurd h66 (by show ¬ bB (hs met (nI i)) = 0; rw [hm]; decide)) (fun h66 => ?_)
          refine aw_aload_n rfl rfl ?_
          refine aw_iV (q0 := 39) (ci := 12) rfl cw_X12_134 rfl rfl rfl (c_m_fails) rfl rfl (Nat.le_of_ble_eq_true rfl) (by decide) (by decide) (by decide) (by decide) ?_
          refine aw_pop rfl rfl ?_
          exact aw_vret rfl rfl ⟨rfl, _, _, rfl⟩
        | false =>
          rw [if_neg (by rw [hm]; exact Bool.false_ne_true)] at hR
          refine aw_iload rfl rfl ?_
          refine aw_iconst (v := -1) rfl (by decide) ?_
          refine aw_icmp_eq (tgt := 133) rfl (by decide) (fun h48 => absurd h48 (fun e => absurd e (nI_nm1 (by omega)))) (fun h48 => ?_)
          refine aw_aload_n rfl rfl ?_
          refine pg_39_11 rfl kl_X12_128 ?_
          refine aw_iconst (v := -1) rfl (by decide) ?_
          refine aw_icmp_ne (tgt := 133) rfl (by decide) (fun h56 => absurd (rfl) h56) (fun h56 => ?_)
          refine aw_iload rfl rfl ?_
          refine aw_iload rfl rfl ?_
          refine aw_iS rfl cw_X12_229 (c_m_has) rfl rfl (Nat.le_of_ble_eq_true rfl) (by decide) (by decide) (by decide) (by decide) ?_
          refine aw_if_eq (tgt := 75) rfl (by decide) (fun h66 => ?_) (fun h66 => absurd (by show bB (hs met (nI i)) = 0; rw [hm]; rfl) h66)
          refine aw_iload rfl rfl ?_
          refine aw_iconst (v := 1) rfl (by decide) ?_
          refine aw_iload rfl rfl ?_
          refine aw_ishl rfl ?_
          refine aw_ior rfl ?_
          refine aw_istore rfl (by decide) ?_
          refine aw_aload_n rfl rfl ?_
          refine aw_dup rfl rfl ?_
          refine pg_39_10 rfl kl_X12_119 ?_
          refine aw_iconst (v := 1) rfl (by decide) ?_
          refine aw_iadd rfl ?_
          refine pp_39_10 rfl kl_X12_119 ?_
          refine aw_eqs (ws' := hp g (pst (upR s 47 f) (skw tx E p + 1) w (-1)) n) ?_ rfl rfl (congrArg (fun z => hp g z n) pst_in)
          refine aw_aload_n rfl rfl ?_
          refine aw_iload_n rfl rfl ?_
          refine aw_iload rfl rfl ?_
          refine aw_iadd rfl ?_
          refine aw_aload_n rfl rfl ?_
          refine aw_iconst (v := 0) rfl (by decide) ?_
          refine aw_iload_n rfl rfl ?_
          refine aw_iload rfl rfl ?_
          refine aw_iS rfl cw_X12_233 (c_m_mostOf) rfl rfl (Nat.le_of_ble_eq_true rfl) (by decide) (by decide) (by decide) (by decide) ?_
          refine aw_d2 (q0 := 39) (ci := 12) rfl cw_X12_236 rfl rfl rfl (show aw_M l g mi_X12_number 1 0 0 [.ref (g_ad g 39), .int 0, .int (msO 116 (nI i))] (hp g (pst (upR s 47 f) (skw tx E p + 1) w (-1)) n) (PD2 g (upR s 47 f) n w (nm2 tx E (skw tx E p + 1) (msN 116 i))) from by (rw [msN_c.2.1 i hil]; exact c_m_number (hTR f) hnx (by have := msN_c.2.2.2 i; omega))) rfl rfl (Nat.le_of_ble_eq_true rfl) (by decide) (by decide) (by decide) (by decide) (fun z hz => ?_) (fun fe xe hz => ?_)
          · have hb2 := nm2_b (tx := tx) (M := msN 116 i) hnx
            rw [hz] at hb2 hR
            have hz1 : z.1 ≤ E := hb2.2.1
            have hz2 : skw tx E p + 1 < z.1 := hb2.1
            refine ps_47 rfl (nI_add row i) (by omega) ?_
            refine aw_eqs (ws' := hp g (pst (upR s 47 (upd f (row + i) (nI z.2))) z.1 w (-1)) n) ?_ rfl rfl (congrArg (fun z => hp g z n) (pst_C rfl rfl))
            refine aw_aload_n rfl rfl ?_
            refine pg_39_11 rfl kl_X12_128 ?_
            refine aw_iconst (v := -1) rfl (by decide) ?_
            refine aw_icmp_ne (tgt := 45) rfl (by decide) (fun h116 => absurd (rfl) h116) (fun h116 => ?_)
            refine aw_aload rfl rfl ?_
            refine aw_aload_n rfl rfl ?_
            refine aw_iV (q0 := 39) (ci := 12) rfl cw_X12_138 rfl rfl rfl (c_m_lookC (hTR _) hz1) rfl rfl (Nat.le_of_ble_eq_true rfl) (by decide) (by decide) (by decide) (by decide) ?_
            refine aw_iS rfl cw_X12_225 (c_m_spotOf (i := 2) hx (by decide)) rfl rfl (Nat.le_of_ble_eq_true rfl) (by decide) (by decide) (by decide) (by decide) ?_
            refine aw_istore rfl (by decide) ?_
            refine aw_goto (tgt := 45) rfl (by decide) ?_
            exact aw_wk (ih z.1 (met ||| bt i) _ R (by omega) hz1 hR) (And.intro rfl (And.intro rfl (And.intro rfl (And.intro rfl (And.intro rfl (And.intro rfl (And.intro rfl True.intro)))))))
          · have hb2 := nm2_b (tx := tx) (M := msN 116 i) hnx
            rw [hz] at hb2 hR
            have hfe : fe ≤ E := hb2.2
            have hf24 : ¬ nI fe = (-1 : Int32) := nI_nm1 (by omega)
            subst hR
            refine ps_47 rfl (nI_add row i) (by omega) ?_
            refine aw_eqs (ws' := hp g (pst (upR s 47 (upd f (row + i) xe)) fe w (nI fe)) n) ?_ rfl rfl (congrArg (fun z => hp g z n) (pst_C rfl rfl))
            refine aw_aload_n rfl rfl ?_
            refine pg_39_11 rfl kl_X12_128 ?_
            refine aw_iconst (v := -1) rfl (by decide) ?_
            refine aw_icmp_ne (tgt := 45) rfl (by decide) (fun h116 => ?_) (fun h116 => absurd h116 (hf24))
            refine aw_iload rfl rfl ?_
            refine aw_iconst (v := -1) rfl (by decide) ?_
            refine aw_icmp_eq (tgt := 133) rfl (by decide) (fun h48 => absurd h48 (fun e => absurd e (nI_nm1 (by omega)))) (fun h48 => ?_)
            refine aw_aload_n rfl rfl ?_
            refine pg_39_11 rfl kl_X12_128 ?_
            refine aw_iconst (v := -1) rfl (by decide) ?_
            refine aw_icmp_ne (tgt := 133) rfl (by decide) (fun h56 => ?_) (fun h56 => absurd h56 (hf24))
            exact aw_vret rfl rfl ⟨rfl, _, _, rfl⟩
  have loop1 : ∀ (d q : Nat), q + d = 5 → aw_W l g mi_X12_readItems (aw_rm 5 0 0) (aw_Z g (PI g s n 47 w (itL tx E 2 (msN 116) row (E + 1) p 0 (usF 116 row 5 (s 47)))) 0 0) 0 0 (hp g (pst (upR s 47 (usF 116 row q (s 47))) p w (-1)) n) 3 [some (.ref (g_ad g 39)), some (.int 116), some (.ref (g_ad g 47)), some (.int (nI row)), some (.ref (g_ad g (100 + 2))), some (.int (nI q)), none] [] := by
    intro d
    induction d with
    | zero =>
      intro q hq
      obtain rfl : q = 5 := by omega
      refine aw_iload rfl rfl ?_
      refine aw_aload rfl rfl ?_
      refine aw_iX rfl cw_X12_99 (xs_recv hx (i := 2) (by decide)) (c_length (i := 2) hx (by decide)) rfl rfl (Nat.le_of_ble_eq_true rfl) (by decide) (by decide) (by decide) (by decide) ?_
      refine aw_icmp_ge (tgt := 31) rfl (by decide) (fun h10 => ?_) (fun h10 => absurd (by decide) h10)
      refine aw_iconst (v := 0) rfl (by decide) ?_
      refine aw_istore rfl (by decide) ?_
      refine aw_aload rfl rfl ?_
      refine aw_aload_n rfl rfl ?_
      refine aw_iV (q0 := 39) (ci := 12) rfl cw_X12_138 rfl rfl rfl (c_m_lookC (hTR _) hpE) rfl rfl (Nat.le_of_ble_eq_true rfl) (by decide) (by decide) (by decide) (by decide) ?_
      refine aw_iS rfl cw_X12_225 (c_m_spotOf (i := 2) hx (by decide)) rfl rfl (Nat.le_of_ble_eq_true rfl) (by decide) (by decide) (by decide) (by decide) ?_
      refine aw_istore rfl (by decide) ?_
      exact aw_wk (loop (E + 1) p 0 _ _ (by omega) hpE rfl) (And.intro rfl (And.intro rfl (And.intro rfl (And.intro rfl (And.intro rfl (And.intro rfl (And.intro rfl True.intro)))))))
    | succ d ih =>
      intro q hq
      refine aw_iload rfl rfl ?_
      refine aw_aload rfl rfl ?_
      refine aw_iX rfl cw_X12_99 (xs_recv hx (i := 2) (by decide)) (c_length (i := 2) hx (by decide)) rfl rfl (Nat.le_of_ble_eq_true rfl) (by decide) (by decide) (by decide) (by decide) ?_
      refine aw_icmp_ge (tgt := 31) rfl (by decide) (fun h10 => absurd h10 (nI_ge (b := 5) (by omega) (by decide))) (fun h10 => ?_)
      refine aw_aload_n rfl rfl ?_
      refine aw_iload_n rfl rfl ?_
      refine aw_iload rfl rfl ?_
      refine aw_iadd rfl ?_
      refine aw_iload_n rfl rfl ?_
      refine aw_iload rfl rfl ?_
      refine aw_iS rfl cw_X12_221 (c_m_usual) rfl rfl (Nat.le_of_ble_eq_true rfl) (by decide) (by decide) (by decide) (by decide) ?_
      refine ps_47 rfl (nI_add row q) (by omega) ?_
      refine aw_inc1 rfl rfl (by decide) ?_
      refine aw_goto (tgt := 3) rfl (by decide) ?_
      refine aw_wk (aw_eqs (ih (q + 1) (by omega)) rfl rfl (congrArg (fun z => hp g z n) ?_)) (And.intro rfl (And.intro rfl (And.intro rfl (And.intro rfl (And.intro rfl (And.intro (congrArg (fun x => some (Value.int x)) (nI_1 q)) True.intro))))))
      rw [pst_C rfl rfl, show usF 116 row (q + 1) (s 47) = upd (usF 116 row q (s 47)) (row + q) (usO 116 (nI q)) from by (unfold usF; rw [fd_snoc, Nat.zero_add])]
  have go0 := loop1 5 0 (by decide)
  rw [show usF 116 row 0 (s 47) = s 47 from rfl, upR_rf] at go0
  refine aw_M_of mo_X12_readItems (by decide) (Nat.le_of_ble_eq_true rfl) ?_
  refine aw_iconst (v := 0) rfl (by decide) ?_
  refine aw_istore rfl (by decide) ?_
  exact aw_wk go0 (And.intro rfl (And.intro rfl (And.intro rfl (And.intro rfl (And.intro rfl (And.intro rfl True.intro))))))
set_option maxRecDepth 4000 in
theorem c_m_readItems_49 {l : Launch} {g : ag_G} {s : am_S} {n : am_N} {B b E p w row : Nat} {tx : Nat → Nat} (hx : aw_hx g) (hT : TX s n B b E tx) (hpE : p ≤ E) (hrow : row + 1 ≤ 5) : aw_M l g mi_X12_readItems 5 0 0 [.ref (g_ad g 39), .int 114, .ref (g_ad g 49), .int (nI row), .ref (g_ad g (100 + 3))] (hp g (pst s p w (-1)) n) (PI g s n 49 w (itL tx E 3 (msN 114) row (E + 1) p 0 (usF 114 row 1 (s 49)))) := by
  have hE := hT.2.2.2.1
  have hTR : ∀ f, TX (upR s 49 f) n B b E tx := fun f => TX_R hT rfl rfl rfl
  have hxl : xLen.getD 3 0 = 1 := rfl
  have loop : ∀ (d p : Nat) (met : Int32) (f : Nat → Int32) (R : Except Nat (Nat × (Nat → Int32))), E - p < d → p ≤ E → itL tx E 3 (msN 114) row d p met f = R → aw_W l g mi_X12_readItems (aw_rm 5 0 0) (aw_Z g (PI g s n 49 w R) 0 0) 0 0 (hp g (pst (upR s 49 f) (skw tx E p) w (-1)) n) 45 [some (.ref (g_ad g 39)), some (.int 114), some (.ref (g_ad g 49)), some (.int (nI row)), some (.ref (g_ad g (100 + 3))), some (.int met), some (.int (on (xsp 3 (cst tx E p))))] [] := by
    intro d
    induction d with
    | zero => intro p met f R h; exact absurd h (Nat.not_lt_zero _)
    | succ d ih =>
      intro p met f R hd hpE hR
      have hk := skw_b (tx := tx) hpE
      simp only [itL] at hR
      cases hi : xsp 3 (cst tx E p) with
      | none =>
        rw [hi] at hR
        subst hR
        refine aw_iload rfl rfl ?_
        refine aw_iconst (v := -1) rfl (by decide) ?_
        refine aw_icmp_eq (tgt := 133) rfl (by decide) (fun h48 => ?_) (fun h48 => absurd (rfl) h48)
        exact aw_vret rfl rfl ⟨rfl, rfl⟩
      | some i =>
        have hil : i < 1 := xsp_lt hi
        have hnx : skw tx E p + 1 ≤ E := by
          have := cst_lt (tx := tx) (E := E) (p := p) (by intro e; rw [e, xsp_m1 3 (by decide)] at hi; cases hi)
          omega
        simp only [hi] at hR
        cases hm : hs met (nI i) with
        | true =>
          rw [if_pos hm] at hR
          subst hR
          refine aw_iload rfl rfl ?_
          refine aw_iconst (v := -1) rfl (by decide) ?_
          refine aw_icmp_eq (tgt := 133) rfl (by decide) (fun h48 => absurd h48 (fun e => absurd e (nI_nm1 (by omega)))) (fun h48 => ?_)
          refine aw_aload_n rfl rfl ?_
          refine pg_39_11 rfl kl_X12_128 ?_
          refine aw_iconst (v := -1) rfl (by decide) ?_
          refine aw_icmp_ne (tgt := 133) rfl (by decide) (fun h56 => absurd (rfl) h56) (fun h56 => ?_)
          refine aw_iload rfl rfl ?_
          refine aw_iload rfl rfl ?_
          refine aw_iS rfl cw_X12_229 (c_m_has) rfl rfl (Nat.le_of_ble_eq_true rfl) (by decide) (by decide) (by decide) (by decide) ?_
          refine aw_if_eq (tgt := 75) rfl (by decide) (fun h66 => absurd h66 (by show ¬ bB (hs met (nI i)) = 0; rw [hm]; decide)) (fun h66 => ?_)
          refine aw_aload_n rfl rfl ?_
          refine aw_iV (q0 := 39) (ci := 12) rfl cw_X12_134 rfl rfl rfl (c_m_fails) rfl rfl (Nat.le_of_ble_eq_true rfl) (by decide) (by decide) (by decide) (by decide) ?_
          refine aw_pop rfl rfl ?_
          exact aw_vret rfl rfl ⟨rfl, _, _, rfl⟩
        | false =>
          rw [if_neg (by rw [hm]; exact Bool.false_ne_true)] at hR
          refine aw_iload rfl rfl ?_
          refine aw_iconst (v := -1) rfl (by decide) ?_
          refine aw_icmp_eq (tgt := 133) rfl (by decide) (fun h48 => absurd h48 (fun e => absurd e (nI_nm1 (by omega)))) (fun h48 => ?_)
          refine aw_aload_n rfl rfl ?_
          refine pg_39_11 rfl kl_X12_128 ?_
          refine aw_iconst (v := -1) rfl (by decide) ?_
          refine aw_icmp_ne (tgt := 133) rfl (by decide) (fun h56 => absurd (rfl) h56) (fun h56 => ?_)
          refine aw_iload rfl rfl ?_
          refine aw_iload rfl rfl ?_
          refine aw_iS rfl cw_X12_229 (c_m_has) rfl rfl (Nat.le_of_ble_eq_true rfl) (by decide) (by decide) (by decide) (by decide) ?_
          refine aw_if_eq (tgt := 75) rfl (by decide) (fun h66 => ?_) (fun h66 => absurd (by show bB (hs met (nI i)) = 0; rw [hm]; rfl) h66)
          refine aw_iload rfl rfl ?_
          refine aw_iconst (v := 1) rfl (by decide) ?_
          refine aw_iload rfl rfl ?_
          refine aw_ishl rfl ?_
          refine aw_ior rfl ?_
          refine aw_istore rfl (by decide) ?_
          refine aw_aload_n rfl rfl ?_
          refine aw_dup rfl rfl ?_
          refine pg_39_10 rfl kl_X12_119 ?_
          refine aw_iconst (v := 1) rfl (by decide) ?_
          refine aw_iadd rfl ?_
          refine pp_39_10 rfl kl_X12_119 ?_
          refine aw_eqs (ws' := hp g (pst (upR s 49 f) (skw tx E p + 1) w (-1)) n) ?_ rfl rfl (congrArg (fun z => hp g z n) pst_in)
          refine aw_aload_n rfl rfl ?_
          refine aw_iload_n rfl rfl ?_
          refine aw_iload rfl rfl ?_
          refine aw_iadd rfl ?_
          refine aw_aload_n rfl rfl ?_
          refine aw_iconst (v := 0) rfl (by decide) ?_
          refine aw_iload_n rfl rfl ?_
          refine aw_iload rfl rfl ?_
          refine aw_iS rfl cw_X12_233 (c_m_mostOf) rfl rfl (Nat.le_of_ble_eq_true rfl) (by decide) (by decide) (by decide) (by decide) ?_
          refine aw_d2 (q0 := 39) (ci := 12) rfl cw_X12_236 rfl rfl rfl (show aw_M l g mi_X12_number 1 0 0 [.ref (g_ad g 39), .int 0, .int (msO 114 (nI i))] (hp g (pst (upR s 49 f) (skw tx E p + 1) w (-1)) n) (PD2 g (upR s 49 f) n w (nm2 tx E (skw tx E p + 1) (msN 114 i))) from by (rw [msN_c.2.2.1 i hil]; exact c_m_number (hTR f) hnx (by have := msN_c.2.2.2 i; omega))) rfl rfl (Nat.le_of_ble_eq_true rfl) (by decide) (by decide) (by decide) (by decide) (fun z hz => ?_) (fun fe xe hz => ?_)
          · have hb2 := nm2_b (tx := tx) (M := msN 114 i) hnx
            rw [hz] at hb2 hR
            have hz1 : z.1 ≤ E := hb2.2.1
            have hz2 : skw tx E p + 1 < z.1 := hb2.1
            refine ps_49 rfl (nI_add row i) (by omega) ?_
            refine aw_eqs (ws' := hp g (pst (upR s 49 (upd f (row + i) (nI z.2))) z.1 w (-1)) n) ?_ rfl rfl (congrArg (fun z => hp g z n) (pst_C rfl rfl))
            refine aw_aload_n rfl rfl ?_
            refine pg_39_11 rfl kl_X12_128 ?_
            refine aw_iconst (v := -1) rfl (by decide) ?_
            refine aw_icmp_ne (tgt := 45) rfl (by decide) (fun h116 => absurd (rfl) h116) (fun h116 => ?_)
            refine aw_aload rfl rfl ?_
            refine aw_aload_n rfl rfl ?_
            refine aw_iV (q0 := 39) (ci := 12) rfl cw_X12_138 rfl rfl rfl (c_m_lookC (hTR _) hz1) rfl rfl (Nat.le_of_ble_eq_true rfl) (by decide) (by decide) (by decide) (by decide) ?_
            refine aw_iS rfl cw_X12_225 (c_m_spotOf (i := 3) hx (by decide)) rfl rfl (Nat.le_of_ble_eq_true rfl) (by decide) (by decide) (by decide) (by decide) ?_
            refine aw_istore rfl (by decide) ?_
            refine aw_goto (tgt := 45) rfl (by decide) ?_
            exact aw_wk (ih z.1 (met ||| bt i) _ R (by omega) hz1 hR) (And.intro rfl (And.intro rfl (And.intro rfl (And.intro rfl (And.intro rfl (And.intro rfl (And.intro rfl True.intro)))))))
          · have hb2 := nm2_b (tx := tx) (M := msN 114 i) hnx
            rw [hz] at hb2 hR
            have hfe : fe ≤ E := hb2.2
            have hf24 : ¬ nI fe = (-1 : Int32) := nI_nm1 (by omega)
            subst hR
            refine ps_49 rfl (nI_add row i) (by omega) ?_
            refine aw_eqs (ws' := hp g (pst (upR s 49 (upd f (row + i) xe)) fe w (nI fe)) n) ?_ rfl rfl (congrArg (fun z => hp g z n) (pst_C rfl rfl))
            refine aw_aload_n rfl rfl ?_
            refine pg_39_11 rfl kl_X12_128 ?_
            refine aw_iconst (v := -1) rfl (by decide) ?_
            refine aw_icmp_ne (tgt := 45) rfl (by decide) (fun h116 => ?_) (fun h116 => absurd h116 (hf24))
            refine aw_iload rfl rfl ?_
            refine aw_iconst (v := -1) rfl (by decide) ?_
            refine aw_icmp_eq (tgt := 133) rfl (by decide) (fun h48 => absurd h48 (fun e => absurd e (nI_nm1 (by omega)))) (fun h48 => ?_)
            refine aw_aload_n rfl rfl ?_
            refine pg_39_11 rfl kl_X12_128 ?_
            refine aw_iconst (v := -1) rfl (by decide) ?_
            refine aw_icmp_ne (tgt := 133) rfl (by decide) (fun h56 => ?_) (fun h56 => absurd h56 (hf24))
            exact aw_vret rfl rfl ⟨rfl, _, _, rfl⟩
  have loop1 : ∀ (d q : Nat), q + d = 1 → aw_W l g mi_X12_readItems (aw_rm 5 0 0) (aw_Z g (PI g s n 49 w (itL tx E 3 (msN 114) row (E + 1) p 0 (usF 114 row 1 (s 49)))) 0 0) 0 0 (hp g (pst (upR s 49 (usF 114 row q (s 49))) p w (-1)) n) 3 [some (.ref (g_ad g 39)), some (.int 114), some (.ref (g_ad g 49)), some (.int (nI row)), some (.ref (g_ad g (100 + 3))), some (.int (nI q)), none] [] := by
    intro d
    induction d with
    | zero =>
      intro q hq
      obtain rfl : q = 1 := by omega
      refine aw_iload rfl rfl ?_
      refine aw_aload rfl rfl ?_
      refine aw_iX rfl cw_X12_99 (xs_recv hx (i := 3) (by decide)) (c_length (i := 3) hx (by decide)) rfl rfl (Nat.le_of_ble_eq_true rfl) (by decide) (by decide) (by decide) (by decide) ?_
      refine aw_icmp_ge (tgt := 31) rfl (by decide) (fun h10 => ?_) (fun h10 => absurd (by decide) h10)
      refine aw_iconst (v := 0) rfl (by decide) ?_
      refine aw_istore rfl (by decide) ?_
      refine aw_aload rfl rfl ?_
      refine aw_aload_n rfl rfl ?_
      refine aw_iV (q0 := 39) (ci := 12) rfl cw_X12_138 rfl rfl rfl (c_m_lookC (hTR _) hpE) rfl rfl (Nat.le_of_ble_eq_true rfl) (by decide) (by decide) (by decide) (by decide) ?_
      refine aw_iS rfl cw_X12_225 (c_m_spotOf (i := 3) hx (by decide)) rfl rfl (Nat.le_of_ble_eq_true rfl) (by decide) (by decide) (by decide) (by decide) ?_
      refine aw_istore rfl (by decide) ?_
      exact aw_wk (loop (E + 1) p 0 _ _ (by omega) hpE rfl) (And.intro rfl (And.intro rfl (And.intro rfl (And.intro rfl (And.intro rfl (And.intro rfl (And.intro rfl True.intro)))))))
    | succ d ih =>
      intro q hq
      refine aw_iload rfl rfl ?_
      refine aw_aload rfl rfl ?_
      refine aw_iX rfl cw_X12_99 (xs_recv hx (i := 3) (by decide)) (c_length (i := 3) hx (by decide)) rfl rfl (Nat.le_of_ble_eq_true rfl) (by decide) (by decide) (by decide) (by decide) ?_
      refine aw_icmp_ge (tgt := 31) rfl (by decide) (fun h10 => absurd h10 (nI_ge (b := 1) (by omega) (by decide))) (fun h10 => ?_)
      refine aw_aload_n rfl rfl ?_
      refine aw_iload_n rfl rfl ?_
      refine aw_iload rfl rfl ?_
      refine aw_iadd rfl ?_
      refine aw_iload_n rfl rfl ?_
      refine aw_iload rfl rfl ?_
      refine aw_iS rfl cw_X12_221 (c_m_usual) rfl rfl (Nat.le_of_ble_eq_true rfl) (by decide) (by decide) (by decide) (by decide) ?_
      refine ps_49 rfl (nI_add row q) (by omega) ?_
      refine aw_inc1 rfl rfl (by decide) ?_
      refine aw_goto (tgt := 3) rfl (by decide) ?_
      refine aw_wk (aw_eqs (ih (q + 1) (by omega)) rfl rfl (congrArg (fun z => hp g z n) ?_)) (And.intro rfl (And.intro rfl (And.intro rfl (And.intro rfl (And.intro rfl (And.intro (congrArg (fun x => some (Value.int x)) (nI_1 q)) True.intro))))))
      rw [pst_C rfl rfl, show usF 114 row (q + 1) (s 49) = upd (usF 114 row q (s 49)) (row + q) (usO 114 (nI q)) from by (unfold usF; rw [fd_snoc, Nat.zero_add])]
  have go0 := loop1 1 0 (by decide)
  rw [show usF 114 row 0 (s 49) = s 49 from rfl, upR_rf] at go0
  refine aw_M_of mo_X12_readItems (by decide) (Nat.le_of_ble_eq_true rfl) ?_
  refine aw_iconst (v := 0) rfl (by decide) ?_
  refine aw_istore rfl (by decide) ?_
  exact aw_wk go0 (And.intro rfl (And.intro rfl (And.intro rfl (And.intro rfl (And.intro rfl (And.intro rfl True.intro))))))
