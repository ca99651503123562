/-! the reference: text -/
theorem n8_nar : ∀ c, c < 256 → vp_nar .byte (n8 c) = n8 c := by decide +kernel
theorem aw_pT {l : Launch} {g : ag_G} {M N : ag_M} {R : Room} {Z : ag_Z} {pc index d k q0 ci b : Nat} {L : List (Option Value)} {s : am_S} {n : am_N} {ws : va_W} {tx : Nat → Nat} {E : Nat} {r1 : Rl} {x : Int32} {C : vw_C} {fs As rest st0 : List Value}
    (hd : m_at M pc = some (.invokevirtual index, 3)) (hw : aw_cV (m_y M).cls index N k) (hc : aw_cl[ci]? = some C) (hcn : C.1 = (m_y N).cls) (he : ws[q0]? = some (b, .inr (ci, fs)))
    (hM : aw_M l g N d 0 0 (.ref b :: As) ws (PF g s n tx E r1 x)) (hk : As.length = k) (hst : st0 = As.reverse ++ .ref b :: rest) (hrest : (rest.map fun v => v.category).sum ≤ 8) (hf : d + 1 ≤ R.frames) (hlo : 8 + (m_n N + 11) + 100 * d ≤ R.locals) (h1 : 0 ≤ R.cells) (h2 : 0 ≤ R.slots)
    (kk : ∀ s' n', eo skU s s' → en n n' → n'.1 = n.1 → (x = 0 → ∀ K, kgR tx E = .ok K → KR s' K) → (x = 2 → ∀ z, rgR tx E = .ok z → s' 51 4 = nI z.1 ∧ ∀ j, j < 3 * z.1 → s' 50 (192 + j) = z.2 j) → aw_W l g M R Z 0 0 (hp g s' n') (pc + 3) L (.int (fVal tx E r1 x) :: rest)) : aw_W l g M R Z 0 0 ws pc L st0 :=
  aw_callV hd hw hc hcn he hM hk hst hrest hf hlo h1 h2 (by rintro r y ⟨rfl, s', n', rfl, a1, a2, a3, a4, a5⟩; exact kk s' n' a1 a2 a3 a4 a5)
def PTn (g : ag_G) (s : am_S) (n : am_N) : Option Value → va_W → Prop := fun o y => o = some (.int (-1)) ∧ ∃ s' n', y = hp g s' n' ∧ eo skU s s' ∧ en n n' ∧ n'.1 = n.1
set_option maxRecDepth 4000 in
theorem c_m_text_no {l : Launch} {g : ag_G} {s : am_S} {n : am_N} {E : Nat} {tx : Nat → Nat} (hx : aw_hx g) (hE : E ≤ 240) (hEe : s 39 6 = nI E) (htx : ∀ i, i < E → tx i < 256 ∧ s 40 i = n8 (tx i)) (hlb : ∀ i, i < 6 → bd (s 43 (asN i))) {r1 : Rl} (hr1 : LW tx E r1) {x : Int32} (hno : ¬ (inn x.toInt64 0 2 = true ∧ (x = 1 → ¬ s 39 7 = 4) ∧ (x = 2 → ¬ s 39 30 = 4) ∧ fVal tx E r1 x = -1)) : aw_M l g mi_X12_text 33 0 0 [.ref (g_ad g 39), .int x] (hp g s n) (PTn g (up s 39 0 0) n) := by
  refine aw_M_of mo_X12_text (by decide) (Nat.le_of_ble_eq_true rfl) ?_
  refine aw_aload_n rfl rfl ?_
  refine aw_iconst (v := 0) rfl (by decide) ?_
  refine pp_39_0 rfl kl_X12_96 ?_
  have hEe : up s 39 0 0 39 6 = nI E := hEe
  have htx : ∀ i, i < E → tx i < 256 ∧ up s 39 0 0 40 i = n8 (tx i) := htx
  have hlb : ∀ i, i < 6 → bd (up s 39 0 0 43 (asN i)) := hlb
  have hS0 : up s 39 0 0 39 0 = 0 := rfl
  have hS7 : up s 39 0 0 39 7 = s 39 7 := rfl
  have hS30 : up s 39 0 0 39 30 = s 39 30 := rfl
  generalize up s 39 0 0 = S at *
  refine aw_iload_n rfl rfl ?_
  refine aw_i2l rfl ?_
  refine aw_lconst (v := 0) rfl (by decide) ?_
  refine aw_ldc2 (v := 2) rfl (aw_t6 165 rfl rfl) ?_
  refine aw_iS rfl cw_X12_217 (c_m_isIn) rfl rfl (Nat.le_of_ble_eq_true rfl) (by decide) (by decide) (by decide) (by decide) ?_
  refine aw_if_eq (tgt := 52) rfl (by decide) (fun h14 => ?_) (fun h14 => ?_)
  · refine aw_iconst (v := -1) rfl (by decide) ?_
    first
    | exact aw_iret rfl rfl ⟨rfl, s1, n1, rfl, e1, f1, g1⟩
    | exact aw_iret rfl rfl ⟨rfl, S, n, rfl, eo_rf, en_rf, rfl⟩
  · refine aw_iload_n rfl rfl ?_
    refine aw_iconst (v := 1) rfl (by decide) ?_
    refine aw_icmp_ne (tgt := 30) rfl (by decide) (fun h19 => ?_) (fun h19 => ?_)
    · refine aw_iload_n rfl rfl ?_
      refine aw_iconst (v := 2) rfl (by decide) ?_
      refine aw_icmp_ne (tgt := 43) rfl (by decide) (fun h32 => ?_) (fun h32 => ?_)
      · refine aw_aload_n rfl rfl ?_
        refine aw_iload_n rfl rfl ?_
        refine aw_pT (q0 := 39) (ci := 12) rfl cw_X12_289 rfl rfl rfl ((show aw_M l g mi_X12_fault 32 0 0 [.ref (g_ad g 39), .int x] (hp g S n) (PF g S n tx E r1 x) from by (have z := c_m_fault (l := l) (g := g) (n := n) (x := x) hx hE hEe htx hlb hr1; rw [up_rf hS0] at z; exact z))) rfl rfl (Nat.le_of_ble_eq_true rfl) (by decide) (by decide) (by decide) (by decide) (fun s1 n1 e1 f1 g1 j0 j2 => ?_)
        refine aw_iconst (v := -1) rfl (by decide) ?_
        refine aw_icmp_eq (tgt := 54) rfl (by decide) (fun h49 => ?_) (fun h49 => ?_)
        · exfalso
          refine hno ⟨bB_n0.mp h14, ?_, ?_, h49⟩
          · first | exact fun e => absurd e h19 | exact fun _ => (by rw [← hS7]; exact h27)
          · first | exact fun e => absurd e h32 | exact fun _ => (by rw [← hS30]; exact h40)
        · refine aw_iconst (v := -1) rfl (by decide) ?_
          first
          | exact aw_iret rfl rfl ⟨rfl, s1, n1, rfl, e1, f1, g1⟩
          | exact aw_iret rfl rfl ⟨rfl, S, n, rfl, eo_rf, en_rf, rfl⟩
      · refine aw_aload_n rfl rfl ?_
        refine pg_39_30 rfl kl_X12_286 ?_
        refine aw_iconst (v := 4) rfl (by decide) ?_
        refine aw_icmp_eq (tgt := 52) rfl (by decide) (fun h40 => ?_) (fun h40 => ?_)
        · refine aw_iconst (v := -1) rfl (by decide) ?_
          first
          | exact aw_iret rfl rfl ⟨rfl, s1, n1, rfl, e1, f1, g1⟩
          | exact aw_iret rfl rfl ⟨rfl, S, n, rfl, eo_rf, en_rf, rfl⟩
        · refine aw_aload_n rfl rfl ?_
          refine aw_iload_n rfl rfl ?_
          refine aw_pT (q0 := 39) (ci := 12) rfl cw_X12_289 rfl rfl rfl ((show aw_M l g mi_X12_fault 32 0 0 [.ref (g_ad g 39), .int x] (hp g S n) (PF g S n tx E r1 x) from by (have z := c_m_fault (l := l) (g := g) (n := n) (x := x) hx hE hEe htx hlb hr1; rw [up_rf hS0] at z; exact z))) rfl rfl (Nat.le_of_ble_eq_true rfl) (by decide) (by decide) (by decide) (by decide) (fun s1 n1 e1 f1 g1 j0 j2 => ?_)
          refine aw_iconst (v := -1) rfl (by decide) ?_
          refine aw_icmp_eq (tgt := 54) rfl (by decide) (fun h49 => ?_) (fun h49 => ?_)
          · exfalso
            refine hno ⟨bB_n0.mp h14, ?_, ?_, h49⟩
            · first | exact fun e => absurd e h19 | exact fun _ => (by rw [← hS7]; exact h27)
            · first | exact fun e => absurd e h32 | exact fun _ => (by rw [← hS30]; exact h40)
          · refine aw_iconst (v := -1) rfl (by decide) ?_
            first
            | exact aw_iret rfl rfl ⟨rfl, s1, n1, rfl, e1, f1, g1⟩
            | exact aw_iret rfl rfl ⟨rfl, S, n, rfl, eo_rf, en_rf, rfl⟩
    · refine aw_aload_n rfl rfl ?_
      refine pg_39_7 rfl kl_X12_283 ?_
      refine aw_iconst (v := 4) rfl (by decide) ?_
      refine aw_icmp_eq (tgt := 52) rfl (by decide) (fun h27 => ?_) (fun h27 => ?_)
      · refine aw_iconst (v := -1) rfl (by decide) ?_
        first
        | exact aw_iret rfl rfl ⟨rfl, s1, n1, rfl, e1, f1, g1⟩
        | exact aw_iret rfl rfl ⟨rfl, S, n, rfl, eo_rf, en_rf, rfl⟩
      · refine aw_iload_n rfl rfl ?_
        refine aw_iconst (v := 2) rfl (by decide) ?_
        refine aw_icmp_ne (tgt := 43) rfl (by decide) (fun h32 => ?_) (fun h32 => ?_)
        · refine aw_aload_n rfl rfl ?_
          refine aw_iload_n rfl rfl ?_
          refine aw_pT (q0 := 39) (ci := 12) rfl cw_X12_289 rfl rfl rfl ((show aw_M l g mi_X12_fault 32 0 0 [.ref (g_ad g 39), .int x] (hp g S n) (PF g S n tx E r1 x) from by (have z := c_m_fault (l := l) (g := g) (n := n) (x := x) hx hE hEe htx hlb hr1; rw [up_rf hS0] at z; exact z))) rfl rfl (Nat.le_of_ble_eq_true rfl) (by decide) (by decide) (by decide) (by decide) (fun s1 n1 e1 f1 g1 j0 j2 => ?_)
          refine aw_iconst (v := -1) rfl (by decide) ?_
          refine aw_icmp_eq (tgt := 54) rfl (by decide) (fun h49 => ?_) (fun h49 => ?_)
          · exfalso
            refine hno ⟨bB_n0.mp h14, ?_, ?_, h49⟩
            · first | exact fun e => absurd e h19 | exact fun _ => (by rw [← hS7]; exact h27)
            · first | exact fun e => absurd e h32 | exact fun _ => (by rw [← hS30]; exact h40)
          · refine aw_iconst (v := -1) rfl (by decide) ?_
            first
            | exact aw_iret rfl rfl ⟨rfl, s1, n1, rfl, e1, f1, g1⟩
            | exact aw_iret rfl rfl ⟨rfl, S, n, rfl, eo_rf, en_rf, rfl⟩
        · refine aw_aload_n rfl rfl ?_
          refine pg_39_30 rfl kl_X12_286 ?_
          refine aw_iconst (v := 4) rfl (by decide) ?_
          refine aw_icmp_eq (tgt := 52) rfl (by decide) (fun h40 => ?_) (fun h40 => ?_)
          · refine aw_iconst (v := -1) rfl (by decide) ?_
            first
            | exact aw_iret rfl rfl ⟨rfl, s1, n1, rfl, e1, f1, g1⟩
            | exact aw_iret rfl rfl ⟨rfl, S, n, rfl, eo_rf, en_rf, rfl⟩
          · refine aw_aload_n rfl rfl ?_
            refine aw_iload_n rfl rfl ?_
            refine aw_pT (q0 := 39) (ci := 12) rfl cw_X12_289 rfl rfl rfl ((show aw_M l g mi_X12_fault 32 0 0 [.ref (g_ad g 39), .int x] (hp g S n) (PF g S n tx E r1 x) from by (have z := c_m_fault (l := l) (g := g) (n := n) (x := x) hx hE hEe htx hlb hr1; rw [up_rf hS0] at z; exact z))) rfl rfl (Nat.le_of_ble_eq_true rfl) (by decide) (by decide) (by decide) (by decide) (fun s1 n1 e1 f1 g1 j0 j2 => ?_)
            refine aw_iconst (v := -1) rfl (by decide) ?_
            refine aw_icmp_eq (tgt := 54) rfl (by decide) (fun h49 => ?_) (fun h49 => ?_)
            · exfalso
              refine hno ⟨bB_n0.mp h14, ?_, ?_, h49⟩
              · first | exact fun e => absurd e h19 | exact fun _ => (by rw [← hS7]; exact h27)
              · first | exact fun e => absurd e h32 | exact fun _ => (by rw [← hS30]; exact h40)
            · refine aw_iconst (v := -1) rfl (by decide) ?_
              first
              | exact aw_iret rfl rfl ⟨rfl, s1, n1, rfl, e1, f1, g1⟩
              | exact aw_iret rfl rfl ⟨rfl, S, n, rfl, eo_rf, en_rf, rfl⟩
def tLw (s : am_S) (K E : Nat) : am_S := up (up (upR (up s 39 6 0) 41 (va_cpy (s 40) (s 41) 0 (240 * K) E)) 42 K (nI E)) 39 7 (nI (K + 1))
def PTl (g : ag_G) (s : am_S) (n : am_N) (K E : Nat) : Option Value → va_W → Prop := fun o y => o = some (.int (nI K)) ∧ ∃ s' n', y = hp g (tLw s' K E) n' ∧ eo skU s s' ∧ en n n' ∧ n'.1 = n.1
set_option maxRecDepth 4000 in
theorem c_m_text_law {l : Launch} {g : ag_G} {s : am_S} {n : am_N} {E : Nat} {tx : Nat → Nat} (hx : aw_hx g) (hE : E ≤ 240) (hEe : s 39 6 = nI E) (htx : ∀ i, i < E → tx i < 256 ∧ s 40 i = n8 (tx i)) (hlb : ∀ i, i < 6 → bd (s 43 (asN i))) {r1 : Rl} (hr1 : LW tx E r1) {K : Nat} (hK : s 39 7 = nI K) (hK4 : K < 4) (hf : fVal tx E r1 1 = -1) : aw_M l g mi_X12_text 33 0 0 [.ref (g_ad g 39), .int 1] (hp g s n) (PTl g (up s 39 0 0) n K E) := by
  refine aw_M_of mo_X12_text (by decide) (Nat.le_of_ble_eq_true rfl) ?_
  refine aw_aload_n rfl rfl ?_
  refine aw_iconst (v := 0) rfl (by decide) ?_
  refine pp_39_0 rfl kl_X12_96 ?_
  have hEe : up s 39 0 0 39 6 = nI E := hEe
  have htx : ∀ i, i < E → tx i < 256 ∧ up s 39 0 0 40 i = n8 (tx i) := htx
  have hlb : ∀ i, i < 6 → bd (up s 39 0 0 43 (asN i)) := hlb
  have hS0 : up s 39 0 0 39 0 = 0 := rfl
  have hS7 : up s 39 0 0 39 7 = s 39 7 := rfl
  have hS30 : up s 39 0 0 39 30 = s 39 30 := rfl
  generalize up s 39 0 0 = S at *
  have hK' : S 39 7 = nI K := hS7.trans hK
  have n4 : ¬ S 39 7 = 4 := by rw [hK']; intro e; have := (nI_eq (b := 4) (by omega) (by decide)).mp e; omega
  have loop : ∀ (s1 : am_S) (n1 : am_N), eo skU S s1 → en n n1 → n1.1 = n.1 → ∀ (d i : Nat), i + d = E → aw_W l g mi_X12_text (aw_rm 33 0 0) (aw_Z g (PTl g S n K E) 0 0) 0 0 (hp g (upR (up s1 39 6 0) 41 (va_cpy (s1 40) (s1 41) 0 (240 * K) i)) n1) 71 [some (.ref (g_ad g 39)), some (.int 1), some (.int (nI E)), some (.int (nI i))] [] := by
    intro s1 n1 e1 f1 g1 d
    have h7 : s1 39 7 = nI K := (e1 39 7 rfl).trans hK'
    induction d with
    | zero =>
      intro i hi
      obtain rfl : i = E := by omega
      refine aw_iload_n rfl rfl ?_
      refine aw_iload_n rfl rfl ?_
      refine aw_icmp_ge (tgt := 103) rfl (by decide) (fun h73 => ?_) (fun h73 => absurd (Int32.le_refl _) h73)
      refine aw_aload_n rfl rfl ?_
      refine pg_39_3 rfl kl_X12_16 ?_
      refine aw_aload_n rfl rfl ?_
      refine pg_39_7 rfl kl_X12_283 ?_
      refine aw_iload_n rfl rfl ?_
      refine ps_42 rfl (show upR (up s1 39 6 0) 41 _ 39 7 = nI K from h7) (by omega) ?_
      refine aw_aload_n rfl rfl ?_
      refine aw_dup rfl rfl ?_
      refine pg_39_7 rfl kl_X12_283 ?_
      refine aw_iconst (v := 1) rfl (by decide) ?_
      refine aw_iadd rfl ?_
      refine pp_39_7 rfl kl_X12_283 ?_
      refine aw_aload_n rfl rfl ?_
      refine pg_39_7 rfl kl_X12_283 ?_
      refine aw_iconst (v := 1) rfl (by decide) ?_
      refine aw_isub rfl ?_
      exact aw_iret rfl rfl ⟨by show some (Value.int (s1 39 7 + 1 - 1)) = _; rw [h7, Int32.add_sub_cancel], s1, n1, by (unfold tLw; rw [← nI_1, ← h7]; rfl), e1, f1, g1⟩
    | succ d ih =>
      intro i hi
      have hb := htx i (by omega)
      have h40 : s1 40 i = n8 (tx i) := (e1 40 i rfl).trans hb.2
      refine aw_iload_n rfl rfl ?_
      refine aw_iload_n rfl rfl ?_
      refine aw_icmp_ge (tgt := 103) rfl (by decide) (fun h73 => absurd h73 (nI_ge (by omega) (by omega))) (fun h73 => ?_)
      refine aw_aload_n rfl rfl ?_
      refine pg_39_2 rfl kl_X12_13 ?_
      refine aw_sipush (v := 240) rfl (by decide) ?_
      refine aw_aload_n rfl rfl ?_
      refine pg_39_7 rfl kl_X12_283 ?_
      refine aw_imul rfl ?_
      refine aw_iload_n rfl rfl ?_
      refine aw_iadd rfl ?_
      refine aw_aload_n rfl rfl ?_
      refine pg_39_1 rfl kl_X12_9 ?_
      refine aw_iload_n rfl rfl ?_
      refine pl_40 rfl rfl (by omega) ?_
      refine ps_41 rfl (show (240 : Int32) * s1 39 7 + nI i = nI (240 * K + i) from by (rw [h7, show (240 : Int32) * nI K = nI (240 * K) from pk_mul 240 K]; exact nI_add _ _)) (by omega) ?_
      refine aw_inc1 rfl rfl (by decide) ?_
      refine aw_goto (tgt := 71) rfl (by decide) ?_
      refine aw_wk (aw_eqs (ih (i + 1) (by omega)) rfl rfl (congrArg (fun z => hp g z n1) ?_)) (And.intro rfl (And.intro rfl (And.intro rfl (And.intro (congrArg (fun x => some (Value.int x)) (nI_1 i)) True.intro))))
      rw [upR_up, ← cpy_s, Nat.zero_add, show upR (up s1 39 6 0) 41 (va_cpy (s1 40) (s1 41) 0 (240 * K) i) 40 i = s1 40 i from rfl, h40, n8_nar _ hb.1]
  refine aw_iload_n rfl rfl ?_
  refine aw_i2l rfl ?_
  refine aw_lconst (v := 0) rfl (by decide) ?_
  refine aw_ldc2 (v := 2) rfl (aw_t6 165 rfl rfl) ?_
  refine aw_iS rfl cw_X12_217 (c_m_isIn) rfl rfl (Nat.le_of_ble_eq_true rfl) (by decide) (by decide) (by decide) (by decide) ?_
  refine aw_if_eq (tgt := 52) rfl (by decide) (fun h14 => absurd h14 (by decide)) (fun h14 => ?_)
  refine aw_iload_n rfl rfl ?_
  refine aw_iconst (v := 1) rfl (by decide) ?_
  refine aw_icmp_ne (tgt := 30) rfl (by decide) (fun h19 => absurd (rfl) h19) (fun h19 => ?_)
  refine aw_aload_n rfl rfl ?_
  refine pg_39_7 rfl kl_X12_283 ?_
  refine aw_iconst (v := 4) rfl (by decide) ?_
  refine aw_icmp_eq (tgt := 52) rfl (by decide) (fun h27 => absurd h27 (n4)) (fun h27 => ?_)
  refine aw_iload_n rfl rfl ?_
  refine aw_iconst (v := 2) rfl (by decide) ?_
  refine aw_icmp_ne (tgt := 43) rfl (by decide) (fun h32 => ?_) (fun h32 => absurd h32 (by decide))
  refine aw_aload_n rfl rfl ?_
  refine aw_iload_n rfl rfl ?_
  refine aw_pT (q0 := 39) (ci := 12) rfl cw_X12_289 rfl rfl rfl ((show aw_M l g mi_X12_fault 32 0 0 [.ref (g_ad g 39), .int 1] (hp g S n) (PF g S n tx E r1 1) from by (have z := c_m_fault (l := l) (g := g) (n := n) (x := 1) hx hE hEe htx hlb hr1; rw [up_rf hS0] at z; exact z))) rfl rfl (Nat.le_of_ble_eq_true rfl) (by decide) (by decide) (by decide) (by decide) (fun s1 n1 e1 f1 g1 j0 j2 => ?_)
  refine aw_iconst (v := -1) rfl (by decide) ?_
  refine aw_icmp_eq (tgt := 54) rfl (by decide) (fun h49 => ?_) (fun h49 => absurd (hf) h49)
  have hz := loop s1 n1 e1 f1 g1 E 0 (by omega)
  rw [cpy_0, show s1 41 = (up s1 39 6 0) 41 from rfl, upR_rf] at hz
  refine aw_aload_n rfl rfl ?_
  refine pg_39_6 rfl kl_X12_109 ?_
  refine aw_istore_n rfl (by decide) ?_
  refine aw_aload_n rfl rfl ?_
  refine aw_iconst (v := 0) rfl (by decide) ?_
  refine pp_39_6 rfl kl_X12_109 ?_
  refine aw_iload_n rfl rfl ?_
  refine aw_iconst (v := 1) rfl (by decide) ?_
  refine aw_icmp_ne (tgt := 130) rfl (by decide) (fun h66 => absurd (rfl) h66) (fun h66 => ?_)
  refine aw_iconst (v := 0) rfl (by decide) ?_
  refine aw_istore_n rfl (by decide) ?_
  rw [show s1 39 6 = nI E from (e1 39 6 rfl).trans hEe]
  exact aw_wk hz (And.intro rfl (And.intro rfl (And.intro rfl (And.intro rfl True.intro))))
def tRg (s : am_S) (P : Nat) : am_S := up (up (upR (up s 39 6 0) 50 (va_cpy (s 50) (s 50) 192 (48 * P) 48)) 51 P (s 51 4)) 39 30 (nI (P + 1))
def PTr (g : ag_G) (s : am_S) (n : am_N) (P : Nat) (z : Nat × (Nat → Int32)) : Option Value → va_W → Prop := fun o y => o = some (.int (nI P)) ∧ ∃ s' n', y = hp g (tRg s' P) n' ∧ eo skU s s' ∧ en n n' ∧ n'.1 = n.1 ∧ s' 51 4 = nI z.1 ∧ ∀ j, j < 3 * z.1 → s' 50 (192 + j) = z.2 j
set_option maxRecDepth 4000 in
theorem c_m_text_reign {l : Launch} {g : ag_G} {s : am_S} {n : am_N} {E : Nat} {tx : Nat → Nat} (hx : aw_hx g) (hE : E ≤ 240) (hEe : s 39 6 = nI E) (htx : ∀ i, i < E → tx i < 256 ∧ s 40 i = n8 (tx i)) (hlb : ∀ i, i < 6 → bd (s 43 (asN i))) {r1 : Rl} (hr1 : LW tx E r1) {P : Nat} (hP : s 39 30 = nI P) (hP4 : P < 4) {z : Nat × (Nat → Int32)} (hf : rgR tx E = .ok z) : aw_M l g mi_X12_text 33 0 0 [.ref (g_ad g 39), .int 2] (hp g s n) (PTr g (up s 39 0 0) n P z) := by
  refine aw_M_of mo_X12_text (by decide) (Nat.le_of_ble_eq_true rfl) ?_
  refine aw_aload_n rfl rfl ?_
  refine aw_iconst (v := 0) rfl (by decide) ?_
  refine pp_39_0 rfl kl_X12_96 ?_
  have hEe : up s 39 0 0 39 6 = nI E := hEe
  have htx : ∀ i, i < E → tx i < 256 ∧ up s 39 0 0 40 i = n8 (tx i) := htx
  have hlb : ∀ i, i < 6 → bd (up s 39 0 0 43 (asN i)) := hlb
  have hS0 : up s 39 0 0 39 0 = 0 := rfl
  have hS7 : up s 39 0 0 39 7 = s 39 7 := rfl
  have hS30 : up s 39 0 0 39 30 = s 39 30 := rfl
  generalize up s 39 0 0 = S at *
  have hP' : S 39 30 = nI P := hS30.trans hP
  have n4 : ¬ S 39 30 = 4 := by rw [hP']; intro e; have := (nI_eq (b := 4) (by omega) (by decide)).mp e; omega
  have hfv : fVal tx E r1 2 = -1 := by
    unfold fVal
    rw [if_pos (by decide), if_neg (by decide), if_neg (by decide), hf]
    rfl
  have loop : ∀ (s1 : am_S) (n1 : am_N), eo skU S s1 → en n n1 → n1.1 = n.1 → s1 51 4 = nI z.1 ∧ (∀ j, j < 3 * z.1 → s1 50 (192 + j) = z.2 j) → ∀ (d i : Nat), i + d = 48 → aw_W l g mi_X12_text (aw_rm 33 0 0) (aw_Z g (PTr g S n P z) 0 0) 0 0 (hp g (upR (up s1 39 6 0) 50 (va_cpy (s1 50) (s1 50) 192 (48 * P) i)) n1) 137 [some (.ref (g_ad g 39)), some (.int 2), none, some (.int (nI i))] [] := by
    intro s1 n1 e1 f1 g1 hz d
    have h30 : s1 39 30 = nI P := (e1 39 30 rfl).trans hP'
    induction d with
    | zero =>
      intro i hi
      obtain rfl : i = 48 := by omega
      refine aw_iload_n rfl rfl ?_
      refine aw_bipush (v := 48) rfl (by decide) ?_
      refine aw_icmp_ge (tgt := 173) rfl (by decide) (fun h140 => ?_) (fun h140 => absurd (by decide) h140)
      refine aw_aload_n rfl rfl ?_
      refine pg_39_25 rfl kl_X12_58 ?_
      refine aw_aload_n rfl rfl ?_
      refine pg_39_30 rfl kl_X12_286 ?_
      refine aw_aload_n rfl rfl ?_
      refine pg_39_25 rfl kl_X12_58 ?_
      refine aw_iconst (v := 4) rfl (by decide) ?_
      refine pl_51 (j := 4) rfl rfl (by decide) ?_
      refine ps_51 rfl (show upR (up s1 39 6 0) 50 _ 39 30 = nI P from h30) (by omega) ?_
      refine aw_aload_n rfl rfl ?_
      refine aw_dup rfl rfl ?_
      refine pg_39_30 rfl kl_X12_286 ?_
      refine aw_iconst (v := 1) rfl (by decide) ?_
      refine aw_iadd rfl ?_
      refine pp_39_30 rfl kl_X12_286 ?_
      refine aw_aload_n rfl rfl ?_
      refine pg_39_30 rfl kl_X12_286 ?_
      refine aw_iconst (v := 1) rfl (by decide) ?_
      refine aw_isub rfl ?_
      exact aw_iret rfl rfl ⟨by show some (Value.int (s1 39 30 + 1 - 1)) = _; rw [h30, Int32.add_sub_cancel], s1, n1, by (unfold tRg; rw [← nI_1, ← h30]; rfl), e1, f1, g1, hz⟩
    | succ d ih =>
      intro i hi
      refine aw_iload_n rfl rfl ?_
      refine aw_bipush (v := 48) rfl (by decide) ?_
      refine aw_icmp_ge (tgt := 173) rfl (by decide) (fun h140 => absurd h140 (nI_ge (b := 48) (by omega) (by decide))) (fun h140 => ?_)
      refine aw_aload_n rfl rfl ?_
      refine pg_39_24 rfl kl_X12_55 ?_
      refine aw_bipush (v := 48) rfl (by decide) ?_
      refine aw_aload_n rfl rfl ?_
      refine pg_39_30 rfl kl_X12_286 ?_
      refine aw_imul rfl ?_
      refine aw_iload_n rfl rfl ?_
      refine aw_iadd rfl ?_
      refine aw_aload_n rfl rfl ?_
      refine pg_39_24 rfl kl_X12_55 ?_
      refine aw_sipush (v := 192) rfl (by decide) ?_
      refine aw_iload_n rfl rfl ?_
      refine aw_iadd rfl ?_
      refine pl_50 rfl (show (192 : Int32) + nI i = nI (192 + i) from nI_add 192 i) (by omega) ?_
      refine ps_50 rfl (show (48 : Int32) * s1 39 30 + nI i = nI (48 * P + i) from by (rw [h30, show (48 : Int32) * nI P = nI (48 * P) from pk_mul 48 P]; exact nI_add _ _)) (by omega) ?_
      refine aw_inc1 rfl rfl (by decide) ?_
      refine aw_goto (tgt := 137) rfl (by decide) ?_
      refine aw_wk (aw_eqs (ih (i + 1) (by omega)) rfl rfl (congrArg (fun z => hp g z n1) ?_)) (And.intro rfl (And.intro rfl (And.intro (congrArg (fun x => some (Value.int x)) (nI_1 i)) True.intro)))
      rw [upR_up, ← cpy_s, upR_s, show va_cpy (s1 50) (s1 50) 192 (48 * P) i (192 + i) = s1 50 (192 + i) from by (unfold va_cpy; rw [if_neg (by omega)])]
  refine aw_iload_n rfl rfl ?_
  refine aw_i2l rfl ?_
  refine aw_lconst (v := 0) rfl (by decide) ?_
  refine aw_ldc2 (v := 2) rfl (aw_t6 165 rfl rfl) ?_
  refine aw_iS rfl cw_X12_217 (c_m_isIn) rfl rfl (Nat.le_of_ble_eq_true rfl) (by decide) (by decide) (by decide) (by decide) ?_
  refine aw_if_eq (tgt := 52) rfl (by decide) (fun h14 => absurd h14 (by decide)) (fun h14 => ?_)
  refine aw_iload_n rfl rfl ?_
  refine aw_iconst (v := 1) rfl (by decide) ?_
  refine aw_icmp_ne (tgt := 30) rfl (by decide) (fun h19 => ?_) (fun h19 => absurd h19 (by decide))
  refine aw_iload_n rfl rfl ?_
  refine aw_iconst (v := 2) rfl (by decide) ?_
  refine aw_icmp_ne (tgt := 43) rfl (by decide) (fun h32 => absurd (rfl) h32) (fun h32 => ?_)
  refine aw_aload_n rfl rfl ?_
  refine pg_39_30 rfl kl_X12_286 ?_
  refine aw_iconst (v := 4) rfl (by decide) ?_
  refine aw_icmp_eq (tgt := 52) rfl (by decide) (fun h40 => absurd h40 (n4)) (fun h40 => ?_)
  refine aw_aload_n rfl rfl ?_
  refine aw_iload_n rfl rfl ?_
  refine aw_pT (q0 := 39) (ci := 12) rfl cw_X12_289 rfl rfl rfl ((show aw_M l g mi_X12_fault 32 0 0 [.ref (g_ad g 39), .int 2] (hp g S n) (PF g S n tx E r1 2) from by (have z := c_m_fault (l := l) (g := g) (n := n) (x := 2) hx hE hEe htx hlb hr1; rw [up_rf hS0] at z; exact z))) rfl rfl (Nat.le_of_ble_eq_true rfl) (by decide) (by decide) (by decide) (by decide) (fun s1 n1 e1 f1 g1 j0 j2 => ?_)
  refine aw_iconst (v := -1) rfl (by decide) ?_
  refine aw_icmp_eq (tgt := 54) rfl (by decide) (fun h49 => ?_) (fun h49 => absurd (hfv) h49)
  have hz := loop s1 n1 e1 f1 g1 (j2 rfl z hf) 48 0 (by omega)
  rw [cpy_0, show s1 50 = (up s1 39 6 0) 50 from rfl, upR_rf] at hz
  refine aw_aload_n rfl rfl ?_
  refine pg_39_6 rfl kl_X12_109 ?_
  refine aw_istore_n rfl (by decide) ?_
  refine aw_aload_n rfl rfl ?_
  refine aw_iconst (v := 0) rfl (by decide) ?_
  refine pp_39_6 rfl kl_X12_109 ?_
  refine aw_iload_n rfl rfl ?_
  refine aw_iconst (v := 1) rfl (by decide) ?_
  refine aw_icmp_ne (tgt := 130) rfl (by decide) (fun h66 => ?_) (fun h66 => absurd h66 (by decide))
  refine aw_iload_n rfl rfl ?_
  refine aw_iconst (v := 2) rfl (by decide) ?_
  refine aw_icmp_ne (tgt := 205) rfl (by decide) (fun h132 => absurd (rfl) h132) (fun h132 => ?_)
  refine aw_iconst (v := 0) rfl (by decide) ?_
  refine aw_istore_n rfl (by decide) ?_
  exact aw_wk hz (And.intro rfl (And.intro rfl (And.intro rfl True.intro)))
