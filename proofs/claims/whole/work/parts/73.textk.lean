/-! the reference: text of a kingdom -/
def tK1 (s : am_S) (T Q : Nat) : am_S := up (up (up s 39 6 0) 39 26 (nI T)) 39 27 (nI Q)
def tK2 (s : am_S) (T Q : Nat) : am_S := upR (tK1 s T Q) 44 (va_cpy (s 45) (s 44) 0 0 3)
def tK3 (s : am_S) (T Q : Nat) : am_S := upR (tK2 s T Q) 46 (va_cpy (s 47) (s 46) 0 0 35)
def tK4 (s : am_S) (T Q : Nat) : am_S := upR (tK3 s T Q) 48 (va_cpy (s 49) (s 48) 0 0 5)
def tKg (s : am_S) (T Q : Nat) : am_S := up (up (up (upR (tK4 s T Q) 52 (bgR (tK4 s T Q 46) (tK4 s T Q 48) (tK4 s T Q 44) (tK4 s T Q 52) T Q)) 39 47 0) 39 39 0) 39 49 0
def PTk (g : ag_G) (s : am_S) (n : am_N) (K : Kd) : Option Value → va_W → Prop := fun o y => o = some (.int (nI K.2.1)) ∧ ∃ s' n', y = hp g (tKg s' K.2.1 K.2.2.1) n' ∧ eo skU s s' ∧ en n n' ∧ n'.1 = n.1 ∧ KR s' K
set_option maxRecDepth 4000 in
theorem c_m_text_king {l : Launch} {g : ag_G} {s : am_S} {n : am_N} {E : Nat} {tx : Nat → Nat} (hx : aw_hx g) (hE : E ≤ 240) (hEe : s 39 6 = nI E) (htx : ∀ i, i < E → tx i < 256 ∧ s 40 i = n8 (tx i)) (hlb : ∀ i, i < 6 → bd (s 43 (asN i))) {r1 : Rl} (hr1 : LW tx E r1) {K : Kd} (hf : kgR tx E = .ok K) : aw_M l g mi_X12_text 33 0 0 [.ref (g_ad g 39), .int 0] (hp g s n) (PTk g (up s 39 0 0) n K) := by
  refine aw_M_of mo_X12_text (by decide) (Nat.le_of_ble_eq_true rfl) ?_
  refine aw_aload_n rfl rfl ?_
  refine aw_iconst (v := 0) rfl (by decide) ?_
  refine pp_39_0 rfl kl_X12_96 ?_
  have hEe : up s 39 0 0 39 6 = nI E := hEe
  have htx : ∀ i, i < E → tx i < 256 ∧ up s 39 0 0 40 i = n8 (tx i) := htx
  have hlb : ∀ i, i < 6 → bd (up s 39 0 0 43 (asN i)) := hlb
  have hS0 : up s 39 0 0 39 0 = 0 := rfl
  have hS7 : up s 39 0 0 39 7 = s 39 7 := rfl
  have hS30 : up s 39 0 0 39 30 = s 39 30 := rfl
  generalize up s 39 0 0 = S at *
  have hfv : fVal tx E r1 0 = -1 := by
    unfold fVal
    rw [if_pos (by decide), if_pos rfl, hf]
    rfl
  have rest : ∀ (s1 : am_S) (n1 : am_N), eo skU S s1 → en n n1 → n1.1 = n.1 → KR s1 K → aw_W l g mi_X12_text (aw_rm 33 0 0) (aw_Z g (PTk g S n K) 0 0) 0 0 (hp g (tK1 s1 K.2.1 K.2.2.1) n1) 221 [some (.ref (g_ad g 39)), some (.int 0), none, none] [] := by
    intro s1 n1 e1 f1 g1 hK
    obtain ⟨T, hT⟩ : ∃ z, z = K.2.1 := ⟨_, rfl⟩
    obtain ⟨Q, hQ⟩ : ∃ z, z = K.2.2.1 := ⟨_, rfl⟩
    have hT7 : T ≤ 7 := by rw [hT]; exact hK.2.2.2.1
    have hQ5 : Q ≤ 5 := by rw [hQ]; exact hK.2.2.2.2.1
    rw [← hT, ← hQ]
    have last : aw_W l g mi_X12_text (aw_rm 33 0 0) (aw_Z g (PTk g S n K) 0 0) 0 0 (hp g (tK4 s1 T Q) n1) 297 [some (.ref (g_ad g 39)), some (.int 0), none, none] [] := by
      refine aw_aload_n rfl rfl ?_
      refine aw_vV (q0 := 39) (ci := 12) rfl cw_X12_297 rfl rfl rfl (c_m_begins0 (T := T) (Q := Q) rfl hT7 rfl hQ5) rfl rfl (Nat.le_of_ble_eq_true rfl) (by decide) (by decide) (by decide) (by decide) ?_
      refine aw_aload_n rfl rfl ?_
      refine aw_iconst (v := 0) rfl (by decide) ?_
      refine pp_39_47 rfl kl_X12_300 ?_
      refine aw_aload_n rfl rfl ?_
      refine aw_iconst (v := 0) rfl (by decide) ?_
      refine pp_39_39 rfl kl_X12_303 ?_
      refine aw_aload_n rfl rfl ?_
      refine aw_iconst (v := 0) rfl (by decide) ?_
      refine pp_39_49 rfl kl_X12_306 (Or.inl rfl) ?_
      refine aw_aload_n rfl rfl ?_
      refine pg_39_26 rfl kl_X12_291 ?_
      exact aw_iret rfl rfl ⟨by show some (Value.int (nI T)) = _; rw [hT], s1, n1, by (rw [← hT, ← hQ]; rfl), e1, f1, g1, hK⟩
    have l3 : ∀ (d i : Nat), i + d = 5 → aw_W l g mi_X12_text (aw_rm 33 0 0) (aw_Z g (PTk g S n K) 0 0) 0 0 (hp g (upR (tK3 s1 T Q) 48 (va_cpy (s1 49) (s1 48) 0 0 i)) n1) 274 [some (.ref (g_ad g 39)), some (.int 0), none, some (.int (nI i))] [] := by
      intro d
      induction d with
      | zero =>
        intro i hi
        obtain rfl : i = 5 := by omega
        refine aw_iload_n rfl rfl ?_
        refine aw_iconst (v := 5) rfl (by decide) ?_
        refine aw_icmp_ge (tgt := 297) rfl (by decide) (fun h276 => ?_) (fun h276 => absurd (by decide) h276)
        exact aw_wk last (And.intro rfl (And.intro rfl True.intro))
      | succ d ih =>
        intro i hi
        refine aw_iload_n rfl rfl ?_
        refine aw_iconst (v := 5) rfl (by decide) ?_
        refine aw_icmp_ge (tgt := 297) rfl (by decide) (fun h276 => absurd h276 (nI_ge (b := 5) (by omega) (by decide))) (fun h276 => ?_)
        refine aw_aload_n rfl rfl ?_
        refine pg_39_22 rfl kl_X12_49 ?_
        refine aw_iload_n rfl rfl ?_
        refine aw_aload_n rfl rfl ?_
        refine pg_39_23 rfl kl_X12_52 ?_
        refine aw_iload_n rfl rfl ?_
        refine pl_49 rfl rfl (by omega) ?_
        refine ps_48 rfl rfl (by omega) ?_
        refine aw_inc1 rfl rfl (by decide) ?_
        refine aw_goto (tgt := 274) rfl (by decide) ?_
        refine aw_wk (aw_eqs (ih (i + 1) (by omega)) rfl rfl (congrArg (fun z => hp g z n1) ?_)) (And.intro rfl (And.intro rfl (And.intro (congrArg (fun x => some (Value.int x)) (nI_1 i)) True.intro)))
        rw [upR_up, ← cpy_s, Nat.zero_add]
        rfl
    have p_l3 := l3 5 0 (by decide)
    rw [cpy_0, show s1 48 = (tK3 s1 T Q) 48 from rfl, upR_rf] at p_l3
    have l2 : ∀ (d i : Nat), i + d = 35 → aw_W l g mi_X12_text (aw_rm 33 0 0) (aw_Z g (PTk g S n K) 0 0) 0 0 (hp g (upR (tK2 s1 T Q) 46 (va_cpy (s1 47) (s1 46) 0 0 i)) n1) 248 [some (.ref (g_ad g 39)), some (.int 0), none, some (.int (nI i))] [] := by
      intro d
      induction d with
      | zero =>
        intro i hi
        obtain rfl : i = 35 := by omega
        refine aw_iload_n rfl rfl ?_
        refine aw_bipush (v := 35) rfl (by decide) ?_
        refine aw_icmp_ge (tgt := 272) rfl (by decide) (fun h251 => ?_) (fun h251 => absurd (by decide) h251)
        refine aw_iconst (v := 0) rfl (by decide) ?_
        refine aw_istore_n rfl (by decide) ?_
        exact aw_wk p_l3 (And.intro rfl (And.intro rfl (And.intro rfl True.intro)))
      | succ d ih =>
        intro i hi
        refine aw_iload_n rfl rfl ?_
        refine aw_bipush (v := 35) rfl (by decide) ?_
        refine aw_icmp_ge (tgt := 272) rfl (by decide) (fun h251 => absurd h251 (nI_ge (b := 35) (by omega) (by decide))) (fun h251 => ?_)
        refine aw_aload_n rfl rfl ?_
        refine pg_39_20 rfl kl_X12_43 ?_
        refine aw_iload_n rfl rfl ?_
        refine aw_aload_n rfl rfl ?_
        refine pg_39_21 rfl kl_X12_46 ?_
        refine aw_iload_n rfl rfl ?_
        refine pl_47 rfl rfl (by omega) ?_
        refine ps_46 rfl rfl (by omega) ?_
        refine aw_inc1 rfl rfl (by decide) ?_
        refine aw_goto (tgt := 248) rfl (by decide) ?_
        refine aw_wk (aw_eqs (ih (i + 1) (by omega)) rfl rfl (congrArg (fun z => hp g z n1) ?_)) (And.intro rfl (And.intro rfl (And.intro (congrArg (fun x => some (Value.int x)) (nI_1 i)) True.intro)))
        rw [upR_up, ← cpy_s, Nat.zero_add]
        rfl
    have p_l2 := l2 35 0 (by decide)
    rw [cpy_0, show s1 46 = (tK2 s1 T Q) 46 from rfl, upR_rf] at p_l2
    have l1 : ∀ (d i : Nat), i + d = 3 → aw_W l g mi_X12_text (aw_rm 33 0 0) (aw_Z g (PTk g S n K) 0 0) 0 0 (hp g (upR (tK1 s1 T Q) 44 (va_cpy (s1 45) (s1 44) 0 0 i)) n1) 223 [some (.ref (g_ad g 39)), some (.int 0), none, some (.int (nI i))] [] := by
      intro d
      induction d with
      | zero =>
        intro i hi
        obtain rfl : i = 3 := by omega
        refine aw_iload_n rfl rfl ?_
        refine aw_iconst (v := 3) rfl (by decide) ?_
        refine aw_icmp_ge (tgt := 246) rfl (by decide) (fun h225 => ?_) (fun h225 => absurd (by decide) h225)
        refine aw_iconst (v := 0) rfl (by decide) ?_
        refine aw_istore_n rfl (by decide) ?_
        exact aw_wk p_l2 (And.intro rfl (And.intro rfl (And.intro rfl True.intro)))
      | succ d ih =>
        intro i hi
        refine aw_iload_n rfl rfl ?_
        refine aw_iconst (v := 3) rfl (by decide) ?_
        refine aw_icmp_ge (tgt := 246) rfl (by decide) (fun h225 => absurd h225 (nI_ge (b := 3) (by omega) (by decide))) (fun h225 => ?_)
        refine aw_aload_n rfl rfl ?_
        refine pg_39_18 rfl kl_X12_37 ?_
        refine aw_iload_n rfl rfl ?_
        refine aw_aload_n rfl rfl ?_
        refine pg_39_19 rfl kl_X12_40 ?_
        refine aw_iload_n rfl rfl ?_
        refine pl_45 rfl rfl (by omega) ?_
        refine ps_44 rfl rfl (by omega) ?_
        refine aw_inc1 rfl rfl (by decide) ?_
        refine aw_goto (tgt := 223) rfl (by decide) ?_
        refine aw_wk (aw_eqs (ih (i + 1) (by omega)) rfl rfl (congrArg (fun z => hp g z n1) ?_)) (And.intro rfl (And.intro rfl (And.intro (congrArg (fun x => some (Value.int x)) (nI_1 i)) True.intro)))
        rw [upR_up, ← cpy_s, Nat.zero_add]
        rfl
    have p_l1 := l1 3 0 (by decide)
    rw [cpy_0, show s1 44 = (tK1 s1 T Q) 44 from rfl, upR_rf] at p_l1
    refine aw_iconst (v := 0) rfl (by decide) ?_
    refine aw_istore_n rfl (by decide) ?_
    exact aw_wk p_l1 (And.intro rfl (And.intro rfl (And.intro rfl True.intro)))
  refine aw_iload_n rfl rfl ?_
  refine aw_i2l rfl ?_
  refine aw_lconst (v := 0) rfl (by decide) ?_
  refine aw_ldc2 (v := 2) rfl (aw_t6 165 rfl rfl) ?_
  refine aw_iS rfl cw_X12_217 (c_m_isIn) rfl rfl (Nat.le_of_ble_eq_true rfl) (by decide) (by decide) (by decide) (by decide) ?_
  refine aw_if_eq (tgt := 52) rfl (by decide) (fun h14 => absurd h14 (by decide)) (fun h14 => ?_)
  refine aw_iload_n rfl rfl ?_
  refine aw_iconst (v := 1) rfl (by decide) ?_
  refine aw_icmp_ne (tgt := 30) rfl (by decide) (fun h19 => ?_) (fun h19 => absurd h19 (by decide))
  refine aw_iload_n rfl rfl ?_
  refine aw_iconst (v := 2) rfl (by decide) ?_
  refine aw_icmp_ne (tgt := 43) rfl (by decide) (fun h32 => ?_) (fun h32 => absurd h32 (by decide))
  refine aw_aload_n rfl rfl ?_
  refine aw_iload_n rfl rfl ?_
  refine aw_pT (q0 := 39) (ci := 12) rfl cw_X12_289 rfl rfl rfl ((show aw_M l g mi_X12_fault 32 0 0 [.ref (g_ad g 39), .int 0] (hp g S n) (PF g S n tx E r1 0) from by (have z := c_m_fault (l := l) (g := g) (n := n) (x := 0) hx hE hEe htx hlb hr1; rw [up_rf hS0] at z; exact z))) rfl rfl (Nat.le_of_ble_eq_true rfl) (by decide) (by decide) (by decide) (by decide) (fun s1 n1 e1 f1 g1 j0 j2 => ?_)
  refine aw_iconst (v := -1) rfl (by decide) ?_
  refine aw_icmp_eq (tgt := 54) rfl (by decide) (fun h49 => ?_) (fun h49 => absurd (hfv) h49)
  refine aw_aload_n rfl rfl ?_
  refine pg_39_6 rfl kl_X12_109 ?_
  refine aw_istore_n rfl (by decide) ?_
  refine aw_aload_n rfl rfl ?_
  refine aw_iconst (v := 0) rfl (by decide) ?_
  refine pp_39_6 rfl kl_X12_109 ?_
  refine aw_iload_n rfl rfl ?_
  refine aw_iconst (v := 1) rfl (by decide) ?_
  refine aw_icmp_ne (tgt := 130) rfl (by decide) (fun h66 => ?_) (fun h66 => absurd h66 (by decide))
  refine aw_iload_n rfl rfl ?_
  refine aw_iconst (v := 2) rfl (by decide) ?_
  refine aw_icmp_ne (tgt := 205) rfl (by decide) (fun h132 => ?_) (fun h132 => absurd h132 (by decide))
  refine aw_aload_n rfl rfl ?_
  refine aw_aload_n rfl rfl ?_
  refine pg_39_28 rfl kl_X12_242 ?_
  refine pp_39_26 rfl kl_X12_291 ?_
  refine aw_aload_n rfl rfl ?_
  refine aw_aload_n rfl rfl ?_
  refine pg_39_29 rfl kl_X12_245 ?_
  refine pp_39_27 rfl kl_X12_294 ?_
  have hK := j0 rfl K hf
  refine aw_wk (aw_eqs (rest s1 n1 e1 f1 g1 hK) rfl rfl (congrArg (fun z => hp g z n1) ?_)) (And.intro rfl (And.intro rfl True.intro))
  unfold tK1
  rw [← hK.2.1, ← hK.2.2.1]
  rfl
