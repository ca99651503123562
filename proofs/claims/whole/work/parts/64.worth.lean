/-! the reference: worthOf and its memo -/
def agr (e : Ex) : Prop := ∀ A B : Nat → Int32, (∀ i, i < 6 → A i = B i) → e A = e B
def agR : Rs → Prop
  | .ok z => agr z.2
  | .error _ => True
theorem agr_0 : agr e0 := fun _ _ _ => rfl
theorem PZ_ag {tx : Nat → Nat} {E w p : Nat} {nt : Nt} {r : Rs} (h : PZ tx E nt w p r) : agr nt.2 → agR r := by
  refine h (fun nt w p r => agr nt.2 → agR r) ⟨?_, ?_, ?_, ?_, ?_, ?_, ?_, ?_, ?_, ?_, ?_, ?_, ?_, ?_, ?_, ?_, ?_, ?_, ?_, ?_, ?_, ?_, ?_, ?_, ?_, ?_, ?_, ?_, ?_, ?_, ?_, ?_, ?_, ?_, ?_, ?_, ?_, ?_, ?_, ?_, ?_, ?_, ?_, ?_, ?_, ?_⟩
  · intro w p i c1 hv; exact fun A B h => h i (xsp4 c1).1
  · intro w p p1 e c1 c2 c3 d1 c4 hv; exact d1 agr_0
  · intro w p p1 e c1 c2 c3 d1 c4 hv; exact trivial
  · intro w p f c1 c2 c3 d1 hv; exact trivial
  · intro p c1 c2 hv; exact trivial
  · intro w p q m0 c1 c2 c3 c4 hv; exact fun _ _ _ => rfl
  · intro w p q m0 c1 c2 c3 c4 hv; exact trivial
  · intro w p c1 c2 c3 hv; exact trivial
  · intro w p p1 a r d1 d2 hv; exact d2 (d1 agr_0)
  · intro w p f d1 hv; exact trivial
  · intro w p v c1 c2 hv; exact hv
  · intro w p p1 v a r c1 d1 d2 hv; exact d2 (fun A B h => by have h1 : v A = v B := hv A B h; have h2 : a A = a B := d1 agr_0 A B h; show eMul v a A = eMul v a B; unfold eMul; rw [h1, h2])
  · intro w p p1 v a r c1 d1 d2 hv; exact d2 (fun A B h => by have h1 : v A = v B := hv A B h; have h2 : a A = a B := d1 agr_0 A B h; show eDiv v a A = eDiv v a B; unfold eDiv; rw [h1, h2])
  · intro w p f v c1 d1 hv; exact trivial
  · intro w p p1 a r d1 d2 hv; exact d2 (d1 agr_0)
  · intro w p f d1 hv; exact trivial
  · intro w p v c1 c2 hv; exact hv
  · intro w p p1 v a r c1 d1 d2 hv; exact d2 (fun A B h => by have h1 : v A = v B := hv A B h; have h2 : a A = a B := d1 agr_0 A B h; show eAdd v a A = eAdd v a B; unfold eAdd; rw [h1, h2])
  · intro w p p1 v a r c1 d1 d2 hv; exact d2 (fun A B h => by have h1 : v A = v B := hv A B h; have h2 : a A = a B := d1 agr_0 A B h; show eSub v a A = eSub v a B; unfold eSub; rw [h1, h2])
  · intro w p f v c1 d1 hv; exact trivial
  · intro w p v c1 hv; exact trivial
  · intro w p p1 v a c1 d1 hv; exact fun A B h => by have h1 : v A = v B := hv A B h; have h2 : a A = a B := d1 agr_0 A B h; show eCmp _ v a A = eCmp _ v a B; unfold eCmp; rw [h1, h2]
  · intro w p f v c1 d1 hv; exact trivial
  · intro w p p1 a c1 c2 d1 hv; exact fun A B h => by have h2 : a A = a B := d1 agr_0 A B h; show eNot a A = eNot a B; unfold eNot; rw [h2]
  · intro w p f c1 c2 d1 hv; exact trivial
  · intro p c1 hv; exact trivial
  · intro w p p1 a c1 c2 d1 c3 hv; exact d1 agr_0
  · intro w p p1 a c1 c2 d1 c3 hv; exact trivial
  · intro w p f c1 c2 d1 hv; exact trivial
  · intro p c1 hv; exact trivial
  · intro w p p1 a r c1 c2 d1 d2 hv; exact d2 (d1 agr_0)
  · intro w p f c1 c2 d1 hv; exact trivial
  · intro w p p1 a r d1 d2 hv; exact d2 (d1 agr_0)
  · intro w p f d1 hv; exact trivial
  · intro w p p1 v a r d1 d2 hv; exact d2 (d1 hv)
  · intro w p f v d1 hv; exact trivial
  · intro w p v c1 hv; exact hv
  · intro w p p1 v a r c1 d1 d2 hv; exact d2 (fun A B h => by have h1 : v A = v B := hv A B h; have h2 : a A = a B := d1 agr_0 A B h; show eAnd v a A = eAnd v a B; unfold eAnd; rw [h1, h2])
  · intro w p f v c1 d1 hv; exact trivial
  · intro w p p1 a r d1 d2 hv; exact d2 (d1 agr_0)
  · intro w p f d1 hv; exact trivial
  · intro w p p1 v a r d1 d2 hv; exact d2 (d1 hv)
  · intro w p f v d1 hv; exact trivial
  · intro w p v c1 hv; exact hv
  · intro w p p1 v a r c1 d1 d2 hv; exact d2 (fun A B h => by have h1 : v A = v B := hv A B h; have h2 : a A = a B := d1 agr_0 A B h; show eOr v a A = eOr v a B; unfold eOr; rw [h1, h2])
  · intro w p f v c1 d1 hv; exact trivial
theorem CZ_ag {tx : Nat → Nat} {E p p' : Nat} {c v : Ex} (h : CZ tx E p (kOk p' c v)) : agr c ∧ agr v := by
  rcases h with ⟨h1, e⟩ | ⟨h1, h2, e⟩ | ⟨_, _, f, h1, e⟩ | ⟨_, _, p3, c, h1, h2, e⟩ | ⟨_, _, p3, c, f, h1, h2, h3, e⟩ | ⟨_, _, p3, c, p4, v, h1, h2, h3, e⟩ | ⟨_, _, f, h1, e⟩ | ⟨_, _, p3, v, h1, h2, e⟩ | ⟨_, _, p3, u, f, h1, h2, h3, e⟩ | ⟨_, _, p3, u, p4, c, h1, h2, h3, h4, e⟩ | ⟨_, _, p3, u, p4, c, f, h1, h2, h3, h4, h5, e⟩ | ⟨_, _, p3, u, p4, c, p5, v, h1, h2, h3, h4, h5, e⟩
  · cases e
  · cases e
  · cases e
  · cases e
  · cases e
  · cases e
    exact ⟨PZ_ag h1 agr_0, PZ_ag h3 agr_0⟩
  · cases e
  · cases e
    exact ⟨fun _ _ _ => rfl, PZ_ag h1 agr_0⟩
  · cases e
  · cases e
  · cases e
  · cases e
    exact ⟨PZ_ag h3 (PZ_ag h1 agr_0), PZ_ag h5 agr_0⟩
def agL : List (Ex × Ex) → Prop
  | [] => True
  | z :: r => (agr z.1 ∧ agr z.2) ∧ agL r
theorem vL_ag : ∀ L, agL L → agr (vL L)
  | [], _ => fun _ _ _ => rfl
  | z :: r, h => fun A B e => by
    simp only [vL]
    rw [h.1.1 A B e, h.1.2 A B e, vL_ag r h.2 A B e]
theorem LZ_ag {tx : Nat → Nat} {E : Nat} : ∀ (m p : Nat) (L : List (Ex × Ex)), LZ tx E m p (.ok L) → agL L
  | 0, _, L, h => by
    rcases h with ⟨_, e⟩ | ⟨_, _, e⟩
    · cases e; trivial
    · cases e
  | m + 1, p, L, h => by
    rcases h.2 with ⟨f, _, e⟩ | ⟨p1, c, v, r1, h1, h2, e⟩
    · cases e
    · cases r1 with
      | error f => cases e
      | ok L1 =>
        cases e
        exact ⟨CZ_ag h1, LZ_ag m p1 L1 h2⟩
theorem LW_ag {tx : Nat → Nat} {E : Nat} {L : List (Ex × Ex)} (h : LW tx E (.ok L)) : agr (vL L) := by
  rcases h with ⟨f, _, e⟩ | ⟨p1, c, v, m, r1, h1, h2, e⟩
  · cases e
  · cases r1 with
    | error f => cases e
    | ok L1 =>
      cases e
      exact vL_ag _ ⟨CZ_ag h1, LZ_ag m p1 L1 h2⟩
def n64 (x : Nat) : Int64 := Int64.ofNat x
def keyN (k a b c d e f : Nat) : Nat := 10 * (10 * (12 * (10 * (10 * (100 * (1 + k) + a) + b) + c) + d) + e) + f
theorem i64_nI {a : Nat} (h : a < 2 ^ 31) : (nI a).toInt64 = n64 a := by
  refine Int64.toInt_inj.mp ?_
  rw [Int32.toInt_toInt64, nI_toInt h]
  unfold n64
  rw [Int64.toInt_ofNat_of_lt (by omega)]
theorem kS (m x : Nat) {a : Nat} (h : a < 2 ^ 31) : n64 m * n64 x + (nI a).toInt64 = n64 (m * x + a) := by
  rw [i64_nI h]
  unfold n64
  rw [Int64.ofNat_add, Int64.ofNat_mul]
theorem k1 {k : Nat} (h : k < 2 ^ 31) : (1 : Int64) + (nI k).toInt64 = n64 (1 + k) := by
  rw [i64_nI h]
  unfold n64
  rw [Int64.ofNat_add]
  rfl
theorem kR {x : Nat} (h : x < 2 ^ 31) : (n64 x - n64 x / 8191 * 8191).toInt32 = nI (x % 8191) := by
  have e1 : n64 x / 8191 = n64 (x / 8191) := by
    unfold n64
    rw [Int64.ofNat_div (by omega) (by decide)]
    rfl
  have e2 : n64 (x / 8191) * 8191 = n64 (x / 8191 * 8191) := by
    unfold n64
    rw [Int64.ofNat_mul]
    rfl
  rw [e1, e2]
  unfold n64
  rw [← Int64.ofNat_sub _ _ (Nat.div_mul_le_self x 8191), Int64.toInt32_ofNat']
  exact congrArg nI (by have := Nat.mod_add_div x 8191; omega)
theorem n64_in {x y : Nat} (hx : x < 2 ^ 31) (hy : y < 2 ^ 31) (h : n64 x = n64 y) : x = y := by
  have := congrArg Int64.toInt h
  unfold n64 at this
  rw [Int64.toInt_ofNat_of_lt (by omega), Int64.toInt_ofNat_of_lt (by omega)] at this
  omega
def MIx (Vs : Nat → Ex) (m : Nat) (s : am_S) (n : am_N) : Prop := ∃ K, K ≤ 4 ∧ m ≤ K ∧ s 39 7 = nI K ∧ (∀ i, i < 6 → bd (s 43 (asN i))) ∧ (∀ k, k < K → ∃ E tx L, E ≤ 240 ∧ s 42 k = nI E ∧ (∀ i, i < E → tx i < 256 ∧ s 41 (240 * k + i) = n8 (tx i)) ∧ LW tx E (.ok L) ∧ Vs k = vL L) ∧ ∀ sp, sp < 8191 → ∀ k a b c d e f, k < 4 → a < 100 → b < 10 → c < 10 → d < 12 → e < 10 → f < 10 → n.1 54 sp = n64 (keyN k a b c d e f) → k < K ∧ s 55 sp = Vs k (lets (nI a) (nI b) (nI c) (nI d) (nI e) (nI f))
theorem MIx_c {Vs : Nat → Ex} {m : Nat} : ∀ (s s' : am_S) (n n' : am_N), MIx Vs m s n → s' 41 = s 41 → s' 42 = s 42 → s' 55 = s 55 → s' 39 7 = s 39 7 → s' 43 = s 43 → n'.1 54 = n.1 54 → MIx Vs m s' n' := by
  intro s s' n n' h h1 h2 h3 h4 h6 h5
  unfold MIx
  rw [h1, h2, h3, h4, h5, h6]
  exact h
theorem upL_n {n : am_N} {k i j : Nat} {v : Int64} (h : j ≠ i) : (upL n k i v).1 k j = n.1 k j := by
  unfold upL
  simp only [Nat.beq_refl, cond_true]
  unfold vp_updL
  rw [if_neg h]
theorem aw_hG {l : Launch} {g : ag_G} {M N : ag_M} {R : Room} {Z : ag_Z} {pc index d k q0 ci b : Nat} {L : List (Option Value)} {s : am_S} {n : am_N} {A : Nat → Int32} {ws : va_W} {Ls : List (Ex × Ex)} {C : vw_C} {fs As rest st0 : List Value}
    (hd : m_at M pc = some (.invokevirtual index, 3)) (hw : aw_cV (m_y M).cls index N k) (hc : aw_cl[ci]? = some C) (hcn : C.1 = (m_y N).cls) (he : ws[q0]? = some (b, .inr (ci, fs)))
    (hM : aw_M l g N d 0 0 (.ref b :: As) ws (PH g s n A (.ok Ls))) (hk : As.length = k) (hst : st0 = As.reverse ++ .ref b :: rest) (hrest : (rest.map fun v => v.category).sum ≤ 8) (hf : d + 1 ≤ R.frames) (hlo : 8 + (m_n N + 11) + 100 * d ≤ R.locals) (h1 : 0 ≤ R.cells) (h2 : 0 ≤ R.slots)
    (kk : ∀ s', eo skG s s' → s' 39 11 = -1 → s' 39 14 = vL Ls A → aw_W l g M R Z 0 0 (hp g s' n) (pc + 3) L rest) : aw_W l g M R Z 0 0 ws pc L st0 :=
  aw_callV hd hw hc hcn he hM hk hst hrest hf hlo h1 h2 (by rintro r z ⟨rfl, s', rfl, h1, h2, h3⟩; exact kk s' h1 h2 h3)
def ltS (s : am_S) (a b c d e f : Int32) : am_S := up (up (up (up (up (up s 43 104 a) 43 119 b) 43 115 c) 43 109 d) 43 100 e) 43 107 f
theorem ltS_a {s : am_S} {a b c d e f : Int32} : ∀ i, i < 6 → ltS s a b c d e f 43 (asN i) = lets a b c d e f i := by
  intro i hi
  match i, hi with
  | 0, _ => rfl
  | 1, _ => rfl
  | 2, _ => rfl
  | 3, _ => rfl
  | 4, _ => rfl
  | 5, _ => rfl
theorem eo_ltS {s : am_S} {a b c d e f : Int32} : eo skM s (ltS s a b c d e f) := eo_up (fun _ => rfl) (eo_up (fun _ => rfl) (eo_up (fun _ => rfl) (eo_up (fun _ => rfl) (eo_up (fun _ => rfl) (eo_up (fun _ => rfl) eo_rf)))))
theorem lets_bd {a b c d e f : Nat} (ha : a < 100) (hb : b < 10) (hc : c < 10) (hd : d < 12) (he : e < 10) (hf : f < 10) : ∀ i, i < 6 → bd (lets (nI a) (nI b) (nI c) (nI d) (nI e) (nI f) i) := by
  intro i hi
  match i, hi with
  | 0, _ => exact bd_nI (by omega)
  | 1, _ => exact bd_nI (by omega)
  | 2, _ => exact bd_nI (by omega)
  | 3, _ => exact bd_nI (by omega)
  | 4, _ => exact bd_nI (by omega)
  | 5, _ => exact bd_nI (by omega)
set_option maxRecDepth 4000 in
theorem c_m_worthOf {l : Launch} {g : ag_G} {s : am_S} {n : am_N} (hx : aw_hx g) {Vs : Nat → Ex} {k m a b c d e f : Nat} (hm : k < m) (hlaw : s 39 34 = nI k) (hMI : MIx Vs m s n) (ha : a < 100) (hb : b < 10) (hc : c < 10) (hd : d < 12) (he : e < 10) (hf : f < 10) : aw_R l g mi_X12_worthOf 100 skM [.ref (g_ad g 39), .int (nI a), .int (nI b), .int (nI c), .int (nI d), .int (nI e), .int (nI f)] s n (MIx Vs m) (.int (Vs k (lets (nI a) (nI b) (nI c) (nI d) (nI e) (nI f)))) s := by
  have hMI0 := hMI
  obtain ⟨K, hK4, hmK, hKe, hlb, htexts, hmemo⟩ := hMI
  have hkK : k < K := by omega
  obtain ⟨E, tx, Ls, hE, hEe, htx, hLW, hVs⟩ := htexts k hkK
  have hKK : keyN k a b c d e f < 2 ^ 31 := by unfold keyN; omega
  have hsp : keyN k a b c d e f % 8191 < 8191 := Nat.mod_lt _ (by decide)
  obtain ⟨sp, hspe⟩ : ∃ sp, sp = keyN k a b c d e f % 8191 := ⟨_, rfl⟩
  rw [← hspe] at hsp
  refine aw_R_of mo_X12_worthOf (by decide) (Nat.le_of_ble_eq_true rfl) ?_
  refine aw_lconst (v := 1) rfl (by decide) ?_
  refine aw_aload_n rfl rfl ?_
  refine pg_39_34 rfl kl_X12_67 ?_
  refine aw_i2l rfl ?_
  refine aw_ladd rfl ?_
  rw [show (1 : Int64) + (s 39 34).toInt64 = n64 (1 + k) from by (rw [hlaw]; exact k1 (by omega))]
  refine aw_lstore rfl (by decide) ?_
  refine aw_ldc2 (v := 100) rfl (aw_t7 113 rfl rfl) ?_
  refine aw_lload rfl rfl ?_
  refine aw_lmul rfl ?_
  refine aw_iload_n rfl rfl ?_
  refine aw_i2l rfl ?_
  refine aw_ladd rfl ?_
  rw [show (100 : Int64) * n64 (1 + k) + (nI a).toInt64 = n64 (100 * (1 + k) + a) from kS 100 (1 + k) (by omega)]
  refine aw_lstore rfl (by decide) ?_
  refine aw_ldc2 (v := 10) rfl (aw_t7 114 rfl rfl) ?_
  refine aw_lload rfl rfl ?_
  refine aw_lmul rfl ?_
  refine aw_iload_n rfl rfl ?_
  refine aw_i2l rfl ?_
  refine aw_ladd rfl ?_
  rw [show (10 : Int64) * n64 (100 * (1 + k) + a) + (nI b).toInt64 = n64 (10 * (100 * (1 + k) + a) + b) from kS 10 (100 * (1 + k) + a) (by omega)]
  refine aw_lstore rfl (by decide) ?_
  refine aw_ldc2 (v := 10) rfl (aw_t7 114 rfl rfl) ?_
  refine aw_lload rfl rfl ?_
  refine aw_lmul rfl ?_
  refine aw_iload_n rfl rfl ?_
  refine aw_i2l rfl ?_
  refine aw_ladd rfl ?_
  rw [show (10 : Int64) * n64 (10 * (100 * (1 + k) + a) + b) + (nI c).toInt64 = n64 (10 * (10 * (100 * (1 + k) + a) + b) + c) from kS 10 (10 * (100 * (1 + k) + a) + b) (by omega)]
  refine aw_lstore rfl (by decide) ?_
  refine aw_ldc2 (v := 12) rfl (aw_t7 115 rfl rfl) ?_
  refine aw_lload rfl rfl ?_
  refine aw_lmul rfl ?_
  refine aw_iload rfl rfl ?_
  refine aw_i2l rfl ?_
  refine aw_ladd rfl ?_
  rw [show (12 : Int64) * n64 (10 * (10 * (100 * (1 + k) + a) + b) + c) + (nI d).toInt64 = n64 (12 * (10 * (10 * (100 * (1 + k) + a) + b) + c) + d) from kS 12 (10 * (10 * (100 * (1 + k) + a) + b) + c) (by omega)]
  refine aw_lstore rfl (by decide) ?_
  refine aw_ldc2 (v := 10) rfl (aw_t7 114 rfl rfl) ?_
  refine aw_lload rfl rfl ?_
  refine aw_lmul rfl ?_
  refine aw_iload rfl rfl ?_
  refine aw_i2l rfl ?_
  refine aw_ladd rfl ?_
  rw [show (10 : Int64) * n64 (12 * (10 * (10 * (100 * (1 + k) + a) + b) + c) + d) + (nI e).toInt64 = n64 (10 * (12 * (10 * (10 * (100 * (1 + k) + a) + b) + c) + d) + e) from kS 10 (12 * (10 * (10 * (100 * (1 + k) + a) + b) + c) + d) (by omega)]
  refine aw_lstore rfl (by decide) ?_
  refine aw_ldc2 (v := 10) rfl (aw_t7 114 rfl rfl) ?_
  refine aw_lload rfl rfl ?_
  refine aw_lmul rfl ?_
  refine aw_iload rfl rfl ?_
  refine aw_i2l rfl ?_
  refine aw_ladd rfl ?_
  rw [show (10 : Int64) * n64 (10 * (12 * (10 * (10 * (100 * (1 + k) + a) + b) + c) + d) + e) + (nI f).toInt64 = n64 (10 * (10 * (12 * (10 * (10 * (100 * (1 + k) + a) + b) + c) + d) + e) + f) from kS 10 (10 * (12 * (10 * (10 * (100 * (1 + k) + a) + b) + c) + d) + e) (by omega)]
  refine aw_lstore rfl (by decide) ?_
  refine aw_lload rfl rfl ?_
  refine aw_ldc2 (v := 8191) rfl (aw_t7 116 rfl rfl) ?_
  refine aw_lrem rfl (by decide) ?_
  refine aw_l2i rfl ?_
  rw [show (n64 (10 * (10 * (12 * (10 * (10 * (100 * (1 + k) + a) + b) + c) + d) + e) + f) - n64 (10 * (10 * (12 * (10 * (10 * (100 * (1 + k) + a) + b) + c) + d) + e) + f) / 8191 * 8191).toInt32 = nI sp from by (rw [hspe]; exact kR hKK)]
  refine aw_istore rfl (by decide) ?_
  refine aw_aload_n rfl rfl ?_
  refine pg_39_36 rfl kl_X12_71 ?_
  refine aw_iload rfl rfl ?_
  refine pl_54 rfl rfl hsp ?_
  refine aw_lload rfl rfl ?_
  refine aw_lcmp rfl ?_
  refine aw_if_ne (tgt := 108) rfl (by decide) (fun h97 => ?_) (fun h97 => ?_)
  · have hne : ¬ n.1 54 sp = n64 (keyN k a b c d e f) := fun z => h97 ((lg_cmp_eq _ _).mpr z)
    refine aw_aload_n rfl rfl ?_
    refine pg_39_4 rfl kl_X12_20 ?_
    refine aw_bipush (v := 104) rfl (by decide) ?_
    refine aw_iload_n rfl rfl ?_
    refine ps_43 (j := 104) rfl rfl (by decide) ?_
    refine aw_aload_n rfl rfl ?_
    refine pg_39_4 rfl kl_X12_20 ?_
    refine aw_bipush (v := 119) rfl (by decide) ?_
    refine aw_iload_n rfl rfl ?_
    refine ps_43 (j := 119) rfl rfl (by decide) ?_
    refine aw_aload_n rfl rfl ?_
    refine pg_39_4 rfl kl_X12_20 ?_
    refine aw_bipush (v := 115) rfl (by decide) ?_
    refine aw_iload_n rfl rfl ?_
    refine ps_43 (j := 115) rfl rfl (by decide) ?_
    refine aw_aload_n rfl rfl ?_
    refine pg_39_4 rfl kl_X12_20 ?_
    refine aw_bipush (v := 109) rfl (by decide) ?_
    refine aw_iload rfl rfl ?_
    refine ps_43 (j := 109) rfl rfl (by decide) ?_
    refine aw_aload_n rfl rfl ?_
    refine pg_39_4 rfl kl_X12_20 ?_
    refine aw_bipush (v := 100) rfl (by decide) ?_
    refine aw_iload rfl rfl ?_
    refine ps_43 (j := 100) rfl rfl (by decide) ?_
    refine aw_aload_n rfl rfl ?_
    refine pg_39_4 rfl kl_X12_20 ?_
    refine aw_bipush (v := 107) rfl (by decide) ?_
    refine aw_iload rfl rfl ?_
    refine ps_43 (j := 107) rfl rfl (by decide) ?_
    refine aw_eqs (ws' := hp g (ltS s (nI a) (nI b) (nI c) (nI d) (nI e) (nI f)) n) ?_ rfl rfl rfl
    refine aw_aload_n rfl rfl ?_
    refine aw_aload_n rfl rfl ?_
    refine pg_39_2 rfl kl_X12_13 ?_
    refine aw_sipush (v := 240) rfl (by decide) ?_
    refine aw_aload_n rfl rfl ?_
    refine pg_39_34 rfl kl_X12_67 ?_
    refine aw_imul rfl ?_
    refine aw_aload_n rfl rfl ?_
    refine pg_39_3 rfl kl_X12_16 ?_
    refine aw_aload_n rfl rfl ?_
    refine pg_39_34 rfl kl_X12_67 ?_
    refine pl_42 rfl hlaw (by omega) ?_
    refine aw_hG (q0 := 39) (ci := 12) rfl cw_X12_277 rfl rfl rfl ((show aw_M l g mi_X12_goThrough 31 0 0 [.ref (g_ad g 39), .ref (g_ad g 41), .int (240 * s 39 34), .int (s 42 k)] (hp g (ltS s (nI a) (nI b) (nI c) (nI d) (nI e) (nI f)) n) (PH g (ltS s (nI a) (nI b) (nI c) (nI d) (nI e) (nI f)) (upT n 41) (lets (nI a) (nI b) (nI c) (nI d) (nI e) (nI f)) (.ok Ls)) from by (rw [hlaw, hEe, show (240 : Int32) * nI k = nI (240 * k) from pk_mul 240 k]; exact c_m_goThrough_41 hx ltS_a (lets_bd ha hb hc hd he hf) hE (by omega) htx hLW))) rfl rfl (Nat.le_of_ble_eq_true rfl) (by decide) (by decide) (by decide) (by decide) (fun s3 e3 e11 e14 => ?_)
    rw [show Vs k (lets (nI a) (nI b) (nI c) (nI d) (nI e) (nI f)) = s3 39 14 from by (rw [e14, hVs])]
    refine aw_aload_n rfl rfl ?_
    refine pg_39_36 rfl kl_X12_71 ?_
    refine aw_iload rfl rfl ?_
    refine aw_lload rfl rfl ?_
    refine ps_54 rfl rfl hsp ?_
    refine aw_aload_n rfl rfl ?_
    refine pg_39_37 rfl kl_X12_75 ?_
    refine aw_iload rfl rfl ?_
    refine aw_aload_n rfl rfl ?_
    refine pg_39_14 rfl kl_X12_204 ?_
    refine ps_55 rfl rfl hsp ?_
    refine aw_aload_n rfl rfl ?_
    refine pg_39_14 rfl kl_X12_204 ?_
    refine aw_ri rfl rfl rfl (eo_up (fun _ => rfl) (eo_tr eo_ltS (eo_GM e3))) ⟨fun q hq => ?_, rfl, rfl⟩ ?_
    · show (upL (upT n 41) 54 sp _).1 q = n.1 q
      unfold upL
      simp only [hq]
      rfl
    · refine ⟨K, hK4, hmK, (e3 39 7 rfl).trans hKe, fun i hi => (by rw [show up s3 55 sp (s3 39 14) 43 (asN i) = s3 43 (asN i) from rfl, e3 43 _ rfl, ltS_a i hi]; exact lets_bd ha hb hc hd he hf i hi), ?_, ?_⟩
      · intro k' hk'
        obtain ⟨E', tx', L', h1, h2, h3, h4⟩ := htexts k' hk'
        exact ⟨E', tx', L', h1, (e3 42 k' rfl).trans h2, fun i hi => ⟨(h3 i hi).1, (e3 41 _ rfl).trans (h3 i hi).2⟩, h4⟩
      · intro sp' hsp' k' a' b' c' d' e' f' g1 g2 g3 g4 g5 g6 g7 hkey
        by_cases hs : sp' = sp
        · subst hs
          have hkey2 : n64 (keyN k a b c d e f) = n64 (keyN k' a' b' c' d' e' f') := by
            rw [← hkey]
            exact upL_s.symm
          have hin := n64_in hKK (by unfold keyN; omega) hkey2
          unfold keyN at hin
          have : k' = k ∧ a' = a ∧ b' = b ∧ c' = c ∧ d' = d ∧ e' = e ∧ f' = f := by omega
          obtain ⟨rfl, rfl, rfl, rfl, rfl, rfl, rfl⟩ := this
          refine ⟨hkK, ?_⟩
          rw [up_s, if_pos rfl]
          rw [e14, hVs]
        · have hkey2 : n.1 54 sp' = n64 (keyN k' a' b' c' d' e' f') := by
            rw [← hkey]
            exact (upL_n hs).symm
          have := hmemo sp' hsp' k' a' b' c' d' e' f' g1 g2 g3 g4 g5 g6 g7 hkey2
          refine ⟨this.1, ?_⟩
          rw [up_s, if_neg hs, ← this.2]
          exact e3 55 sp' rfl
  · refine aw_aload_n rfl rfl ?_
    refine pg_39_37 rfl kl_X12_75 ?_
    refine aw_iload rfl rfl ?_
    refine pl_55 rfl rfl hsp ?_
    exact aw_ri rfl rfl ((hmemo sp hsp k a b c d e f (by omega) ha hb hc hd he hf ((lg_cmp_eq _ _).mp h97)).2) eo_rf en_rf hMI0
theorem LM_law {l : Launch} {g : ag_G} (hx : aw_hx g) {Vs : Nat → Ex} {k : Nat} (hk : k < 4) (hag : agr (Vs k)) : LM l g (MIx Vs (k + 1)) (Vs k) (nI k) := by
  refine ⟨fun h => absurd h (nI_nm1 (by omega)), fun _ s n hs hm a b c d e f ha hb hc hd he hf => c_m_worthOf hx (by omega) hs hm ha hb hc hd he hf, MIx_c, hag⟩
theorem LM_no {l : Launch} {g : ag_G} {Vs : Nat → Ex} : LM l g (MIx Vs 0) (fun A => A 0 + 2 * A 1 - A 2) (-1) := by
  refine ⟨fun _ _ => rfl, fun h => absurd rfl h, MIx_c, fun A B h => ?_⟩
  show A 0 + 2 * A 1 - A 2 = B 0 + 2 * B 1 - B 2
  rw [h 0 (by decide), h 1 (by decide), h 2 (by decide)]
