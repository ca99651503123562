/-! what a law's reader gives: forms and numbers -/
def bd (x : Int32) : Prop := -1000000 ≤ x.toInt ∧ x.toInt ≤ 1000000
def bb (x : Int32) : Prop := x = 0 ∨ x = 1
theorem lt64 {x : Int64} : x < 1000000 ↔ x.toInt < 1000000 := Int64.lt_iff_toInt_lt
theorem lt64n {x : Int64} : x < -1000000 ↔ x.toInt < -1000000 := Int64.lt_iff_toInt_lt
theorem wi_bd (x : Int64) : bd (wi x) := by
  unfold wi
  by_cases h1 : x < 1000000
  · rw [if_pos h1]
    by_cases h2 : x < -1000000
    · rw [if_pos h2]; exact ⟨by decide, by decide⟩
    · rw [if_neg h2]
      rw [lt64] at h1
      rw [lt64n] at h2
      unfold bd
      rw [Int64.toInt_toInt32, Int.bmod_eq_of_le (by omega) (by omega)]
      omega
  · rw [if_neg h1, if_neg (by decide)]; exact ⟨by decide, by decide⟩
theorem wi_id {x : Int32} (h : bd x) : wi x.toInt64 = x := by
  unfold wi
  by_cases h1 : x.toInt64 < 1000000
  · rw [if_pos h1, if_neg (by rw [lt64n, Int32.toInt_toInt64]; have := h.1; omega), Int32.toInt32_toInt64]
  · rw [if_neg h1, if_neg (by decide)]
    rw [lt64, Int32.toInt_toInt64] at h1
    have : x.toInt = 1000000 := by have := h.2; omega
    exact Int32.toInt_inj.mp (by rw [this]; rfl)
theorem bd_ne {v : Int32} (h : bd v) : v ≠ Int32.minValue := by
  intro e
  rw [e] at h
  exact absurd h.1 (by decide)
theorem bd_div {v a : Int32} (h : bd v) : bd (v / a) := by
  unfold bd
  rw [Int32.toInt_div_of_ne_left v a (bd_ne h)]
  have := Int.natAbs_tdiv_le_natAbs v.toInt a.toInt
  have h1 := h.1
  have h2 := h.2
  omega
theorem wi_div {v a : Int32} (h : bd v) : wi (v.toInt64 / a.toInt64) = v / a := by
  rw [← Int32.toInt64_div_of_ne_left v a (bd_ne h)]
  exact wi_id (bd_div h)
theorem lgc_0 {x : Int32} : lg_cmp x.toInt64 0 = 0 ↔ x = 0 := by
  unfold lg_cmp
  constructor
  · intro h
    by_cases h1 : x.toInt64 > 0
    · rw [if_pos h1] at h; exact absurd h (by decide)
    · rw [if_neg h1] at h
      by_cases h2 : x.toInt64 = 0
      · have := congrArg Int64.toInt h2
        rw [Int32.toInt_toInt64] at this
        exact Int32.toInt_inj.mp this
      · rw [if_neg h2] at h; exact absurd h (by decide)
  · rintro rfl
    decide
theorem bd_nI {k : Nat} (h : k ≤ 1000000) : bd (nI k) := by
  unfold bd
  rw [nI_toInt (by omega)]
  omega
theorem bd_div0 {v a : Int32} (h : bd v) : bd (if a = 0 then 0 else v / a) := by
  split
  · exact ⟨by decide, by decide⟩
  · exact bd_div h
theorem bb_not {x : Int32} (h : bb x) : bb (1 - x) ∧ (x = 0 → 1 - x = 1) ∧ (¬ x = 0 → 1 - x = 0) := by
  rcases h with rfl | rfl
  · exact ⟨Or.inr rfl, fun _ => rfl, fun h => absurd rfl h⟩
  · exact ⟨Or.inl rfl, fun h => absurd h (by decide), fun _ => rfl⟩
theorem bb_and {x y : Int32} (h : bb x) (h2 : bb y) : bb (x &&& y) ∧ (x = 0 → x &&& y = 0) ∧ (y = 0 → x &&& y = 0) ∧ (¬ x = 0 → ¬ y = 0 → x &&& y = 1) := by
  rcases h with rfl | rfl <;> rcases h2 with rfl | rfl <;> exact ⟨by unfold bb; decide, by decide, by decide, by decide⟩
theorem bb_or {x y : Int32} (h : bb x) (h2 : bb y) : bb (x ||| y) ∧ (¬ x = 0 → x ||| y = 1) ∧ (¬ y = 0 → x ||| y = 1) ∧ (x = 0 → y = 0 → x ||| y = 0) := by
  rcases h with rfl | rfl <;> rcases h2 with rfl | rfl <;> exact ⟨by unfold bb; decide, by decide, by decide, by decide⟩
theorem nI_nm1 {f : Nat} (h : f ≤ 240) : ¬ nI f = (-1 : Int32) := by
  intro e
  have := congrArg Int32.toInt e
  rw [nI_toInt (by omega)] at this
  have h1 : (-1 : Int32).toInt = -1 := by decide
  omega
def asN (i : Nat) : Nat := [104, 119, 115, 109, 100, 107].getD i 0
theorem asN_c : ∀ i, i < 6 → xch 4 i = nI (asN i) ∧ asN i < 128 := by decide +kernel
theorem fs_some {P : Nat → Bool} : ∀ (d i q : Nat), fs P i d = some q → q < i + d ∧ P q = true
  | 0, _, _, h => by cases h
  | d + 1, i, q, h => by
    simp only [fs] at h
    split at h
    · rename_i hp
      cases h
      exact ⟨by omega, hp⟩
    · have := fs_some d (i + 1) q h
      exact ⟨by omega, this.2⟩
theorem xsp4 {c : Int32} {i : Nat} (h : xsp 4 c = some i) : i < 6 ∧ c = nI (asN i) ∧ asN i < 128 := by
  unfold xsp at h
  have h1 := fs_some _ _ _ h
  have h2 : i < 6 := by have : xLen.getD 4 0 = 6 := rfl; omega
  have h3 := asN_c i h2
  exact ⟨h2, (of_decide_eq_true h1.2).symm.trans h3.1, h3.2⟩
theorem pst_in {s : am_S} {p w : Nat} {f : Int32} : up (pst s p w f) 39 10 (nI p + 1) = pst s (p + 1) w f := by rw [nI_1, pst_10]
theorem pst_out {s : am_S} {p w : Nat} {f : Int32} : up (pst s p (w + 1) f) 39 12 (nI (w + 1) - 1) = pst s p w f := by
  rw [nI_m1 (by omega), Nat.add_sub_cancel, pst_12]
def pfl (s : am_S) (p : Nat) (d : Int32) (f : Nat) : am_S := up (up (up s 39 10 (nI p)) 39 12 d) 39 11 (nI f)
theorem pfl_12 {s : am_S} {p f : Nat} {d x : Int32} : up (pfl s p d f) 39 12 x = pfl s p x f := by
  unfold pfl
  rw [up_cs (by decide), up_up]
theorem c_m_lookI {l : Launch} {g : ag_G} {s : am_S} {n : am_N} {B b E p w : Nat} {tx : Nat → Nat} {f : Int32} (hT : TX s n B b E tx) (hp1 : p ≤ E) : aw_F l g mi_X12_look 0 [.ref (g_ad g 39)] (hp g (pst s (skw tx E p) w f) n) (.int (cst tx E p)) (hp g (pst s (skw tx E p) w f) n) := by
  have z := c_m_look (l := l) (g := g) (w := w) (f := f) hT (skw_b (tx := tx) hp1).2.1
  rw [skw_sk hp1] at z
  exact z
theorem c_m_lookC {l : Launch} {g : ag_G} {s : am_S} {n : am_N} {B b E p w : Nat} {tx : Nat → Nat} {f : Int32} (hT : TX s n B b E tx) (hp1 : p ≤ E) : aw_F l g mi_X12_look 0 [.ref (g_ad g 39)] (hp g (pst s p w f) n) (.int (cst tx E p)) (hp g (pst s (skw tx E p) w f) n) := c_m_look hT hp1
theorem c_m_failsF {l : Launch} {g : ag_G} {s : am_S} {n : am_N} {p f : Nat} {d : Int32} (hf : ¬ nI f = (-1 : Int32)) : aw_F l g mi_X12_fails 0 [.ref (g_ad g 39)] (hp g (pfl s p d f) n) (.int 0) (hp g (pfl s p d f) n) := by
  refine aw_F_of mo_X12_fails (by decide) (Nat.le_of_ble_eq_true rfl) ?_
  refine aw_aload_n rfl rfl ?_
  refine pg_39_11 rfl kl_X12_128 ?_
  refine aw_iconst (v := -1) rfl (by decide) ?_
  refine aw_icmp_ne (tgt := 16) rfl (by decide) (fun h5 => ?_) (fun h5 => absurd h5 (hf))
  refine aw_iconst (v := 0) rfl (by decide) ?_
  exact aw_fz rfl rfl (Or.inl rfl) rfl rfl
theorem c_m_takesF {l : Launch} {g : ag_G} {s : am_S} {n : am_N} {p f : Nat} {d c : Int32} (hf : ¬ nI f = (-1 : Int32)) : aw_F l g mi_X12_takes 1 [.ref (g_ad g 39), .int c] (hp g (pfl s p d f) n) (.int 0) (hp g (pfl s p d f) n) := by
  refine aw_F_of mo_X12_takes (by decide) (Nat.le_of_ble_eq_true rfl) ?_
  refine aw_aload_n rfl rfl ?_
  refine pg_39_11 rfl kl_X12_128 ?_
  refine aw_iconst (v := -1) rfl (by decide) ?_
  refine aw_icmp_ne (tgt := 16) rfl (by decide) (fun h5 => ?_) (fun h5 => absurd h5 (hf))
  refine aw_aload_n rfl rfl ?_
  refine aw_iV (q0 := 39) (ci := 12) rfl cw_X12_134 rfl rfl rfl (c_m_failsF hf) rfl rfl (Nat.le_of_ble_eq_true rfl) (by decide) (by decide) (by decide) (by decide) ?_
  exact aw_fz rfl rfl (Or.inl rfl) rfl rfl
def bbd (bl : Bool) (x : Int32) : Prop := if bl = true then bb x else bd x
def PK (g : ag_G) (s : am_S) (n : am_N) (A : Nat → Int32) (bl : Bool) (w p : Nat) (e : Ex) : Option Value → va_W → Prop := fun r z => r = some (.int (e A)) ∧ z = hp g (pst s p w (-1)) n ∧ bbd bl (e A)
def PN (g : ag_G) (s : am_S) (n : am_N) (bl : Bool) (f : Nat) : Option Value → va_W → Prop := fun r z => ∃ x p d, r = some (.int x) ∧ z = hp g (pfl s p d f) n ∧ (bl = true → bb x)
def PO (g : ag_G) (s : am_S) (n : am_N) (A : Nat → Int32) (bl : Bool) (w : Nat) : Rs → Option Value → va_W → Prop
  | .ok z => PK g s n A bl w z.1 z.2
  | .error f => PN g s n bl f
section AwPz
variable {l : Launch} {g : ag_G} {M : ag_M} {R : Room} {Z : ag_Z} {pc : Nat} {L : List (Option Value)} {st : List Value} {s : am_S} {n : am_N} {A : Nat → Int32} {bl : Bool} {ws : va_W}
theorem aw_pK {N : ag_M} {index d k q0 ci b w p' : Nat} {e : Ex} {C : vw_C} {fs As rest st0 : List Value}
    (hd : m_at M pc = some (.invokevirtual index, 3)) (hw : aw_cV (m_y M).cls index N k) (hc : aw_cl[ci]? = some C) (hcn : C.1 = (m_y N).cls) (he : ws[q0]? = some (b, .inr (ci, fs)))
    (hM : aw_M l g N d 0 0 (.ref b :: As) ws (PO g s n A bl w (rOk p' e))) (hk : As.length = k) (hst : st0 = As.reverse ++ .ref b :: rest) (hrest : (rest.map fun v => v.category).sum ≤ 8) (hf : d + 1 ≤ R.frames) (hlo : 8 + (m_n N + 11) + 100 * d ≤ R.locals) (h1 : 0 ≤ R.cells) (h2 : 0 ≤ R.slots)
    (kk : bbd bl (e A) → aw_W l g M R Z 0 0 (hp g (pst s p' w (-1)) n) (pc + 3) L (.int (e A) :: rest)) : aw_W l g M R Z 0 0 ws pc L st0 :=
  aw_callV hd hw hc hcn he hM hk hst hrest hf hlo h1 h2 (by rintro r z ⟨rfl, rfl, hb⟩; exact kk hb)
theorem aw_pN {N : ag_M} {index d k q0 ci b w f : Nat} {C : vw_C} {fs As rest st0 : List Value}
    (hd : m_at M pc = some (.invokevirtual index, 3)) (hw : aw_cV (m_y M).cls index N k) (hc : aw_cl[ci]? = some C) (hcn : C.1 = (m_y N).cls) (he : ws[q0]? = some (b, .inr (ci, fs)))
    (hM : aw_M l g N d 0 0 (.ref b :: As) ws (PO g s n A bl w (rNo f))) (hk : As.length = k) (hst : st0 = As.reverse ++ .ref b :: rest) (hrest : (rest.map fun v => v.category).sum ≤ 8) (hf : d + 1 ≤ R.frames) (hlo : 8 + (m_n N + 11) + 100 * d ≤ R.locals) (h1 : 0 ≤ R.cells) (h2 : 0 ≤ R.slots)
    (kk : ∀ x p' d', (bl = true → bb x) → aw_W l g M R Z 0 0 (hp g (pfl s p' d' f) n) (pc + 3) L (.int x :: rest)) : aw_W l g M R Z 0 0 ws pc L st0 :=
  aw_callV hd hw hc hcn he hM hk hst hrest hf hlo h1 h2 (by rintro r z ⟨x, p', d', rfl, rfl, hb⟩; exact kk x p' d' hb)
theorem aw_kI {v : Int32} {w p : Nat} {e : Ex} (hd : m_at M pc = some (.ireturn, 1)) (hr : m_r M = some .int) (hv : v = e A) (hb : bd (e A)) (hw : ws = hp g (pst s p w (-1)) n) : aw_W l g M R (aw_Z g (PO g s n A false w (rOk p e)) 0 0) 0 0 ws pc L [.int v] := aw_iret hd hr ⟨by rw [hv], hw, hb⟩
theorem aw_kZ {v : Int32} {w p : Nat} {e : Ex} (hd : m_at M pc = some (.ireturn, 1)) (hr : m_r M = some .boolean) (hv : v = e A) (hb : bb (e A)) (hw : ws = hp g (pst s p w (-1)) n) : aw_W l g M R (aw_Z g (PO g s n A true w (rOk p e)) 0 0) 0 0 ws pc L [.int v] := aw_zret hd hr (by rw [hv]; exact hb) ⟨by rw [hv], hw, hb⟩
theorem aw_nI {v : Int32} {w p f : Nat} {d : Int32} (hd : m_at M pc = some (.ireturn, 1)) (hr : m_r M = some .int) (hw : ws = hp g (pfl s p d f) n) : aw_W l g M R (aw_Z g (PO g s n A false w (rNo f)) 0 0) 0 0 ws pc L [.int v] := aw_iret hd hr ⟨v, p, d, rfl, hw, fun h => absurd h Bool.false_ne_true⟩
theorem aw_nZ {v : Int32} {w p f : Nat} {d : Int32} (hd : m_at M pc = some (.ireturn, 1)) (hr : m_r M = some .boolean) (hb : bb v) (hw : ws = hp g (pfl s p d f) n) : aw_W l g M R (aw_Z g (PO g s n A true w (rNo f)) 0 0) 0 0 ws pc L [.int v] := aw_zret hd hr hb ⟨v, p, d, rfl, hw, fun _ => hb⟩
end AwPz
