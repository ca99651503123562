/-! the month on both sides: the row behind it, the log -/
def LG (ring h : Nat → Int32) (tm : Nat) : Prop := ∀ e x, e < min 60 tm → x < 3 → h (37 + 3 * e + x) = ring ((tm - min 60 tm + e) % 128 * 3 + x)
def wrR (ring : Nat → Int32) (m : Nat) (a b c : Int32) : Nat → Int32 := upd (upd (upd ring (m % 128 * 3) a) (m % 128 * 3 + 1) b) (m % 128 * 3 + 2) c
theorem wrR_n {ring : Nat → Int32} {m u x : Nat} {a b c : Int32} (hu : u % 128 ≠ m % 128) (hx : x < 3) : wrR ring m a b c (u % 128 * 3 + x) = ring (u % 128 * 3 + x) := by
  unfold wrR
  rw [upd_n (by omega), upd_n (by omega), upd_n (by omega)]
theorem LG_keep {ring h : Nat → Int32} {tm t : Nat} {a b c : Int32} (h1 : LG ring h t) (ht : t ≤ tm) (ht2 : tm ≤ t + 60) : LG (wrR ring tm a b c) h t := by
  intro e x he hx
  rw [h1 e x he hx, wrR_n (by omega) hx]
theorem LG_eq {ring h h' : Nat → Int32} {t : Nat} (h1 : LG ring h t) (e : ∀ j, 35 ≤ j → h' j = h j) : LG ring h' t := by
  intro q x hq hx
  rw [e _ (by omega)]
  exact h1 q x hq hx
theorem RW_hi {f h h' : Nat → Int32} {T Q : Nat} (hT : T ≤ 7) (hQ : Q ≤ 5) (hw : RW f h T Q) (e : ∀ j, j < 36 → h' j = h j) : RW f h' T Q := by
  obtain ⟨⟨a, b, c, d, e0⟩, h1, h2⟩ := hw
  exact ⟨⟨by rw [e 31 (by decide)]; exact a, by rw [e 32 (by decide)]; exact b, by rw [e 33 (by decide)]; exact c, by rw [e 34 (by decide)]; exact d, by rw [e 35 (by decide)]; exact e0⟩, fun j hj => by rw [e _ (by omega), e _ (by omega), e _ (by omega)]; exact h1 j hj, fun r hr => by rw [e _ (by omega), e _ (by omega)]; exact h2 r hr⟩
theorem gE_lo {f : Nat → Int32} {wm me : Int32} {G j : Nat} (hj : j < 36) : gE f wm me G j = f j := by
  unfold gE
  rw [upd_n (by omega), upd_n (by omega), upd_n (by omega), upd_n (by omega)]
theorem gG_lo {f : Nat → Int32} {wm me : Int32} {G j : Nat} (hj : j < 36) : gG f wm me G j = f j := by
  unfold gG
  split
  · rw [gE_lo hj, upd_n (by omega), pk_cpy_out (Or.inl (by omega))]
  · exact gE_lo hj
theorem gG_log {f ring : Nat → Int32} {wm me : Int32} {tm : Nat} (h : ∀ e x, e < min 60 tm → x < 3 → f (37 + 3 * e + x) = ring ((tm - min 60 tm + e) % 128 * 3 + x)) : LG (wrR ring tm wm me (f 33)) (gG f wm me (min 60 tm)) (tm + 1) := by
  intro e x he hx
  have hnew : ∀ (F : Nat → Int32) (G : Nat), F 33 = f 33 → gE F wm me G (37 + 3 * G + x) = wrR ring tm wm me (f 33) (tm % 128 * 3 + x) := by
    intro F G hF
    unfold gE wrR
    have : x = 0 ∨ x = 1 ∨ x = 2 := by omega
    rcases this with rfl | rfl | rfl
    · simp only [Nat.add_zero]
      rw [upd_n (by omega), upd_n (by omega), upd_n (by omega), upd_s, upd_n (by omega), upd_n (by omega), upd_s]
    · rw [upd_n (by omega), upd_n (by omega), upd_s, upd_n (by omega), upd_s]
    · rw [upd_n (by omega), upd_s, upd_s, hF]
  unfold gG
  by_cases h60 : min 60 tm = 60
  · rw [if_pos h60]
    have hm : min 60 (tm + 1) = 60 := by omega
    rw [hm]
    by_cases he2 : e = 59
    · subst he2
      rw [hnew _ 59 (by rw [upd_n (by decide), pk_cpy_out (Or.inl (by decide))])]
      rw [show tm + 1 - 60 + 59 = tm by omega]
    · unfold gE
      rw [upd_n (by omega), upd_n (by omega), upd_n (by omega), upd_n (by omega), upd_n (by omega), pk_cpy_in (by omega) (by omega)]
      rw [show 40 + (37 + 3 * e + x - 37) = 37 + 3 * (e + 1) + x by omega, h (e + 1) x (by omega) hx, h60, show tm - 60 + (e + 1) = tm + 1 - 60 + e by omega, wrR_n (by omega) hx]
  · rw [if_neg h60]
    have hm : min 60 tm = tm := by omega
    have hm2 : min 60 (tm + 1) = tm + 1 := by omega
    rw [hm2, show tm + 1 - (tm + 1) + e = e by omega, hm]
    by_cases he2 : e = tm
    · subst he2
      exact hnew f e rfl
    · unfold gE
      rw [upd_n (by omega), upd_n (by omega), upd_n (by omega), upd_n (by omega), h e x (by omega) hx, hm, show tm - tm + e = e by omega, wrR_n (by omega) hx]
theorem rl_month {V : (Nat → Int32) → Int32} {sc sm : am_S} {f h : Nat → Int32} {T Q tm G : Nat} (hS : SR sc sm T Q) (hw : RW f h T Q) (hb : RB h T Q) (h0 : 0 < sc 15 6) (ht : h 35 = nI tm) (ht9 : tm < 9999) (hG : G ≤ 60) : (kMonth V sc T f).1 = (goM V sm T Q G h).1 ∧ (∃ m, m < 128 ∧ (kMonth V sc T f).1 = nI m) ∧ RW (kMonth V sc T f).2 (goM V sm T Q G h).2 T Q ∧ RB (goM V sm T Q G h).2 T Q ∧ (goM V sm T Q G h).2 35 = nI (tm + 1) ∧ (∃ G', G' ≤ 60 ∧ (goM V sm T Q G h).2 36 = nI G') ∧ (G = min 60 tm → (goM V sm T Q G h).2 36 = nI (min 60 (tm + 1)) ∧ ∀ ring, LG ring h tm → LG (wrR ring tm (warm (f 1) (f 4)) (kMonth V sc T f).1 ((kMonth V sc T f).2 2)) (goM V sm T Q G h).2 (tm + 1)) := by
  have hT := hS.1.2.1
  have hQ := hS.1.2.2.2.1
  have hm := rl_melt (V := V) hS hw hb T (Nat.le_refl _)
  have h4 : f 4 < 9999 := by rw [hw.1.2.2.2.2, ht]; exact nI_lt (b := 9999) ht9 (by decide)
  have hk : kMonth V sc T f = kPass V sc T f := by unfold kMonth; rw [if_pos h0, if_pos h4]
  rw [hk]
  have hgm := gm_msk (V := V) (sm := sm) (h := h) hT
  have hrI := rI_goM (V := V) (s := sm) (f := h) (T := T) (Q := Q) (G := G) hT hQ hb.1 hG (by rw [ht]; intro e; have := (nI_eq (a := tm) (b := 9999) (by omega) (by decide)).mp e; omega)
  have h35 := goM_35 (V := V) (s := sm) (f := h) (T := T) (Q := Q) (G := G) hT
  unfold kPass kPA
  unfold goM at hrI h35 ⊢
  rw [hgm] at hrI h35 ⊢
  have hF : ∀ j, j ≠ 33 → 21 ≤ j → fd (gF (sm 46) (bt Q - 1) (nI (msk (mlP V sm h) T))) 0 T h j = h j := fun j h1 h2 => fd_gF h1 h2 T 0 h (by omega)
  generalize hFe : fd (gF (sm 46) (bt Q - 1) (nI (msk (mlP V sm h) T))) 0 T h = F at hm hF hrI h35 ⊢
  generalize hz : fd (kPF V sc (warm (f 1) (f 4)) ((1 <<< (sc 15 7 &&& 31)) - 1)) 0 T (0, f) = z at hm ⊢
  obtain ⟨hm1, hm2⟩ := hm
  dsimp only at hrI h35 ⊢
  have hwm : warm (f 1) (f 4) = warm (h 32) (h 35) := by rw [hw.1.2.1, hw.1.2.2.2.2]
  have hlt : msk (mlP V sm h) T < 128 := Nat.lt_of_lt_of_le (msk_lt _ T hT) (Nat.pow_le_pow_right (by decide) hT)
  have hRW2 : RW (upd (upd z.2 0 (mn 999 (z.2 0 + sc 15 8))) 4 (z.2 4 + 1)) (gT F (sm 44 2)) T Q := by
    unfold gT
    rw [hm2.1.1, hm2.1.2.2.2.2, hS.2.2.2.2.1]
    exact RW_up hT hQ (RW_up hT hQ hm2 (Or.inl ⟨rfl, rfl⟩)) (Or.inr (Or.inr (Or.inr (Or.inr (Or.inl ⟨rfl, rfl⟩)))))
  refine ⟨hm1, ⟨_, hlt, hm1⟩, RW_hi hT hQ hRW2 (fun j hj => gG_lo hj), ?_, by rw [h35, ht]; exact nI_1 tm, hrI.2, fun hGe => ⟨?_, fun ring hl => ?_⟩⟩
  · obtain ⟨-, ⟨e, he, hee⟩, ⟨x, hx, hxe⟩⟩ := hb
    obtain ⟨b, hb9, hbe⟩ := hS.2.2.2.2.2
    refine ⟨hrI.1, ⟨e, he, ?_⟩, ⟨min 999 (x + b), by omega, ?_⟩⟩
    · rw [gG_lo (by decide)]
      unfold gT
      rw [upd_n (by decide), upd_n (by decide), hF 32 (by decide) (by decide)]
      exact hee
    · rw [gG_lo (by decide)]
      unfold gT
      rw [upd_n (by decide), upd_s, hF 31 (by decide) (by decide), hxe, hbe, nI_add]
      exact mn_nI (a := 999) (by decide) (by omega)
  · unfold gG
    by_cases h60 : G = 60
    · rw [if_pos h60]
      unfold gE
      rw [upd_s, show min 60 (tm + 1) = 59 + 1 by omega]
    · rw [if_neg h60]
      unfold gE
      rw [upd_s, show min 60 (tm + 1) = G + 1 by omega]
  · have e2 : upd (upd z.2 0 (mn 999 (z.2 0 + sc 15 8))) 4 (z.2 4 + 1) 2 = gT F (sm 44 2) 33 := hRW2.1.2.2.1
    rw [e2, hm1, hwm, hGe]
    refine gG_log (fun q x hq hx => ?_)
    unfold gT
    rw [upd_n (by omega), upd_n (by omega), hF _ (by omega) (by omega)]
    exact hl q x hq hx
