theorem eo_cp {K : Nat → Nat → Bool} {s s1 : am_S} {k k' a b c : Nat} (h : eo K s s1) (h1 : ∀ j, K k j = false) (h2 : ∀ j, K k' j = false) : eo K (cp s k k' a b c) (cp s1 k k' a b c) := by
  have e1 : s1 k = s k := funext (fun j => h k j (h1 j))
  have e2 : s1 k' = s k' := funext (fun j => h k' j (h2 j))
  intro q j e
  unfold cp upR
  rw [e1, e2]
  cases hb : Nat.beq q k' with
  | true => rfl
  | false => exact h q j e
theorem pass_eo16 {V : (Nat → Int32) → Int32} {wm ev : Int32} {s : am_S} : ∀ (d i : Nat) (a : Int32 × am_S), eo sk16 s a.2 → eo sk16 s (fd (passF V wm ev) i d a).2
  | 0, _, _, h => h
  | d + 1, i, a, h => by
    refine pass_eo16 d (i + 1) _ ?_
    unfold passF
    split
    · split
      · exact h
      · exact eo_melt h
    · exact h
theorem pass_time {V : (Nat → Int32) → Int32} {wm ev : Int32} : ∀ (d i : Nat) (a : Int32 × am_S), (fd (passF V wm ev) i d a).2 16 4 = a.2 16 4
  | 0, _, _ => rfl
  | d + 1, i, a => by
    refine (pass_time d (i + 1) _).trans ?_
    unfold passF
    split
    · split
      · rfl
      · show meltAt a.2 ev i 16 4 = a.2 16 4
        unfold meltAt
        split
        · rw [up_s, if_neg (by omega)]
        · rw [up_s, if_neg (by omega), up_s, if_neg (by omega), up_s, if_neg (by omega)]
    · rfl
theorem aPass_eo16 {V : (Nat → Int32) → Int32} {s : am_S} {T : Nat} : eo sk16 s (aPass V s T).2 := by
  unfold aPass
  exact eo_up16 (eo_up16 (pass_eo16 T 0 (0, s) eo_rf))
theorem aMonth_eo16 {V : (Nat → Int32) → Int32} {s : am_S} {T : Nat} : eo sk16 s (aMonth V s T).2 := by
  unfold aMonth
  split
  · split
    · exact aPass_eo16
    · exact eo_rf
  · exact eo_rf
theorem aMonth_time {V : (Nat → Int32) → Int32} {s : am_S} {T : Nat} (h : ¬ (aMonth V s T).1 = -1) : (aMonth V s T).2 16 4 = s 16 4 + 1 := by
  unfold aMonth at h ⊢
  split at h
  · split at h
    · rename_i h1 h2
      rw [if_pos h1, if_pos h2]
      unfold aPass
      dsimp only
      rw [up_s, if_pos rfl, pass_time]
    · exact absurd rfl h
  · exact absurd rfl h
theorem aSeal_eo16 {s : am_S} {t m : Int32} : eo sk16 s (aSeal s t m).2 := by unfold aSeal; (repeat' split); all_goals first | exact eo_rf | exact eo_up16 (eo_up16 eo_rf)
theorem aOpen_eo16 {s : am_S} {t : Int32} : eo sk16 s (aOpen s t).2 := by unfold aOpen; (repeat' split); all_goals first | exact eo_rf | exact eo_up16 (eo_up16 eo_rf)
theorem aPry_eo16 {s : am_S} {t r : Int32} : eo sk16 s (aPry s t r).2 := by unfold aPry; (repeat' split); all_goals first | exact eo_rf | exact eo_up16 (eo_up16 eo_rf) | exact eo_up16 (eo_up16 (eo_up16 (eo_up16 eo_rf)))
theorem aCarry_eo16 {s : am_S} {t v : Int32} : eo sk16 s (aCarry s t v).2 := by unfold aCarry; (repeat' split); all_goals first | exact eo_rf | exact eo_up16 eo_rf
theorem aHeat_eo16 {s : am_S} {v : Int32} : eo sk16 s (aHeat s v).2 := by unfold aHeat; (repeat' split); all_goals first | exact eo_rf | exact eo_up16 eo_rf
theorem aAct_eo16 {V : (Nat → Int32) → Int32} {s : am_S} {T : Nat} {a f h : Int32} : eo sk16 s (aAct V s T a f h).2 := by
  unfold aAct
  repeat' split
  · exact aMonth_eo16
  · exact aSeal_eo16
  · exact aPry_eo16
  · exact aOpen_eo16
  · exact aCarry_eo16
  · exact aHeat_eo16
  · exact eo_rf
def wr (s : am_S) (m : Nat) (a b : Int32) : am_S := up (up (up s 22 (m % 128 * 3) a) 22 (m % 128 * 3 + 1) b) 22 (m % 128 * 3 + 2) (s 16 2)
def dGo (V : (Nat → Int32) → Int32) (s : am_S) (T tm : Nat) : Int32 × am_S := if (aMonth V s T).1 = -1 then aMonth V s T else ((aMonth V s T).1, wr (aMonth V s T).2 tm (warm (s 16 1) (s 16 4)) (aMonth V s T).1)
def sk22 : Nat → Nat → Bool := fun k _ => Nat.beq k 16 || Nat.beq k 22
theorem eo_1622 {s s1 : am_S} (h : eo sk16 s s1) : eo sk22 s s1 := fun k j e => h k j (by unfold sk22 at e; exact (Bool.or_eq_false_iff.mp e).1)
theorem dGo_eo22 {V : (Nat → Int32) → Int32} {s : am_S} {T tm : Nat} : eo sk22 s (dGo V s T tm).2 := by
  unfold dGo
  split
  · exact eo_1622 aMonth_eo16
  · exact eo_up (fun _ => rfl) (eo_up (fun _ => rfl) (eo_up (fun _ => rfl) (eo_1622 aMonth_eo16)))
def keep (s : am_S) (q a : Nat) : am_S := up (up (cp s 23 24 0 (q * 36) 36) 21 3 (nI ((q + 1) % 40))) 21 4 (nI (min 40 (a + 1)))
def dDo0 (V : (Nat → Int32) → Int32) (s : am_S) (T tm : Nat) (act f h : Int32) : Int32 × am_S := if act = 0 then dGo V (cp s 16 23 0 0 36) T tm else aAct V (cp s 16 23 0 0 36) T act f h
def dDo (V : (Nat → Int32) → Int32) (s : am_S) (T tm q a : Nat) (act f h : Int32) : Int32 × am_S := if (dDo0 V s T tm act f h).1 = -1 then dDo0 V s T tm act f h else ((dDo0 V s T tm act f h).1, keep (dDo0 V s T tm act f h).2 q a)
theorem dDo0_eo22 {V : (Nat → Int32) → Int32} {s : am_S} {T tm : Nat} {act f h : Int32} : eo sk22 (cp s 16 23 0 0 36) (dDo0 V s T tm act f h).2 := by
  unfold dDo0
  split
  · exact dGo_eo22
  · exact eo_1622 aAct_eo16
/-- the acts that are kept: q is the next place, a how many -/
def ab4 (s : am_S) (q a : Nat) : Prop := s 21 3 = nI q ∧ q < 40 ∧ s 21 4 = nI a ∧ a ≤ 40

set_option maxRecDepth 4000 in
theorem c_X11_goesBy {l : Launch} {g : ag_G} {s : am_S} {n : am_N} {T Q : Nat} (hb : kb s T Q) {tm : Nat} (htm : s 16 4 = nI tm) (htm4 : tm < 2 ^ 30) {V : (Nat → Int32) → Int32} (hV : LawIs l g s n V) : aw_G l g mi_X11_goesBy 6 skC [.ref (g_ad g 0)] s n (.int (dGo V s T tm).1) (dGo V s T tm).2 := by
  refine aw_G_of mo_X11_goesBy (by decide) (Nat.le_of_ble_eq_true rfl) ?_
  refine aw_aload_n rfl rfl ?_
  refine pg_0_8 rfl kl_X11_57 ?_
  refine aw_iV (q0 := 15) (ci := 8) rfl cw_X11_211 rfl rfl rfl (c_X8_warmthNow) rfl rfl (Nat.le_of_ble_eq_true rfl) (by decide) (by decide) (by decide) (by decide) ?_
  refine aw_istore_n rfl (by decide) ?_
  refine aw_aload_n rfl rfl ?_
  refine pg_0_8 rfl kl_X11_57 ?_
  refine aw_gV (q0 := 15) (ci := 8) rfl cw_X11_214 rfl rfl rfl (c_X8_passes hb hV) rfl rfl (Nat.le_of_ble_eq_true rfl) (by decide) (by decide) (by decide) (by decide) (fun s1 e1 => ?_)
  refine aw_istore_n rfl (by decide) ?_
  refine aw_iload_n rfl rfl ?_
  refine aw_iconst (v := -1) rfl (by decide) ?_
  refine aw_icmp_eq (tgt := 34) rfl (by decide) (fun h18 => ?_) (fun h18 => ?_)
  · skip
    refine aw_iload_n rfl rfl ?_
    exact aw_gi rfl rfl (by unfold dGo; first | (rw [if_pos (by simpa using h18)]; done) | (rw [if_neg h18]; done)) (by unfold dGo; first | (rw [if_pos (by simpa using h18)]; exact e1) | (rw [if_neg h18]; exact eo_up2 (eo_up2 (eo_up2 e1 rfl) rfl) (e1 16 2 rfl)))
  · have ht : s1 16 4 - 1 = nI tm := by (rw [e1 16 4 rfl, aMonth_time h18, htm, nI_1]; exact nI_pred tm)
    refine aw_aload_n rfl rfl ?_
    refine pg_0_9 rfl kl_X11_64 ?_
    refine aw_aload_n rfl rfl ?_
    refine pg_0_8 rfl kl_X11_57 ?_
    refine aw_iload_n rfl rfl ?_
    refine aw_iload_n rfl rfl ?_
    refine aw_vV (q0 := 21) (ci := 0) rfl cw_X11_217 rfl rfl rfl (c_X0_writes (m := tm) (by omega) ht) rfl rfl (Nat.le_of_ble_eq_true rfl) (by decide) (by decide) (by decide) (by decide) ?_
    skip
    refine aw_iload_n rfl rfl ?_
    exact aw_gi rfl rfl (by unfold dGo; first | (rw [if_pos (by simpa using h18)]; done) | (rw [if_neg h18]; done)) (by unfold dGo; first | (rw [if_pos (by simpa using h18)]; exact e1) | (rw [if_neg h18]; exact eo_up2 (eo_up2 (eo_up2 e1 rfl) rfl) (e1 16 2 rfl)))
set_option maxRecDepth 4000 in
theorem c_X11_does {l : Launch} {g : ag_G} {s : am_S} {n : am_N} {q a : Nat} {act f h : Int32} {T Q : Nat} (hb : kb s T Q) {tm : Nat} (htm : s 16 4 = nI tm) (htm4 : tm < 2 ^ 30) (hab : ab4 s q a) {V : (Nat → Int32) → Int32} (hV : LawIs l g s n V) : aw_G l g mi_X11_does 7 skC [.ref (g_ad g 0), .int act, .int f, .int h] s n (.int (dDo V s T tm q a act f h).1) (dDo V s T tm q a act f h).2 := by
  have hb1 : kb (cp s 16 23 0 0 36) T Q := hb
  have hV1 : LawIs l g (cp s 16 23 0 0 36) n V := hV.mv (fun _ => rfl)
  refine aw_G_of mo_X11_does (by decide) (Nat.le_of_ble_eq_true rfl) ?_
  refine aw_aload_n rfl rfl ?_
  refine pg_0_9 rfl kl_X11_64 ?_
  refine aw_aload_n rfl rfl ?_
  refine pg_0_8 rfl kl_X11_57 ?_
  refine aw_vV (q0 := 21) (ci := 0) rfl cw_X11_198 rfl rfl rfl (c_X0_begins) rfl rfl (Nat.le_of_ble_eq_true rfl) (by decide) (by decide) (by decide) (by decide) ?_
  refine aw_iload_n rfl rfl ?_
  refine aw_if_ne (tgt := 22) rfl (by decide) (fun h12 => ?_) (fun h12 => ?_)
  · refine aw_aload_n rfl rfl ?_
    refine pg_0_8 rfl kl_X11_57 ?_
    refine aw_iload_n rfl rfl ?_
    refine aw_iload_n rfl rfl ?_
    refine aw_iload_n rfl rfl ?_
    refine aw_gV (q0 := 15) (ci := 8) rfl cw_X11_205 rfl rfl rfl (c_X8_acts hb1 hV1) rfl rfl (Nat.le_of_ble_eq_true rfl) (by decide) (by decide) (by decide) (by decide) (fun s1 e1 => ?_)
    have hD : dDo0 V s T tm act f h = aAct V (cp s 16 23 0 0 36) T act f h := by (unfold dDo0; rw [if_neg h12])
    rw [← hD] at e1 ⊢
    have ED := dDo0_eo22 (V := V) (s := s) (T := T) (tm := tm) (act := act) (f := f) (h := h)
    refine aw_istore rfl (by decide) ?_
    refine aw_iload rfl rfl ?_
    refine aw_iconst (v := -1) rfl (by decide) ?_
    refine aw_icmp_eq (tgt := 47) rfl (by decide) (fun h37 => ?_) (fun h37 => ?_)
    · refine aw_iload rfl rfl ?_
      exact aw_gi rfl rfl (by unfold dDo; first | (rw [if_pos (by simpa using h37)]; done) | (rw [if_neg h37]; done)) (by unfold dDo; first | (rw [if_pos (by simpa using h37)]; exact e1) | (rw [if_neg h37]; exact eo_up2 (eo_up2 (eo_cp e1 (fun _ => rfl) (fun _ => rfl)) rfl) rfl))
    · refine aw_aload_n rfl rfl ?_
      refine pg_0_9 rfl kl_X11_64 ?_
      refine aw_vV (q0 := 21) (ci := 0) rfl cw_X11_208 rfl rfl rfl (c_X0_keepsAct (q := q) (a := a) (by rw [e1 21 3 rfl, ED 21 3 rfl]; exact hab.1) hab.2.1 (by rw [e1 21 4 rfl, ED 21 4 rfl]; exact hab.2.2.1) hab.2.2.2) rfl rfl (Nat.le_of_ble_eq_true rfl) (by decide) (by decide) (by decide) (by decide) ?_
      refine aw_iload rfl rfl ?_
      exact aw_gi rfl rfl (by unfold dDo; first | (rw [if_pos (by simpa using h37)]; done) | (rw [if_neg h37]; done)) (by unfold dDo; first | (rw [if_pos (by simpa using h37)]; exact e1) | (rw [if_neg h37]; exact eo_up2 (eo_up2 (eo_cp e1 (fun _ => rfl) (fun _ => rfl)) rfl) rfl))
  · refine aw_aload_n rfl rfl ?_
    refine aw_gV (q0 := 0) (ci := 11) rfl cw_X11_201 rfl rfl rfl (c_X11_goesBy (tm := tm) hb1 htm htm4 hV1) rfl rfl (Nat.le_of_ble_eq_true rfl) (by decide) (by decide) (by decide) (by decide) (fun s1 e1 => ?_)
    refine aw_goto (tgt := 32) rfl (by decide) ?_
    have hD : dDo0 V s T tm act f h = dGo V (cp s 16 23 0 0 36) T tm := by (unfold dDo0; rw [if_pos (by simpa using h12)])
    rw [← hD] at e1 ⊢
    have ED := dDo0_eo22 (V := V) (s := s) (T := T) (tm := tm) (act := act) (f := f) (h := h)
    refine aw_istore rfl (by decide) ?_
    refine aw_iload rfl rfl ?_
    refine aw_iconst (v := -1) rfl (by decide) ?_
    refine aw_icmp_eq (tgt := 47) rfl (by decide) (fun h37 => ?_) (fun h37 => ?_)
    · refine aw_iload rfl rfl ?_
      exact aw_gi rfl rfl (by unfold dDo; first | (rw [if_pos (by simpa using h37)]; done) | (rw [if_neg h37]; done)) (by unfold dDo; first | (rw [if_pos (by simpa using h37)]; exact e1) | (rw [if_neg h37]; exact eo_up2 (eo_up2 (eo_cp e1 (fun _ => rfl) (fun _ => rfl)) rfl) rfl))
    · refine aw_aload_n rfl rfl ?_
      refine pg_0_9 rfl kl_X11_64 ?_
      refine aw_vV (q0 := 21) (ci := 0) rfl cw_X11_208 rfl rfl rfl (c_X0_keepsAct (q := q) (a := a) (by rw [e1 21 3 rfl, ED 21 3 rfl]; exact hab.1) hab.2.1 (by rw [e1 21 4 rfl, ED 21 4 rfl]; exact hab.2.2.1) hab.2.2.2) rfl rfl (Nat.le_of_ble_eq_true rfl) (by decide) (by decide) (by decide) (by decide) ?_
      refine aw_iload rfl rfl ?_
      exact aw_gi rfl rfl (by unfold dDo; first | (rw [if_pos (by simpa using h37)]; done) | (rw [if_neg h37]; done)) (by unfold dDo; first | (rw [if_pos (by simpa using h37)]; exact e1) | (rw [if_neg h37]; exact eo_up2 (eo_up2 (eo_cp e1 (fun _ => rfl) (fun _ => rfl)) rfl) rfl))
set_option maxRecDepth 4000 in
theorem c_X11_seal {l : Launch} {g : ag_G} {s : am_S} {n : am_N} {t m : Int32} {q a : Nat} {T Q : Nat} (hb : kb s T Q) {tm : Nat} (htm : s 16 4 = nI tm) (htm4 : tm < 2 ^ 30) (hab : ab4 s q a) {V : (Nat → Int32) → Int32} (hV : LawIs l g s n V) : aw_G l g mi_X11_seal 8 skC [.ref (g_ad g 0), .int t, .int m] s n (.int (dDo V s T tm q a 1 t m).1) (dDo V s T tm q a 1 t m).2 := by
  refine aw_G_of mo_X11_seal (by decide) (Nat.le_of_ble_eq_true rfl) ?_
  refine aw_aload_n rfl rfl ?_
  refine aw_iconst (v := 1) rfl (by decide) ?_
  refine aw_iload_n rfl rfl ?_
  refine aw_iload_n rfl rfl ?_
  refine aw_gV (q0 := 0) (ci := 11) rfl cw_X11_189 rfl rfl rfl (c_X11_does hb htm htm4 hab hV) rfl rfl (Nat.le_of_ble_eq_true rfl) (by decide) (by decide) (by decide) (by decide) (fun s1 e1 => ?_)
  exact aw_gi rfl rfl rfl e1
set_option maxRecDepth 4000 in
theorem c_X11_open {l : Launch} {g : ag_G} {s : am_S} {n : am_N} {t : Int32} {q a : Nat} {T Q : Nat} (hb : kb s T Q) {tm : Nat} (htm : s 16 4 = nI tm) (htm4 : tm < 2 ^ 30) (hab : ab4 s q a) {V : (Nat → Int32) → Int32} (hV : LawIs l g s n V) : aw_G l g mi_X11_open 8 skC [.ref (g_ad g 0), .int t] s n (.int (dDo V s T tm q a 3 t 0).1) (dDo V s T tm q a 3 t 0).2 := by
  refine aw_G_of mo_X11_open (by decide) (Nat.le_of_ble_eq_true rfl) ?_
  refine aw_aload_n rfl rfl ?_
  refine aw_iconst (v := 3) rfl (by decide) ?_
  refine aw_iload_n rfl rfl ?_
  refine aw_iconst (v := 0) rfl (by decide) ?_
  refine aw_gV (q0 := 0) (ci := 11) rfl cw_X11_189 rfl rfl rfl (c_X11_does hb htm htm4 hab hV) rfl rfl (Nat.le_of_ble_eq_true rfl) (by decide) (by decide) (by decide) (by decide) (fun s1 e1 => ?_)
  exact aw_gi rfl rfl rfl e1
set_option maxRecDepth 4000 in
theorem c_X11_pry {l : Launch} {g : ag_G} {s : am_S} {n : am_N} {t r : Int32} {q a : Nat} {T Q : Nat} (hb : kb s T Q) {tm : Nat} (htm : s 16 4 = nI tm) (htm4 : tm < 2 ^ 30) (hab : ab4 s q a) {V : (Nat → Int32) → Int32} (hV : LawIs l g s n V) : aw_G l g mi_X11_pry 8 skC [.ref (g_ad g 0), .int t, .int r] s n (.int (dDo V s T tm q a 2 t r).1) (dDo V s T tm q a 2 t r).2 := by
  refine aw_G_of mo_X11_pry (by decide) (Nat.le_of_ble_eq_true rfl) ?_
  refine aw_aload_n rfl rfl ?_
  refine aw_iconst (v := 2) rfl (by decide) ?_
  refine aw_iload_n rfl rfl ?_
  refine aw_iload_n rfl rfl ?_
  refine aw_gV (q0 := 0) (ci := 11) rfl cw_X11_189 rfl rfl rfl (c_X11_does hb htm htm4 hab hV) rfl rfl (Nat.le_of_ble_eq_true rfl) (by decide) (by decide) (by decide) (by decide) (fun s1 e1 => ?_)
  exact aw_gi rfl rfl rfl e1
set_option maxRecDepth 4000 in
theorem c_X11_carry {l : Launch} {g : ag_G} {s : am_S} {n : am_N} {t v : Int32} {q a : Nat} {T Q : Nat} (hb : kb s T Q) {tm : Nat} (htm : s 16 4 = nI tm) (htm4 : tm < 2 ^ 30) (hab : ab4 s q a) {V : (Nat → Int32) → Int32} (hV : LawIs l g s n V) : aw_G l g mi_X11_carry 8 skC [.ref (g_ad g 0), .int t, .int v] s n (.int (dDo V s T tm q a 4 t v).1) (dDo V s T tm q a 4 t v).2 := by
  refine aw_G_of mo_X11_carry (by decide) (Nat.le_of_ble_eq_true rfl) ?_
  refine aw_aload_n rfl rfl ?_
  refine aw_iconst (v := 4) rfl (by decide) ?_
  refine aw_iload_n rfl rfl ?_
  refine aw_iload_n rfl rfl ?_
  refine aw_gV (q0 := 0) (ci := 11) rfl cw_X11_189 rfl rfl rfl (c_X11_does hb htm htm4 hab hV) rfl rfl (Nat.le_of_ble_eq_true rfl) (by decide) (by decide) (by decide) (by decide) (fun s1 e1 => ?_)
  exact aw_gi rfl rfl rfl e1
set_option maxRecDepth 4000 in
theorem c_X11_heat {l : Launch} {g : ag_G} {s : am_S} {n : am_N} {v : Int32} {q a : Nat} {T Q : Nat} (hb : kb s T Q) {tm : Nat} (htm : s 16 4 = nI tm) (htm4 : tm < 2 ^ 30) (hab : ab4 s q a) {V : (Nat → Int32) → Int32} (hV : LawIs l g s n V) : aw_G l g mi_X11_heat 8 skC [.ref (g_ad g 0), .int v] s n (.int (dDo V s T tm q a 5 v 0).1) (dDo V s T tm q a 5 v 0).2 := by
  refine aw_G_of mo_X11_heat (by decide) (Nat.le_of_ble_eq_true rfl) ?_
  refine aw_aload_n rfl rfl ?_
  refine aw_iconst (v := 5) rfl (by decide) ?_
  refine aw_iload_n rfl rfl ?_
  refine aw_iconst (v := 0) rfl (by decide) ?_
  refine aw_gV (q0 := 0) (ci := 11) rfl cw_X11_189 rfl rfl rfl (c_X11_does hb htm htm4 hab hV) rfl rfl (Nat.le_of_ble_eq_true rfl) (by decide) (by decide) (by decide) (by decide) (fun s1 e1 => ?_)
  exact aw_gi rfl rfl rfl e1
set_option maxRecDepth 4000 in
theorem c_X11_month {l : Launch} {g : ag_G} {s : am_S} {n : am_N} {q a : Nat} {T Q : Nat} (hb : kb s T Q) {tm : Nat} (htm : s 16 4 = nI tm) (htm4 : tm < 2 ^ 30) (hab : ab4 s q a) {V : (Nat → Int32) → Int32} (hV : LawIs l g s n V) : aw_G l g mi_X11_month 8 skC [.ref (g_ad g 0)] s n (.int (if (dDo V s T tm q a 0 0 0).1 = -1 then -1 else bitc (dDo V s T tm q a 0 0 0).1)) (dDo V s T tm q a 0 0 0).2 := by
  refine aw_G_of mo_X11_month (by decide) (Nat.le_of_ble_eq_true rfl) ?_
  refine aw_aload_n rfl rfl ?_
  refine aw_iconst (v := 0) rfl (by decide) ?_
  refine aw_iconst (v := 0) rfl (by decide) ?_
  refine aw_iconst (v := 0) rfl (by decide) ?_
  refine aw_gV (q0 := 0) (ci := 11) rfl cw_X11_189 rfl rfl rfl (c_X11_does hb htm htm4 hab hV) rfl rfl (Nat.le_of_ble_eq_true rfl) (by decide) (by decide) (by decide) (by decide) (fun s1 e1 => ?_)
  refine aw_istore_n rfl (by decide) ?_
  refine aw_iload_n rfl rfl ?_
  refine aw_iconst (v := -1) rfl (by decide) ?_
  refine aw_icmp_ne (tgt := 17) rfl (by decide) (fun h10 => ?_) (fun h10 => ?_)
  · refine aw_iload_n rfl rfl ?_
    refine aw_iS rfl cw_X11_193 (c_bitCount) rfl rfl (Nat.le_of_ble_eq_true rfl) (by decide) (by decide) (by decide) (by decide) ?_
    exact aw_gi rfl rfl (by first | (rw [if_pos (by simpa using h10)]; done) | (rw [if_neg h10]; done)) e1
  · refine aw_iconst (v := -1) rfl (by decide) ?_
    refine aw_goto (tgt := 21) rfl (by decide) ?_
    exact aw_gi rfl rfl (by first | (rw [if_pos (by simpa using h10)]; done) | (rw [if_neg h10]; done)) e1
set_option maxRecDepth 4000 in
theorem c_X11_undo {l : Launch} {g : ag_G} {s : am_S} {n : am_N} {q a : Nat} (hab : ab4 s q a) : aw_F l g mi_X11_undo 2 [.ref (g_ad g 0)] (hp g s n) (.int (aUndo s q a).1) (hp g (aUndo s q a).2 n) := by
  refine aw_F_of mo_X11_undo (by decide) (Nat.le_of_ble_eq_true rfl) ?_
  refine aw_aload_n rfl rfl ?_
  refine pg_0_9 rfl kl_X11_64 ?_
  refine aw_aload_n rfl rfl ?_
  refine pg_0_8 rfl kl_X11_57 ?_
  refine aw_iV (q0 := 21) (ci := 0) rfl cw_X11_241 rfl rfl rfl (c_X0_takesBack hab.1 hab.2.1 hab.2.2.1 hab.2.2.2) rfl rfl (Nat.le_of_ble_eq_true rfl) (by decide) (by decide) (by decide) (by decide) ?_
  exact aw_fi rfl rfl rfl rfl
def q_law (s : am_S) (v : Int32) : Int32 × am_S := if v < -1 then (0, s) else if v < s 10 3 then (1, up s 10 4 v) else (0, s)
def q_knives (s : am_S) (v : Int32) : Int32 × am_S := if v < 0 then (0, s) else if 9 < v then (0, s) else if v = s 0 7 then (0, s) else (1, up s 0 7 v)
def q_image (s : am_S) : Int32 × am_S := if 0 < s 15 6 then (s 16 4, up (cp (cp s 16 25 0 0 36) 22 26 0 0 384) 21 7 1) else (-1, s)
def q_back (s : am_S) : Int32 × am_S := if s 21 7 = 0 then (-1, s) else (s 25 4, up (cp (cp s 25 16 0 0 36) 26 22 0 0 384) 21 4 0)
def q_noted (s : am_S) (N : Nat) (r t b : Int32) : Int32 × am_S := if isR s r = false then (-1, s) else if isT s t = false then (-1, s) else if N < 10 then (nI (N + 1), aNote s N r t b) else (-1, s)
def q_log (s : am_S) (tm : Nat) (i x : Int32) : Int32 := if i < 0 then -1 else if mn 60 (s 16 4) ≤ i then -1 else if x < 0 then -1 else if x < 3 then s 22 ((tm - 1 - cl i) % 128 * 3 + cl x) else -1
set_option maxRecDepth 4000 in
theorem c_X11_law {l : Launch} {g : ag_G} {s : am_S} {n : am_N} {v : Int32} : aw_F l g mi_X11_law 0 [.ref (g_ad g 0), .int v] (hp g s n) (.int (q_law s v).1) (hp g (q_law s v).2 n) := by
  refine aw_F_of mo_X11_law (by decide) (Nat.le_of_ble_eq_true rfl) ?_
  refine aw_iload_n rfl rfl ?_
  refine aw_iconst (v := -1) rfl (by decide) ?_
  refine aw_icmp_lt (tgt := 16) rfl (by decide) (fun h2 => ?_) (fun h2 => ?_)
  · refine aw_iconst (v := 0) rfl (by decide) ?_
    exact aw_fz rfl rfl (Or.inl rfl) (by first | (simp [q_law, h2]; done) | (simp [q_law, h2, h13]; done)) (by first | (simp [q_law, h2]; done) | (simp [q_law, h2, h13]; done))
  · refine aw_iload_n rfl rfl ?_
    refine aw_aload_n rfl rfl ?_
    refine pg_0_4 rfl kl_X11_42 ?_
    refine pg_10_3 rfl kl_X11_125 ?_
    refine aw_icmp_lt (tgt := 18) rfl (by decide) (fun h13 => ?_) (fun h13 => ?_)
    · refine aw_aload_n rfl rfl ?_
      refine pg_0_4 rfl kl_X11_42 ?_
      refine aw_iload_n rfl rfl ?_
      refine pp_10_4 rfl kl_X11_183 ?_
      refine aw_iconst (v := 1) rfl (by decide) ?_
      exact aw_fz rfl rfl (Or.inr rfl) (by simp [q_law, h2, (by simpa using h13 : v < s 10 3)]) (by simp [q_law, h2, (by simpa using h13 : v < s 10 3)])
    · refine aw_iconst (v := 0) rfl (by decide) ?_
      exact aw_fz rfl rfl (Or.inl rfl) (by first | (simp [q_law, h2]; done) | (simp [q_law, h2, h13]; done)) (by first | (simp [q_law, h2]; done) | (simp [q_law, h2, h13]; done))
set_option maxRecDepth 4000 in
theorem c_X11_knives {l : Launch} {g : ag_G} {s : am_S} {n : am_N} {v : Int32} : aw_F l g mi_X11_knives 0 [.ref (g_ad g 0), .int v] (hp g s n) (.int (q_knives s v).1) (hp g (q_knives s v).2 n) := by
  refine aw_F_of mo_X11_knives (by decide) (Nat.le_of_ble_eq_true rfl) ?_
  refine aw_iload_n rfl rfl ?_
  refine aw_if_lt (tgt := 18) rfl (by decide) (fun h1 => ?_) (fun h1 => ?_)
  · refine aw_iconst (v := 0) rfl (by decide) ?_
    exact aw_fz rfl rfl (Or.inl rfl) (by first | (simp [q_knives, h1]; done) | (simp [q_knives, h1, h7]; done) | (simp [q_knives, h1, h7, h15]; done)) (by first | (simp [q_knives, h1]; done) | (simp [q_knives, h1, h7]; done) | (simp [q_knives, h1, h7, h15]; done))
  · refine aw_iload_n rfl rfl ?_
    refine aw_bipush (v := 9) rfl (by decide) ?_
    refine aw_icmp_gt (tgt := 18) rfl (by decide) (fun h7 => ?_) (fun h7 => ?_)
    · refine aw_iconst (v := 0) rfl (by decide) ?_
      exact aw_fz rfl rfl (Or.inl rfl) (by first | (simp [q_knives, h1]; done) | (simp [q_knives, h1, h7]; done) | (simp [q_knives, h1, h7, h15]; done)) (by first | (simp [q_knives, h1]; done) | (simp [q_knives, h1, h7]; done) | (simp [q_knives, h1, h7, h15]; done))
    · refine aw_iload_n rfl rfl ?_
      refine aw_aload_n rfl rfl ?_
      refine pg_0_7 rfl kl_X11_186 ?_
      refine aw_icmp_ne (tgt := 20) rfl (by decide) (fun h15 => ?_) (fun h15 => ?_)
      · refine aw_aload_n rfl rfl ?_
        refine aw_iload_n rfl rfl ?_
        refine pp_0_7 rfl kl_X11_186 ?_
        refine aw_iconst (v := 1) rfl (by decide) ?_
        exact aw_fz rfl rfl (Or.inr rfl) (by simp [q_knives, h1, h7, h15]) (by simp [q_knives, h1, h7, h15])
      · refine aw_iconst (v := 0) rfl (by decide) ?_
        exact aw_fz rfl rfl (Or.inl rfl) (by first | (simp [q_knives, h1]; done) | (simp [q_knives, h1, h7]; done) | (simp [q_knives, h1, h7, h15]; done)) (by first | (simp [q_knives, h1]; done) | (simp [q_knives, h1, h7]; done) | (simp [q_knives, h1, h7, h15]; done))
set_option maxRecDepth 4000 in
theorem c_X11_image {l : Launch} {g : ag_G} {s : am_S} {n : am_N} : aw_F l g mi_X11_image 2 [.ref (g_ad g 0)] (hp g s n) (.int (q_image s).1) (hp g (q_image s).2 n) := by
  refine aw_F_of mo_X11_image (by decide) (Nat.le_of_ble_eq_true rfl) ?_
  refine aw_aload_n rfl rfl ?_
  refine pg_0_8 rfl kl_X11_57 ?_
  refine aw_iV (q0 := 15) (ci := 8) rfl cw_X11_146 rfl rfl rfl (c_X8_isTold) rfl rfl (Nat.le_of_ble_eq_true rfl) (by decide) (by decide) (by decide) (by decide) ?_
  refine aw_if_ne (tgt := 12) rfl (by decide) (fun h7 => ?_) (fun h7 => ?_)
  · refine aw_aload_n rfl rfl ?_
    refine pg_0_9 rfl kl_X11_64 ?_
    refine aw_aload_n rfl rfl ?_
    refine pg_0_8 rfl kl_X11_57 ?_
    refine aw_vV (q0 := 21) (ci := 0) rfl cw_X11_352 rfl rfl rfl (c_X0_draws) rfl rfl (Nat.le_of_ble_eq_true rfl) (by decide) (by decide) (by decide) (by decide) ?_
    refine aw_aload_n rfl rfl ?_
    refine pg_0_8 rfl kl_X11_57 ?_
    refine pg_15_1 rfl kl_X11_149 ?_
    refine aw_iconst (v := 4) rfl (by decide) ?_
    refine pl_16 (j := 4) rfl rfl (by decide) ?_
    exact aw_fi rfl rfl (by have z := bB_n0.mp h7; rw [decide_eq_true_eq] at z; simp [q_image, z]; rfl) (by have z := bB_n0.mp h7; rw [decide_eq_true_eq] at z; simp [q_image, z])
  · refine aw_iconst (v := -1) rfl (by decide) ?_
    exact aw_fi rfl rfl (by have z := bB_0.mp (by simpa using h7); rw [decide_eq_false_iff_not] at z; simp [q_image, z]) (by have z := bB_0.mp (by simpa using h7); rw [decide_eq_false_iff_not] at z; simp [q_image, z])
set_option maxRecDepth 4000 in
theorem c_X11_back {l : Launch} {g : ag_G} {s : am_S} {n : am_N} : aw_F l g mi_X11_back 2 [.ref (g_ad g 0)] (hp g s n) (.int (q_back s).1) (hp g (q_back s).2 n) := by
  refine aw_F_of mo_X11_back (by decide) (Nat.le_of_ble_eq_true rfl) ?_
  refine aw_aload_n rfl rfl ?_
  refine pg_0_9 rfl kl_X11_64 ?_
  refine pg_21_7 rfl kl_X11_354 ?_
  refine aw_if_ne (tgt := 12) rfl (by decide) (fun h7 => ?_) (fun h7 => ?_)
  · refine aw_aload_n rfl rfl ?_
    refine pg_0_9 rfl kl_X11_64 ?_
    refine aw_aload_n rfl rfl ?_
    refine pg_0_8 rfl kl_X11_57 ?_
    refine aw_vV (q0 := 21) (ci := 0) rfl cw_X11_357 rfl rfl rfl (c_X0_restores) rfl rfl (Nat.le_of_ble_eq_true rfl) (by decide) (by decide) (by decide) (by decide) ?_
    refine aw_aload_n rfl rfl ?_
    refine pg_0_8 rfl kl_X11_57 ?_
    refine pg_15_1 rfl kl_X11_149 ?_
    refine aw_iconst (v := 4) rfl (by decide) ?_
    refine pl_16 (j := 4) rfl rfl (by decide) ?_
    exact aw_fi rfl rfl (by simp [q_back, h7]; rfl) (by simp [q_back, h7])
  · refine aw_iconst (v := -1) rfl (by decide) ?_
    exact aw_fi rfl rfl (by simp [q_back, (by simpa using h7 : s 21 7 = 0)]) (by simp [q_back, (by simpa using h7 : s 21 7 = 0)])
