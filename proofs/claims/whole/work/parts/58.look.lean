/-! the reference's reader: where it stands, look, fails, goesIn, takes -/
theorem rmF {k D : Nat} (h : k + 1 ≤ D) : k + 1 ≤ (aw_rm D 0 0).frames := h
theorem rmL {m k D : Nat} (hm : m ≤ 81) (h : k + 1 ≤ D) : 8 + (m + 11) + 100 * k ≤ (aw_rm D 0 0).locals := by show _ ≤ 100 * D; omega
theorem up_cs {s : am_S} {k i j : Nat} {v x : Int32} (h : i ≠ j) : up (up s k i v) k j x = up (up s k j x) k i v := by
  funext k'
  unfold up
  cases hb : Nat.beq k' k with
  | false => rfl
  | true =>
    simp only [cond_true, Nat.beq_refl]
    funext q
    unfold upd
    by_cases h1 : q = i
    · by_cases h2 : q = j
      · omega
      · simp [h1, h]
    · by_cases h2 : q = j
      · simp [h2, Ne.symm h]
      · simp [h1, h2]
def pst (s : am_S) (p w : Nat) (f : Int32) : am_S := up (up (up s 39 10 (nI p)) 39 12 (nI w)) 39 11 f
theorem pst_10 {s : am_S} {p w q : Nat} {f : Int32} : up (pst s p w f) 39 10 (nI q) = pst s q w f := by
  unfold pst
  rw [up_cs (by decide), up_cs (i := 12) (j := 10) (by decide), up_up]
theorem pst_12 {s : am_S} {p w q : Nat} {f : Int32} : up (pst s p w f) 39 12 (nI q) = pst s p q f := by
  unfold pst
  rw [up_cs (by decide), up_up]
theorem pst_11 {s : am_S} {p w : Nat} {f x : Int32} : up (pst s p w f) 39 11 x = pst s p w x := by
  unfold pst
  rw [up_up]
theorem pst_rf {s : am_S} {p w : Nat} {f : Int32} (h1 : s 39 10 = nI p) (h2 : s 39 12 = nI w) (h3 : s 39 11 = f) : pst s p w f = s := by
  unfold pst
  rw [up_rf h1, up_rf h2, up_rf h3]
def n8 (c : Nat) : Int32 := (nI c).toInt8.toInt32
theorem n8_c : ∀ c, c < 256 → (n8 c = 32 ↔ c = 32) ∧ n8 c &&& 255 = nI c ∧ (48 ≤ n8 c ↔ 48 ≤ c ∧ c < 128) ∧ (c < 128 → n8 c = nI c) := by decide +kernel
def TX (s : am_S) (n : am_N) (B b E : Nat) (tx : Nat → Nat) : Prop := n.2.2.1 = B ∧ s 39 8 = nI b ∧ s 39 9 = nI E ∧ E ≤ 240 ∧ (B = 40 ∧ b + E ≤ 240 ∨ B = 41 ∧ b + E ≤ 960) ∧ ∀ i, i < E → tx i < 256 ∧ s B (b + i) = n8 (tx i)
theorem TX_ps {s : am_S} {n : am_N} {B b E p w : Nat} {tx : Nat → Nat} {f : Int32} (h : TX s n B b E tx) : TX (pst s p w f) n B b E tx := by
  refine ⟨h.1, h.2.1, h.2.2.1, h.2.2.2.1, h.2.2.2.2.1, ?_⟩
  rcases h.2.2.2.2.1 with ⟨rfl, _⟩ | ⟨rfl, _⟩ <;> exact h.2.2.2.2.2
section AwTx
variable {l : Launch} {g : ag_G} {M : ag_M} {R : Room} {Z : ag_Z} {cells slots : Nat} {pc : Nat} {L : List (Option Value)} {st : List Value} {s : am_S} {n : am_N}
theorem pl_T {B b E q : Nat} {tx : Nat → Nat} {i : Int32} (hd : m_at M pc = some (.baload, 1)) (hT : TX s n B b E tx) (hi : i = nI (b + q)) (hq : q < E) (kk : aw_W l g M R Z cells slots (hp g s n) (pc + 1) L (.int (n8 (tx q)) :: st)) : aw_W l g M R Z cells slots (hp g s n) pc L (.int i :: .ref (g_ad g n.2.2.1) :: st) := by
  obtain ⟨h1, -, -, -, h5, h6⟩ := hT
  rw [h1]
  rcases h5 with ⟨rfl, h5⟩ | ⟨rfl, h5⟩
  · exact pl_40 hd hi (by omega) (by rw [(h6 q hq).2]; exact kk)
  · exact pl_41 hd hi (by omega) (by rw [(h6 q hq).2]; exact kk)
end AwTx
def skwp (tx : Nat → Nat) : Nat → Nat → Nat
  | 0, p => p
  | d + 1, p => if tx p = 32 then skwp tx d (p + 1) else p
def skw (tx : Nat → Nat) (E p : Nat) : Nat := skwp tx (E - p) p
def cv (tx : Nat → Nat) (E q : Nat) : Int32 := if q < E then nI (tx q) else -1
def dg (tx : Nat → Nat) (E q : Nat) : Bool := decide (q < E) && (decide (48 ≤ tx q) && decide (tx q ≤ 57))
theorem skwp_b (tx : Nat → Nat) : ∀ d p, p ≤ skwp tx d p ∧ skwp tx d p ≤ p + d ∧ (skwp tx d p < p + d → tx (skwp tx d p) ≠ 32)
  | 0, p => ⟨Nat.le_refl _, Nat.le_refl _, fun h => absurd h (Nat.lt_irrefl _)⟩
  | d + 1, p => by
    simp only [skwp]
    split
    · have := skwp_b tx d (p + 1)
      exact ⟨by omega, by omega, fun h => this.2.2 (by omega)⟩
    · rename_i h
      exact ⟨Nat.le_refl _, by omega, fun _ => h⟩
theorem skw_b {tx : Nat → Nat} {E p : Nat} (h : p ≤ E) : p ≤ skw tx E p ∧ skw tx E p ≤ E ∧ (skw tx E p < E → tx (skw tx E p) ≠ 32) := by
  have := skwp_b tx (E - p) p
  unfold skw
  exact ⟨this.1, by omega, fun h => this.2.2 (by omega)⟩
theorem skw_id {tx : Nat → Nat} {E p : Nat} (h : p < E → tx p ≠ 32) : skw tx E p = p := by
  unfold skw
  cases hd : E - p with
  | zero => rfl
  | succ d =>
    simp only [skwp]
    rw [if_neg (h (by omega))]
theorem skw_sk {tx : Nat → Nat} {E p : Nat} (h : p ≤ E) : skw tx E (skw tx E p) = skw tx E p := skw_id (skw_b h).2.2
theorem cv_ne {tx : Nat → Nat} {E q : Nat} (h : cv tx E q ≠ -1) : q < E := by
  unfold cv at h
  by_cases e : q < E
  · exact e
  · rw [if_neg e] at h; exact absurd rfl h
set_option maxRecDepth 4000 in
theorem c_m_look {l : Launch} {g : ag_G} {s : am_S} {n : am_N} {B b E p w : Nat} {tx : Nat → Nat} {f : Int32} (hT : TX s n B b E tx) (hp1 : p ≤ E) : aw_F l g mi_X12_look 0 [.ref (g_ad g 39)] (hp g (pst s p w f) n) (.int (cv tx E (skw tx E p))) (hp g (pst s (skw tx E p) w f) n) := by
  have hE := hT.2.2.2.1
  have tail : ∀ q, q ≤ E → (q < E → tx q < 256) → aw_W l g mi_X12_look (aw_rm 0 0 0) (aw_Z g (fun r z => r = some (.int (cv tx E q)) ∧ z = hp g (pst s q w f) n) 0 0) 0 0 (hp g (pst s q w f) n) 43 [some (.ref (g_ad g 39))] [] := by
    intro q hq hq2
    refine aw_aload_n rfl rfl ?_
    refine pg_39_10 rfl kl_X12_119 ?_
    refine aw_aload_n rfl rfl ?_
    refine pg_39_9 rfl kl_X12_122 ?_
    refine aw_icmp_ge (tgt := 75) rfl (by decide) (fun h51 => ?_) (fun h51 => ?_)
    · refine aw_iconst (v := -1) rfl (by decide) ?_
      first
      | (have z : s 39 9 ≤ nI q := h51
         exact aw_fi rfl rfl (by unfold cv; rw [if_neg (by intro e; rw [hT.2.2.1] at z; exact absurd z (nI_ge (by omega) (by omega)))]) rfl)
      | exact aw_fi rfl rfl (by unfold cv; rw [if_pos hqE]; exact (n8_c _ (hq2 hqE)).2.1) rfl
    · have hqE : q < E := by (have z : ¬ s 39 9 ≤ nI q := h51; rw [hT.2.2.1] at z; by_cases e : q < E; exact e; exact absurd (nI_le (a := E) (b := q) (by omega) (by omega)) z)
      refine aw_aload_n rfl rfl ?_
      refine pg_39_5 rfl kl_X12_23 ?_
      refine aw_aload_n rfl rfl ?_
      refine pg_39_8 rfl kl_X12_125 ?_
      refine aw_aload_n rfl rfl ?_
      refine pg_39_10 rfl kl_X12_119 ?_
      refine aw_iadd rfl ?_
      refine pl_T (q := q) rfl (TX_ps hT) (show s 39 8 + nI q = nI (b + q) from by (rw [hT.2.1]; exact nI_add _ _)) (by omega) ?_
      refine aw_sipush (v := 255) rfl (by decide) ?_
      refine aw_iand rfl ?_
      refine aw_goto (tgt := 76) rfl (by decide) ?_
      first
      | (have z : s 39 9 ≤ nI q := h51
         exact aw_fi rfl rfl (by unfold cv; rw [if_neg (by intro e; rw [hT.2.2.1] at z; exact absurd z (nI_ge (by omega) (by omega)))]) rfl)
      | exact aw_fi rfl rfl (by unfold cv; rw [if_pos hqE]; exact (n8_c _ (hq2 hqE)).2.1) rfl
  have loop : ∀ (d q : Nat), q + d = E → aw_W l g mi_X12_look (aw_rm 0 0 0) (aw_Z g (fun r z => r = some (.int (cv tx E (skwp tx d q))) ∧ z = hp g (pst s (skwp tx d q) w f) n) 0 0) 0 0 (hp g (pst s q w f) n) 0 [some (.ref (g_ad g 39))] [] := by
    intro d
    induction d with
    | zero =>
      intro q hq
      simp only [skwp]
      refine aw_aload_n rfl rfl ?_
      refine pg_39_10 rfl kl_X12_119 ?_
      refine aw_aload_n rfl rfl ?_
      refine pg_39_9 rfl kl_X12_122 ?_
      refine aw_icmp_ge (tgt := 43) rfl (by decide) (fun h8 => ?_) (fun h8 => absurd (show s 39 9 ≤ nI q from by (rw [hT.2.2.1]; exact nI_le (by omega) (by omega))) h8)
      exact tail q (by omega) (fun h => absurd h (by omega))
    | succ d ih =>
      intro q hq
      have hc := hT.2.2.2.2.2 q (by omega)
      simp only [skwp]
      refine aw_aload_n rfl rfl ?_
      refine pg_39_10 rfl kl_X12_119 ?_
      refine aw_aload_n rfl rfl ?_
      refine pg_39_9 rfl kl_X12_122 ?_
      refine aw_icmp_ge (tgt := 43) rfl (by decide) (fun h8 => absurd h8 (show ¬ s 39 9 ≤ nI q from by (rw [hT.2.2.1]; exact nI_ge (by omega) (by omega)))) (fun h8 => ?_)
      refine aw_aload_n rfl rfl ?_
      refine pg_39_5 rfl kl_X12_23 ?_
      refine aw_aload_n rfl rfl ?_
      refine pg_39_8 rfl kl_X12_125 ?_
      refine aw_aload_n rfl rfl ?_
      refine pg_39_10 rfl kl_X12_119 ?_
      refine aw_iadd rfl ?_
      refine pl_T (q := q) rfl (TX_ps hT) (show s 39 8 + nI q = nI (b + q) from by (rw [hT.2.1]; exact nI_add _ _)) (by omega) ?_
      refine aw_bipush (v := 32) rfl (by decide) ?_
      refine aw_icmp_ne (tgt := 43) rfl (by decide) (fun h27 => ?_) (fun h27 => ?_)
      · rw [if_neg (fun e => h27 ((n8_c _ hc.1).1.mpr e))]
        exact tail q (by omega) (fun _ => hc.1)
      · refine aw_aload_n rfl rfl ?_
        refine aw_dup rfl rfl ?_
        refine pg_39_10 rfl kl_X12_119 ?_
        refine aw_iconst (v := 1) rfl (by decide) ?_
        refine aw_iadd rfl ?_
        refine pp_39_10 rfl kl_X12_119 ?_
        refine aw_goto (tgt := 0) rfl (by decide) ?_
        rw [if_pos ((n8_c _ hc.1).1.mp h27)]
        have e1 : up (pst s q w f) 39 10 (nI q + 1) = pst s (q + 1) w f := by (rw [nI_1]; exact pst_10)
        refine aw_wk (aw_eqs (ih (q + 1) (by omega)) rfl rfl (congrArg (fun z => hp g z n) e1)) (And.intro rfl True.intro)
  refine aw_F_of mo_X12_look (by decide) (Nat.le_of_ble_eq_true rfl) ?_
  exact aw_wk (loop (E - p) p (by omega)) (And.intro rfl True.intro)
set_option maxRecDepth 4000 in
theorem c_m_fails {l : Launch} {g : ag_G} {s : am_S} {n : am_N} {p w : Nat} : aw_F l g mi_X12_fails 0 [.ref (g_ad g 39)] (hp g (pst s p w (-1)) n) (.int 0) (hp g (pst s p w (nI p)) n) := by
  refine aw_F_of mo_X12_fails (by decide) (Nat.le_of_ble_eq_true rfl) ?_
  refine aw_aload_n rfl rfl ?_
  refine pg_39_11 rfl kl_X12_128 ?_
  refine aw_iconst (v := -1) rfl (by decide) ?_
  refine aw_icmp_ne (tgt := 16) rfl (by decide) (fun h5 => absurd (rfl) h5) (fun h5 => ?_)
  refine aw_aload_n rfl rfl ?_
  refine aw_aload_n rfl rfl ?_
  refine pg_39_10 rfl kl_X12_119 ?_
  refine pp_39_11 rfl kl_X12_128 ?_
  refine aw_iconst (v := 0) rfl (by decide) ?_
  exact aw_fz rfl rfl (Or.inl rfl) rfl (congrArg (fun z => hp g z n) pst_11)
set_option maxRecDepth 4000 in
theorem c_m_failsN {l : Launch} {g : ag_G} {s : am_S} {n : am_N} {p w : Nat} {f : Int32} (hf : ¬ f = -1) : aw_F l g mi_X12_fails 0 [.ref (g_ad g 39)] (hp g (pst s p w f) n) (.int 0) (hp g (pst s p w f) n) := by
  refine aw_F_of mo_X12_fails (by decide) (Nat.le_of_ble_eq_true rfl) ?_
  refine aw_aload_n rfl rfl ?_
  refine pg_39_11 rfl kl_X12_128 ?_
  refine aw_iconst (v := -1) rfl (by decide) ?_
  refine aw_icmp_ne (tgt := 16) rfl (by decide) (fun h5 => ?_) (fun h5 => absurd h5 (hf))
  refine aw_iconst (v := 0) rfl (by decide) ?_
  exact aw_fz rfl rfl (Or.inl rfl) rfl rfl
set_option maxRecDepth 4000 in
theorem c_m_goesIn {l : Launch} {g : ag_G} {s : am_S} {n : am_N} {p w : Nat} (hw : w < 6) : aw_F l g mi_X12_goesIn 1 [.ref (g_ad g 39)] (hp g (pst s p w (-1)) n) (.int 1) (hp g (pst s (p + 1) (w + 1) (-1)) n) := by
  refine aw_F_of mo_X12_goesIn (by decide) (Nat.le_of_ble_eq_true rfl) ?_
  refine aw_aload_n rfl rfl ?_
  refine pg_39_12 rfl kl_X12_131 ?_
  refine aw_bipush (v := 6) rfl (by decide) ?_
  refine aw_icmp_ne (tgt := 14) rfl (by decide) (fun h6 => ?_) (fun h6 => absurd h6 (fun e => absurd ((nI_eq (b := 6) (by omega) (by decide)).mp e) (by omega)))
  refine aw_aload_n rfl rfl ?_
  refine aw_dup rfl rfl ?_
  refine pg_39_12 rfl kl_X12_131 ?_
  refine aw_iconst (v := 1) rfl (by decide) ?_
  refine aw_iadd rfl ?_
  refine pp_39_12 rfl kl_X12_131 ?_
  refine aw_aload_n rfl rfl ?_
  refine aw_dup rfl rfl ?_
  refine pg_39_10 rfl kl_X12_119 ?_
  refine aw_iconst (v := 1) rfl (by decide) ?_
  refine aw_iadd rfl ?_
  refine pp_39_10 rfl kl_X12_119 ?_
  refine aw_iconst (v := 1) rfl (by decide) ?_
  exact aw_fz rfl rfl (Or.inr rfl) rfl (congrArg (fun z => hp g z n) (show up (up (pst s p w (-1)) 39 12 (nI w + 1)) 39 10 (nI p + 1) = _ from by (rw [nI_1, nI_1, pst_12, pst_10])))
set_option maxRecDepth 4000 in
theorem c_m_goesIn6 {l : Launch} {g : ag_G} {s : am_S} {n : am_N} {p : Nat} : aw_F l g mi_X12_goesIn 1 [.ref (g_ad g 39)] (hp g (pst s p 6 (-1)) n) (.int 0) (hp g (pst s p 6 (nI p)) n) := by
  refine aw_F_of mo_X12_goesIn (by decide) (Nat.le_of_ble_eq_true rfl) ?_
  refine aw_aload_n rfl rfl ?_
  refine pg_39_12 rfl kl_X12_131 ?_
  refine aw_bipush (v := 6) rfl (by decide) ?_
  refine aw_icmp_ne (tgt := 14) rfl (by decide) (fun h6 => absurd (rfl) h6) (fun h6 => ?_)
  refine aw_aload_n rfl rfl ?_
  refine aw_iV (q0 := 39) (ci := 12) rfl cw_X12_134 rfl rfl rfl (c_m_fails) rfl rfl (Nat.le_of_ble_eq_true rfl) (by decide) (by decide) (by decide) (by decide) ?_
  exact aw_fz rfl rfl (Or.inl rfl) rfl rfl
set_option maxRecDepth 4000 in
theorem c_m_takes {l : Launch} {g : ag_G} {s : am_S} {n : am_N} {B b E p w : Nat} {tx : Nat → Nat} (hT : TX s n B b E tx) {c : Int32} (hp1 : p ≤ E) : aw_F l g mi_X12_takes 1 [.ref (g_ad g 39), .int c] (hp g (pst s p w (-1)) n) (.int (bB (decide (cv tx E (skw tx E p) = c)))) (hp g (if cv tx E (skw tx E p) = c then pst s (skw tx E p + 1) w (-1) else pst s (skw tx E p) w (nI (skw tx E p))) n) := by
  refine aw_F_of mo_X12_takes (by decide) (Nat.le_of_ble_eq_true rfl) ?_
  refine aw_aload_n rfl rfl ?_
  refine pg_39_11 rfl kl_X12_128 ?_
  refine aw_iconst (v := -1) rfl (by decide) ?_
  refine aw_icmp_ne (tgt := 16) rfl (by decide) (fun h5 => absurd (rfl) h5) (fun h5 => ?_)
  refine aw_aload_n rfl rfl ?_
  refine aw_iV (q0 := 39) (ci := 12) rfl cw_X12_138 rfl rfl rfl (c_m_look hT hp1) rfl rfl (Nat.le_of_ble_eq_true rfl) (by decide) (by decide) (by decide) (by decide) ?_
  refine aw_iload_n rfl rfl ?_
  refine aw_icmp_eq (tgt := 21) rfl (by decide) (fun h13 => ?_) (fun h13 => ?_)
  · refine aw_aload_n rfl rfl ?_
    refine aw_dup rfl rfl ?_
    refine pg_39_10 rfl kl_X12_119 ?_
    refine aw_iconst (v := 1) rfl (by decide) ?_
    refine aw_iadd rfl ?_
    refine pp_39_10 rfl kl_X12_119 ?_
    refine aw_iconst (v := 1) rfl (by decide) ?_
    exact aw_fz rfl rfl (Or.inr rfl) (by rw [decide_eq_true h13]; rfl) (by rw [if_pos h13]; exact congrArg (fun z => hp g z n) (show up (pst s (skw tx E p) w (-1)) 39 10 (nI (skw tx E p) + 1) = pst s (skw tx E p + 1) w (-1) from by (rw [nI_1, pst_10])))
  · refine aw_aload_n rfl rfl ?_
    refine aw_iV (q0 := 39) (ci := 12) rfl cw_X12_134 rfl rfl rfl (c_m_fails) rfl rfl (Nat.le_of_ble_eq_true rfl) (by decide) (by decide) (by decide) (by decide) ?_
    exact aw_fz rfl rfl (Or.inl rfl) (by rw [decide_eq_false h13]; rfl) (by rw [if_neg h13])
set_option maxRecDepth 4000 in
theorem c_m_takesN {l : Launch} {g : ag_G} {s : am_S} {n : am_N} {p w : Nat} {f c : Int32} (hf : ¬ f = -1) : aw_F l g mi_X12_takes 1 [.ref (g_ad g 39), .int c] (hp g (pst s p w f) n) (.int 0) (hp g (pst s p w f) n) := by
  refine aw_F_of mo_X12_takes (by decide) (Nat.le_of_ble_eq_true rfl) ?_
  refine aw_aload_n rfl rfl ?_
  refine pg_39_11 rfl kl_X12_128 ?_
  refine aw_iconst (v := -1) rfl (by decide) ?_
  refine aw_icmp_ne (tgt := 16) rfl (by decide) (fun h5 => ?_) (fun h5 => absurd h5 (hf))
  refine aw_aload_n rfl rfl ?_
  refine aw_iV (q0 := 39) (ci := 12) rfl cw_X12_134 rfl rfl rfl (c_m_failsN hf) rfl rfl (Nat.le_of_ble_eq_true rfl) (by decide) (by decide) (by decide) (by decide) ?_
  exact aw_fz rfl rfl (Or.inl rfl) rfl rfl
set_option maxRecDepth 4000 in
theorem c_m_isDigit {l : Launch} {g : ag_G} {s : am_S} {n : am_N} {B b E p w : Nat} {tx : Nat → Nat} {f : Int32} (hT : TX s n B b E tx) (hp1 : p ≤ E) : aw_F l g mi_X12_isDigit 0 [.ref (g_ad g 39)] (hp g (pst s p w f) n) (.int (bB (dg tx E p))) (hp g (pst s p w f) n) := by
  have hE := hT.2.2.2.1
  refine aw_F_of mo_X12_isDigit (by decide) (Nat.le_of_ble_eq_true rfl) ?_
  refine aw_aload_n rfl rfl ?_
  refine pg_39_10 rfl kl_X12_119 ?_
  refine aw_aload_n rfl rfl ?_
  refine pg_39_9 rfl kl_X12_122 ?_
  refine aw_icmp_ge (tgt := 53) rfl (by decide) (fun h8 => ?_) (fun h8 => ?_)
  · refine aw_iconst (v := 0) rfl (by decide) ?_
    exact aw_fz rfl rfl (by first | exact Or.inl rfl | exact Or.inr rfl | exact bB_01) (by
      unfold dg
      first
        | (have z : s 39 9 ≤ nI p := h8; rw [decide_eq_false (by intro e; rw [hT.2.2.1] at z; exact absurd z (nI_ge (by omega) (by omega)))]; rfl)
        | (have z : n8 (tx p) < 48 := h27
           rw [decide_eq_true hqE]
           by_cases a : 48 ≤ tx p
           · by_cases b : tx p ≤ 57
             · exact absurd (hn.2.2.1.mpr ⟨a, by omega⟩) (Int32.not_le.mpr z)
             · rw [decide_eq_false b, Bool.and_false, Bool.and_false]; rfl
           · rw [decide_eq_false a]; rfl)
        | (have z : 57 < n8 (tx p) := h46
           have a := hn.2.2.1.mp (Int32.not_lt.mp h27)
           rw [hn.2.2.2 a.2] at z
           have b : ¬ tx p ≤ 57 := fun e => absurd (nI_le (a := tx p) (b := 57) e (by decide)) (Int32.not_le.mpr z)
           rw [decide_eq_false b, Bool.and_false, Bool.and_false]; rfl)
        | (have a := hn.2.2.1.mp (Int32.not_lt.mp h27)
           have z : ¬ 57 < n8 (tx p) := h46
           rw [hn.2.2.2 a.2] at z
           have b : tx p ≤ 57 := by (by_cases e : tx p ≤ 57; exact e; exact absurd (nI_lt (a := 57) (b := tx p) (by omega) (by omega)) z)
           rw [decide_eq_true hqE, decide_eq_true a.1, decide_eq_true b]; rfl)) rfl
  · have hqE : p < E := by (have z : ¬ s 39 9 ≤ nI p := h8; rw [hT.2.2.1] at z; by_cases e : p < E; exact e; exact absurd (nI_le (a := E) (b := p) (by omega) (by omega)) z)
    have hc := (hT.2.2.2.2.2 p hqE).1
    have hn := n8_c _ hc
    refine aw_aload_n rfl rfl ?_
    refine pg_39_5 rfl kl_X12_23 ?_
    refine aw_aload_n rfl rfl ?_
    refine pg_39_8 rfl kl_X12_125 ?_
    refine aw_aload_n rfl rfl ?_
    refine pg_39_10 rfl kl_X12_119 ?_
    refine aw_iadd rfl ?_
    refine pl_T (q := p) rfl (TX_ps hT) (show s 39 8 + nI p = nI (b + p) from by (rw [hT.2.1]; exact nI_add _ _)) (by omega) ?_
    refine aw_bipush (v := 48) rfl (by decide) ?_
    refine aw_icmp_lt (tgt := 53) rfl (by decide) (fun h27 => ?_) (fun h27 => ?_)
    · refine aw_iconst (v := 0) rfl (by decide) ?_
      exact aw_fz rfl rfl (by first | exact Or.inl rfl | exact Or.inr rfl | exact bB_01) (by
      unfold dg
      first
        | (have z : s 39 9 ≤ nI p := h8; rw [decide_eq_false (by intro e; rw [hT.2.2.1] at z; exact absurd z (nI_ge (by omega) (by omega)))]; rfl)
        | (have z : n8 (tx p) < 48 := h27
           rw [decide_eq_true hqE]
           by_cases a : 48 ≤ tx p
           · by_cases b : tx p ≤ 57
             · exact absurd (hn.2.2.1.mpr ⟨a, by omega⟩) (Int32.not_le.mpr z)
             · rw [decide_eq_false b, Bool.and_false, Bool.and_false]; rfl
           · rw [decide_eq_false a]; rfl)
        | (have z : 57 < n8 (tx p) := h46
           have a := hn.2.2.1.mp (Int32.not_lt.mp h27)
           rw [hn.2.2.2 a.2] at z
           have b : ¬ tx p ≤ 57 := fun e => absurd (nI_le (a := tx p) (b := 57) e (by decide)) (Int32.not_le.mpr z)
           rw [decide_eq_false b, Bool.and_false, Bool.and_false]; rfl)
        | (have a := hn.2.2.1.mp (Int32.not_lt.mp h27)
           have z : ¬ 57 < n8 (tx p) := h46
           rw [hn.2.2.2 a.2] at z
           have b : tx p ≤ 57 := by (by_cases e : tx p ≤ 57; exact e; exact absurd (nI_lt (a := 57) (b := tx p) (by omega) (by omega)) z)
           rw [decide_eq_true hqE, decide_eq_true a.1, decide_eq_true b]; rfl)) rfl
    · refine aw_aload_n rfl rfl ?_
      refine pg_39_5 rfl kl_X12_23 ?_
      refine aw_aload_n rfl rfl ?_
      refine pg_39_8 rfl kl_X12_125 ?_
      refine aw_aload_n rfl rfl ?_
      refine pg_39_10 rfl kl_X12_119 ?_
      refine aw_iadd rfl ?_
      refine pl_T (q := p) rfl (TX_ps hT) (show s 39 8 + nI p = nI (b + p) from by (rw [hT.2.1]; exact nI_add _ _)) (by omega) ?_
      refine aw_bipush (v := 57) rfl (by decide) ?_
      refine aw_icmp_gt (tgt := 53) rfl (by decide) (fun h46 => ?_) (fun h46 => ?_)
      · refine aw_iconst (v := 0) rfl (by decide) ?_
        exact aw_fz rfl rfl (by first | exact Or.inl rfl | exact Or.inr rfl | exact bB_01) (by
      unfold dg
      first
        | (have z : s 39 9 ≤ nI p := h8; rw [decide_eq_false (by intro e; rw [hT.2.2.1] at z; exact absurd z (nI_ge (by omega) (by omega)))]; rfl)
        | (have z : n8 (tx p) < 48 := h27
           rw [decide_eq_true hqE]
           by_cases a : 48 ≤ tx p
           · by_cases b : tx p ≤ 57
             · exact absurd (hn.2.2.1.mpr ⟨a, by omega⟩) (Int32.not_le.mpr z)
             · rw [decide_eq_false b, Bool.and_false, Bool.and_false]; rfl
           · rw [decide_eq_false a]; rfl)
        | (have z : 57 < n8 (tx p) := h46
           have a := hn.2.2.1.mp (Int32.not_lt.mp h27)
           rw [hn.2.2.2 a.2] at z
           have b : ¬ tx p ≤ 57 := fun e => absurd (nI_le (a := tx p) (b := 57) e (by decide)) (Int32.not_le.mpr z)
           rw [decide_eq_false b, Bool.and_false, Bool.and_false]; rfl)
        | (have a := hn.2.2.1.mp (Int32.not_lt.mp h27)
           have z : ¬ 57 < n8 (tx p) := h46
           rw [hn.2.2.2 a.2] at z
           have b : tx p ≤ 57 := by (by_cases e : tx p ≤ 57; exact e; exact absurd (nI_lt (a := 57) (b := tx p) (by omega) (by omega)) z)
           rw [decide_eq_true hqE, decide_eq_true a.1, decide_eq_true b]; rfl)) rfl
      · refine aw_iconst (v := 1) rfl (by decide) ?_
        refine aw_goto (tgt := 54) rfl (by decide) ?_
        exact aw_fz rfl rfl (by first | exact Or.inl rfl | exact Or.inr rfl | exact bB_01) (by
      unfold dg
      first
        | (have z : s 39 9 ≤ nI p := h8; rw [decide_eq_false (by intro e; rw [hT.2.2.1] at z; exact absurd z (nI_ge (by omega) (by omega)))]; rfl)
        | (have z : n8 (tx p) < 48 := h27
           rw [decide_eq_true hqE]
           by_cases a : 48 ≤ tx p
           · by_cases b : tx p ≤ 57
             · exact absurd (hn.2.2.1.mpr ⟨a, by omega⟩) (Int32.not_le.mpr z)
             · rw [decide_eq_false b, Bool.and_false, Bool.and_false]; rfl
           · rw [decide_eq_false a]; rfl)
        | (have z : 57 < n8 (tx p) := h46
           have a := hn.2.2.1.mp (Int32.not_lt.mp h27)
           rw [hn.2.2.2 a.2] at z
           have b : ¬ tx p ≤ 57 := fun e => absurd (nI_le (a := tx p) (b := 57) e (by decide)) (Int32.not_le.mpr z)
           rw [decide_eq_false b, Bool.and_false, Bool.and_false]; rfl)
        | (have a := hn.2.2.1.mp (Int32.not_lt.mp h27)
           have z : ¬ 57 < n8 (tx p) := h46
           rw [hn.2.2.2 a.2] at z
           have b : tx p ≤ 57 := by (by_cases e : tx p ≤ 57; exact e; exact absurd (nI_lt (a := 57) (b := tx p) (by omega) (by omega)) z)
           rw [decide_eq_true hqE, decide_eq_true a.1, decide_eq_true b]; rfl)) rfl
def wi (v : Int64) : Int32 := (if (if v < 1000000 then v else 1000000) < -1000000 then -1000000 else if v < 1000000 then v else 1000000).toInt32
def sgC (v : Int32) : Bool := decide (v = 61) || (decide (v = 60) || decide (v = 62))
set_option maxRecDepth 4000 in
theorem c_m_within {l : Launch} {g : ag_G} {s : am_S} {n : am_N} {v : Int64} : aw_F l g mi_X12_within 1 [.long v] (hp g s n) (.int (wi v)) (hp g s n) := by
  refine aw_F_of mo_X12_within (by decide) (Nat.le_of_ble_eq_true rfl) ?_
  refine aw_ldc2 (v := -1000000) rfl (aw_t7 51 rfl rfl) ?_
  refine aw_ldc2 (v := 1000000) rfl (aw_t7 52 rfl rfl) ?_
  refine aw_lload_n rfl rfl ?_
  refine aw_mmin_long rfl km_X12_145 (aw_t7 54 rfl rfl) (aw_t1 18 rfl rfl) (aw_t7 55 rfl rfl) (by decide) (Nat.le_of_ble_eq_true rfl) (by decide) (by decide) ?_
  refine aw_mmax_long rfl km_X12_151 (aw_t7 57 rfl rfl) (aw_t1 18 rfl rfl) (aw_t7 58 rfl rfl) (by decide) (Nat.le_of_ble_eq_true rfl) (by decide) (by decide) ?_
  refine aw_l2i rfl ?_
  exact aw_fi rfl rfl rfl rfl
set_option maxRecDepth 4000 in
theorem c_m_isSign {l : Launch} {g : ag_G} {s : am_S} {n : am_N} {v : Int32} : aw_F l g mi_X12_isSign 0 [.int v] (hp g s n) (.int (bB (sgC v))) (hp g s n) := by
  refine aw_F_of mo_X12_isSign (by decide) (Nat.le_of_ble_eq_true rfl) ?_
  refine aw_iload_n rfl rfl ?_
  refine aw_bipush (v := 61) rfl (by decide) ?_
  refine aw_icmp_eq (tgt := 18) rfl (by decide) (fun h3 => ?_) (fun h3 => ?_)
  · refine aw_iconst (v := 1) rfl (by decide) ?_
    refine aw_goto (tgt := 23) rfl (by decide) ?_
    exact aw_fz rfl rfl (by first | exact Or.inl rfl | exact Or.inr rfl | exact bB_01) (by unfold sgC; first | (rw [decide_eq_true h3]; rfl) | (rw [decide_eq_false h3, decide_eq_true h9]; rfl) | (rw [decide_eq_false h3, decide_eq_false h9, decide_eq_true h15]; rfl) | (rw [decide_eq_false h3, decide_eq_false h9, decide_eq_false h15]; rfl) | fail "x") rfl
  · refine aw_iload_n rfl rfl ?_
    refine aw_bipush (v := 60) rfl (by decide) ?_
    refine aw_icmp_eq (tgt := 18) rfl (by decide) (fun h9 => ?_) (fun h9 => ?_)
    · refine aw_iconst (v := 1) rfl (by decide) ?_
      refine aw_goto (tgt := 23) rfl (by decide) ?_
      exact aw_fz rfl rfl (by first | exact Or.inl rfl | exact Or.inr rfl | exact bB_01) (by unfold sgC; first | (rw [decide_eq_true h3]; rfl) | (rw [decide_eq_false h3, decide_eq_true h9]; rfl) | (rw [decide_eq_false h3, decide_eq_false h9, decide_eq_true h15]; rfl) | (rw [decide_eq_false h3, decide_eq_false h9, decide_eq_false h15]; rfl) | fail "x") rfl
    · refine aw_iload_n rfl rfl ?_
      refine aw_bipush (v := 62) rfl (by decide) ?_
      refine aw_icmp_ne (tgt := 22) rfl (by decide) (fun h15 => ?_) (fun h15 => ?_)
      · refine aw_iconst (v := 0) rfl (by decide) ?_
        exact aw_fz rfl rfl (by first | exact Or.inl rfl | exact Or.inr rfl | exact bB_01) (by unfold sgC; first | (rw [decide_eq_true h3]; rfl) | (rw [decide_eq_false h3, decide_eq_true h9]; rfl) | (rw [decide_eq_false h3, decide_eq_false h9, decide_eq_true h15]; rfl) | (rw [decide_eq_false h3, decide_eq_false h9, decide_eq_false h15]; rfl) | fail "x") rfl
      · refine aw_iconst (v := 1) rfl (by decide) ?_
        refine aw_goto (tgt := 23) rfl (by decide) ?_
        exact aw_fz rfl rfl (by first | exact Or.inl rfl | exact Or.inr rfl | exact bB_01) (by unfold sgC; first | (rw [decide_eq_true h3]; rfl) | (rw [decide_eq_false h3, decide_eq_true h9]; rfl) | (rw [decide_eq_false h3, decide_eq_false h9, decide_eq_true h15]; rfl) | (rw [decide_eq_false h3, decide_eq_false h9, decide_eq_false h15]; rfl) | fail "x") rfl
set_option maxRecDepth 4000 in
theorem c_m_here {l : Launch} {g : ag_G} {s : am_S} {n : am_N} {B b E p w : Nat} {tx : Nat → Nat} {f : Int32} (hT : TX s n B b E tx) (hp1 : p ≤ E) : aw_F l g mi_X12_here 0 [.ref (g_ad g 39)] (hp g (pst s p w f) n) (.int (cv tx E p)) (hp g (pst s p w f) n) := by
  have hE := hT.2.2.2.1
  refine aw_F_of mo_X12_here (by decide) (Nat.le_of_ble_eq_true rfl) ?_
  refine aw_aload_n rfl rfl ?_
  refine pg_39_10 rfl kl_X12_119 ?_
  refine aw_aload_n rfl rfl ?_
  refine pg_39_9 rfl kl_X12_122 ?_
  refine aw_icmp_ge (tgt := 32) rfl (by decide) (fun h8 => ?_) (fun h8 => ?_)
  · refine aw_iconst (v := -1) rfl (by decide) ?_
    first
    | (have z : s 39 9 ≤ nI p := h8
       exact aw_fi rfl rfl (by unfold cv; rw [if_neg (by intro e; rw [hT.2.2.1] at z; exact absurd z (nI_ge (by omega) (by omega)))]) rfl)
    | exact aw_fi rfl rfl (by unfold cv; rw [if_pos hqE]; exact (n8_c _ (hT.2.2.2.2.2 p hqE).1).2.1) rfl
  · have hqE : p < E := by (have z : ¬ s 39 9 ≤ nI p := h8; rw [hT.2.2.1] at z; by_cases e : p < E; exact e; exact absurd (nI_le (a := E) (b := p) (by omega) (by omega)) z)
    refine aw_aload_n rfl rfl ?_
    refine pg_39_5 rfl kl_X12_23 ?_
    refine aw_aload_n rfl rfl ?_
    refine pg_39_8 rfl kl_X12_125 ?_
    refine aw_aload_n rfl rfl ?_
    refine pg_39_10 rfl kl_X12_119 ?_
    refine aw_iadd rfl ?_
    refine pl_T (q := p) rfl (TX_ps hT) (show s 39 8 + nI p = nI (b + p) from by (rw [hT.2.1]; exact nI_add _ _)) (by omega) ?_
    refine aw_sipush (v := 255) rfl (by decide) ?_
    refine aw_iand rfl ?_
    refine aw_goto (tgt := 33) rfl (by decide) ?_
    first
    | (have z : s 39 9 ≤ nI p := h8
       exact aw_fi rfl rfl (by unfold cv; rw [if_neg (by intro e; rw [hT.2.2.1] at z; exact absurd z (nI_ge (by omega) (by omega)))]) rfl)
    | exact aw_fi rfl rfl (by unfold cv; rw [if_pos hqE]; exact (n8_c _ (hT.2.2.2.2.2 p hqE).1).2.1) rfl
set_option maxRecDepth 4000 in
theorem c_m_starts_40 {l : Launch} {g : ag_G} {s : am_S} {n : am_N} {b E : Nat} : aw_V l g mi_X12_starts 0 [.ref (g_ad g 39), .ref (g_ad g 40), .int (nI b), .int (nI E)] (hp g s n) (hp g (up (up (up (up s 39 8 (nI b)) 39 9 (nI E)) 39 10 0) 39 11 (-1)) (upT n 40)) := by
  refine aw_V_of mo_X12_starts (by decide) (Nat.le_of_ble_eq_true rfl) ?_
  refine aw_aload_n rfl rfl ?_
  refine aw_aload_n rfl rfl ?_
  refine pp_39_5 rfl kl_X12_23 ?_
  refine aw_aload_n rfl rfl ?_
  refine aw_iload_n rfl rfl ?_
  refine pp_39_8 rfl kl_X12_125 ?_
  refine aw_aload_n rfl rfl ?_
  refine aw_iload_n rfl rfl ?_
  refine pp_39_9 rfl kl_X12_122 ?_
  refine aw_aload_n rfl rfl ?_
  refine aw_iconst (v := 0) rfl (by decide) ?_
  refine pp_39_10 rfl kl_X12_119 ?_
  refine aw_aload_n rfl rfl ?_
  refine aw_iconst (v := -1) rfl (by decide) ?_
  refine pp_39_11 rfl kl_X12_128 ?_
  exact aw_fv rfl rfl rfl
set_option maxRecDepth 4000 in
theorem c_m_starts_41 {l : Launch} {g : ag_G} {s : am_S} {n : am_N} {b E : Nat} : aw_V l g mi_X12_starts 0 [.ref (g_ad g 39), .ref (g_ad g 41), .int (nI b), .int (nI E)] (hp g s n) (hp g (up (up (up (up s 39 8 (nI b)) 39 9 (nI E)) 39 10 0) 39 11 (-1)) (upT n 41)) := by
  refine aw_V_of mo_X12_starts (by decide) (Nat.le_of_ble_eq_true rfl) ?_
  refine aw_aload_n rfl rfl ?_
  refine aw_aload_n rfl rfl ?_
  refine pp_39_5 rfl kl_X12_23 ?_
  refine aw_aload_n rfl rfl ?_
  refine aw_iload_n rfl rfl ?_
  refine pp_39_8 rfl kl_X12_125 ?_
  refine aw_aload_n rfl rfl ?_
  refine aw_iload_n rfl rfl ?_
  refine pp_39_9 rfl kl_X12_122 ?_
  refine aw_aload_n rfl rfl ?_
  refine aw_iconst (v := 0) rfl (by decide) ?_
  refine pp_39_10 rfl kl_X12_119 ?_
  refine aw_aload_n rfl rfl ?_
  refine aw_iconst (v := -1) rfl (by decide) ?_
  refine pp_39_11 rfl kl_X12_128 ?_
  exact aw_fv rfl rfl rfl
