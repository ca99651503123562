/-! the class weighs a law by its code -/
def stk (f : Nat → Int32) : List Int32 → Prop
  | [] => True
  | b :: t => f t.length = b ∧ stk f t
theorem stk_upd {f : Nat → Int32} {k : Nat} {v : Int32} : ∀ (t : List Int32), stk f t → t.length ≤ k → stk (upd f k v) t
  | [], _, _ => trivial
  | _ :: t, h, hk => ⟨(upd_n (by simp at hk; omega)).trans h.1, stk_upd t h.2 (by simp at hk; omega)⟩
set_option maxRecDepth 4000 in
theorem wo_step {l : Launch} {g : ag_G} {s : am_S} {n : am_N} {j a len : Nat} {f : Nat → Int32} (ha : n.2.2.2[j]? = some (a, .inl (g_ca g 0, len, .inl f))) (hl : len ≤ 240) {Q : Option Value → va_W → Prop} {i : Nat} (hi : i < len) {f12 : Nat → Int32} {st st' : List Int32} (hs : stk f12 st) (hn : st.length ≤ i) (hst : stp (s 13) (f i) st = some st') (kk : ∀ f12', stk f12' st' → st'.length ≤ i + 1 → aw_W l g mi_X6_worth (aw_rm 2 0 0) (aw_Z g Q 0 0) 0 0 (hp g (upR s 12 f12') n) 67 [some (.ref (g_ad g 10)), some (.ref a), some (.int (nI st'.length)), some (.int (nI (i + 1))), none] []) : aw_W l g mi_X6_worth (aw_rm 2 0 0) (aw_Z g Q 0 0) 0 0 (hp g (upR s 12 f12) n) 67 [some (.ref (g_ad g 10)), some (.ref a), some (.int (nI st.length)), some (.int (nI i)), none] [] := by
  by_cases hx1 : f i < 20000
  · unfold stp at hst
    rw [if_pos hx1] at hst
    by_cases hx2 : f i < 10000
    · rw [if_pos hx2] at hst
      cases hst
      refine aw_iload_n rfl rfl ?_
      refine aw_aload_n rfl rfl ?_
      refine pn_X rfl ha rfl ?_
      refine aw_icmp_ge (tgt := 259) rfl (by decide) (fun h70 => absurd h70 (nI_ge (a := i) (b := len) hi (by omega))) (fun h70 => ?_)
      refine aw_aload_n rfl rfl ?_
      refine aw_iload_n rfl rfl ?_
      refine pl_X (q := i) rfl ha rfl hi (by omega) ?_
      refine aw_istore rfl (by decide) ?_
      refine aw_iload rfl rfl ?_
      refine aw_sipush (v := 20000) rfl (by decide) ?_
      refine aw_icmp_ge (tgt := 126) rfl (by decide) (fun h83 => absurd h83 (Int32.not_le.mpr hx1)) (fun h83 => ?_)
      refine aw_iload_n rfl rfl ?_
      refine aw_aload_n rfl rfl ?_
      refine pg_10_1 rfl kl_X6_19 ?_
      refine pn_12 (v := 240) rfl (by decide) ?_
      refine aw_icmp_ge (tgt := 253) rfl (by decide) (fun h92 => absurd h92 (nI_ge (a := st.length) (b := 240) (by omega) (by decide))) (fun h92 => ?_)
      refine aw_aload_n rfl rfl ?_
      refine pg_10_1 rfl kl_X6_19 ?_
      refine aw_iload_n rfl rfl ?_
      refine aw_iload rfl rfl ?_
      refine aw_sipush (v := 10000) rfl (by decide) ?_
      refine aw_icmp_ge (tgt := 113) rfl (by decide) (fun h105 => absurd h105 (Int32.not_le.mpr hx2)) (fun h105 => ?_)
      refine aw_iload rfl rfl ?_
      refine aw_goto (tgt := 119) rfl (by decide) ?_
      refine ps_12 (j := st.length) rfl rfl (by omega) ?_
      refine aw_eqs (ws' := hp g (upR s 12 (upd f12 st.length (f i))) n) ?_ rfl rfl (congrArg (fun z => hp g z n) upR_up)
      refine aw_inc1 rfl rfl (by decide) ?_
      refine aw_goto (tgt := 253) rfl (by decide) ?_
      refine aw_inc1 rfl rfl (by decide) ?_
      refine aw_goto (tgt := 67) rfl (by decide) ?_
      exact aw_wk (kk _ ⟨upd_s, stk_upd _ hs (Nat.le_refl _)⟩ (by simp; omega)) (And.intro rfl (And.intro rfl (And.intro (congrArg (fun x => some (Value.int x)) (nI_1 st.length)) (And.intro (congrArg (fun x => some (Value.int x)) (nI_1 i)) True.intro))))
    · rw [if_neg hx2] at hst
      cases hst
      refine aw_iload_n rfl rfl ?_
      refine aw_aload_n rfl rfl ?_
      refine pn_X rfl ha rfl ?_
      refine aw_icmp_ge (tgt := 259) rfl (by decide) (fun h70 => absurd h70 (nI_ge (a := i) (b := len) hi (by omega))) (fun h70 => ?_)
      refine aw_aload_n rfl rfl ?_
      refine aw_iload_n rfl rfl ?_
      refine pl_X (q := i) rfl ha rfl hi (by omega) ?_
      refine aw_istore rfl (by decide) ?_
      refine aw_iload rfl rfl ?_
      refine aw_sipush (v := 20000) rfl (by decide) ?_
      refine aw_icmp_ge (tgt := 126) rfl (by decide) (fun h83 => absurd h83 (Int32.not_le.mpr hx1)) (fun h83 => ?_)
      refine aw_iload_n rfl rfl ?_
      refine aw_aload_n rfl rfl ?_
      refine pg_10_1 rfl kl_X6_19 ?_
      refine pn_12 (v := 240) rfl (by decide) ?_
      refine aw_icmp_ge (tgt := 253) rfl (by decide) (fun h92 => absurd h92 (nI_ge (a := st.length) (b := 240) (by omega) (by decide))) (fun h92 => ?_)
      refine aw_aload_n rfl rfl ?_
      refine pg_10_1 rfl kl_X6_19 ?_
      refine aw_iload_n rfl rfl ?_
      refine aw_iload rfl rfl ?_
      refine aw_sipush (v := 10000) rfl (by decide) ?_
      refine aw_icmp_ge (tgt := 113) rfl (by decide) (fun h105 => ?_) (fun h105 => absurd (Int32.not_lt.mp hx2) h105)
      refine aw_aload_n rfl rfl ?_
      refine aw_iload rfl rfl ?_
      refine aw_iV (q0 := 10) (ci := 6) rfl cw_X6_38 rfl rfl rfl (c_X6_letterOf) rfl rfl (Nat.le_of_ble_eq_true rfl) (by decide) (by decide) (by decide) (by decide) ?_
      refine ps_12 (j := st.length) rfl rfl (by omega) ?_
      refine aw_eqs (ws' := hp g (upR s 12 (upd f12 st.length (ltA (s 13) (f i)))) n) ?_ rfl rfl (congrArg (fun z => hp g z n) upR_up)
      refine aw_inc1 rfl rfl (by decide) ?_
      refine aw_goto (tgt := 253) rfl (by decide) ?_
      refine aw_inc1 rfl rfl (by decide) ?_
      refine aw_goto (tgt := 67) rfl (by decide) ?_
      exact aw_wk (kk _ ⟨upd_s, stk_upd _ hs (Nat.le_refl _)⟩ (by simp; omega)) (And.intro rfl (And.intro rfl (And.intro (congrArg (fun x => some (Value.int x)) (nI_1 st.length)) (And.intro (congrArg (fun x => some (Value.int x)) (nI_1 i)) True.intro))))
  · unfold stp at hst
    rw [if_neg hx1] at hst
    by_cases hx3 : f i < 30000
    · rw [if_pos hx3] at hst
      by_cases hx4 : f i = 20059
      · rw [if_pos hx4] at hst; cases hst
      · rw [if_neg hx4] at hst
        cases st with
        | nil => cases hst
        | cons b t =>
          have hn2 : t.length + 1 ≤ i := hn
          dsimp only at hst
          by_cases hx5 : f i = 20033
          · rw [if_pos hx5] at hst
            cases hst
            refine aw_iload_n rfl rfl ?_
            refine aw_aload_n rfl rfl ?_
            refine pn_X rfl ha rfl ?_
            refine aw_icmp_ge (tgt := 259) rfl (by decide) (fun h70 => absurd h70 (nI_ge (a := i) (b := len) hi (by omega))) (fun h70 => ?_)
            refine aw_aload_n rfl rfl ?_
            refine aw_iload_n rfl rfl ?_
            refine pl_X (q := i) rfl ha rfl hi (by omega) ?_
            refine aw_istore rfl (by decide) ?_
            refine aw_iload rfl rfl ?_
            refine aw_sipush (v := 20000) rfl (by decide) ?_
            refine aw_icmp_ge (tgt := 126) rfl (by decide) (fun h83 => ?_) (fun h83 => absurd (Int32.not_lt.mp hx1) h83)
            refine aw_iload_n rfl rfl ?_
            refine aw_if_ne (tgt := 132) rfl (by decide) (fun h127 => ?_) (fun h127 => absurd h127 (nI_ne0 (n := t.length + 1) (by omega) (by omega)))
            refine aw_iload rfl rfl ?_
            refine aw_sipush (v := 30000) rfl (by decide) ?_
            refine aw_icmp_lt (tgt := 168) rfl (by decide) (fun h137 => ?_) (fun h137 => absurd (hx3) h137)
            refine aw_iload rfl rfl ?_
            refine aw_sipush (v := 20059) rfl (by decide) ?_
            refine aw_icmp_ne (tgt := 185) rfl (by decide) (fun h173 => ?_) (fun h173 => absurd h173 (hx4))
            refine aw_iload rfl rfl ?_
            refine aw_sipush (v := 20033) rfl (by decide) ?_
            refine aw_icmp_ne (tgt := 214) rfl (by decide) (fun h190 => absurd (hx5) h190) (fun h190 => ?_)
            refine aw_aload_n rfl rfl ?_
            refine pg_10_1 rfl kl_X6_19 ?_
            refine aw_iload_n rfl rfl ?_
            refine aw_iconst (v := 1) rfl (by decide) ?_
            refine aw_isub rfl ?_
            refine aw_iconst (v := 1) rfl (by decide) ?_
            refine aw_aload_n rfl rfl ?_
            refine pg_10_1 rfl kl_X6_19 ?_
            refine aw_iload_n rfl rfl ?_
            refine aw_iconst (v := 1) rfl (by decide) ?_
            refine aw_isub rfl ?_
            refine pl_12 (j := t.length) rfl (nI_pred t.length) (by omega) ?_
            refine aw_isub rfl ?_
            refine ps_12 (j := t.length) rfl (nI_pred t.length) (by omega) ?_
            refine aw_eqs (ws' := hp g (upR s 12 (upd f12 t.length (1 - f12 t.length))) n) ?_ rfl rfl (congrArg (fun z => hp g z n) upR_up)
            refine aw_goto (tgt := 253) rfl (by decide) ?_
            refine aw_inc1 rfl rfl (by decide) ?_
            refine aw_goto (tgt := 67) rfl (by decide) ?_
            exact aw_wk (kk _ ⟨by rw [upd_s, hs.1], stk_upd _ hs.2 (Nat.le_refl _)⟩ (by simp; omega)) (And.intro rfl (And.intro rfl (And.intro rfl (And.intro (congrArg (fun x => some (Value.int x)) (nI_1 i)) True.intro))))
          · rw [if_neg hx5] at hst
            cases t with
            | nil => cases hst
            | cons c t =>
              cases hst
              have hn3 : t.length + 1 + 1 ≤ i := hn2
              refine aw_iload_n rfl rfl ?_
              refine aw_aload_n rfl rfl ?_
              refine pn_X rfl ha rfl ?_
              refine aw_icmp_ge (tgt := 259) rfl (by decide) (fun h70 => absurd h70 (nI_ge (a := i) (b := len) hi (by omega))) (fun h70 => ?_)
              refine aw_aload_n rfl rfl ?_
              refine aw_iload_n rfl rfl ?_
              refine pl_X (q := i) rfl ha rfl hi (by omega) ?_
              refine aw_istore rfl (by decide) ?_
              refine aw_iload rfl rfl ?_
              refine aw_sipush (v := 20000) rfl (by decide) ?_
              refine aw_icmp_ge (tgt := 126) rfl (by decide) (fun h83 => ?_) (fun h83 => absurd (Int32.not_lt.mp hx1) h83)
              refine aw_iload_n rfl rfl ?_
              refine aw_if_ne (tgt := 132) rfl (by decide) (fun h127 => ?_) (fun h127 => absurd h127 (nI_ne0 (n := t.length + 1 + 1) (by omega) (by omega)))
              refine aw_iload rfl rfl ?_
              refine aw_sipush (v := 30000) rfl (by decide) ?_
              refine aw_icmp_lt (tgt := 168) rfl (by decide) (fun h137 => ?_) (fun h137 => absurd (hx3) h137)
              refine aw_iload rfl rfl ?_
              refine aw_sipush (v := 20059) rfl (by decide) ?_
              refine aw_icmp_ne (tgt := 185) rfl (by decide) (fun h173 => ?_) (fun h173 => absurd h173 (hx4))
              refine aw_iload rfl rfl ?_
              refine aw_sipush (v := 20033) rfl (by decide) ?_
              refine aw_icmp_ne (tgt := 214) rfl (by decide) (fun h190 => ?_) (fun h190 => absurd h190 (hx5))
              refine aw_iload_n rfl rfl ?_
              refine aw_iconst (v := 2) rfl (by decide) ?_
              refine aw_icmp_lt (tgt := 253) rfl (by decide) (fun h216 => absurd h216 (nI_nlt (a := t.length + 1 + 1) (b := 2) (by omega) (by omega))) (fun h216 => ?_)
              refine aw_iinc rfl rfl rfl (by decide) ?_
              refine aw_aload_n rfl rfl ?_
              refine pg_10_1 rfl kl_X6_19 ?_
              refine aw_iload_n rfl rfl ?_
              refine aw_iconst (v := 1) rfl (by decide) ?_
              refine aw_isub rfl ?_
              refine aw_iload rfl rfl ?_
              refine aw_sipush (v := 20000) rfl (by decide) ?_
              refine aw_isub rfl ?_
              refine aw_aload_n rfl rfl ?_
              refine pg_10_1 rfl kl_X6_19 ?_
              refine aw_iload_n rfl rfl ?_
              refine aw_iconst (v := 1) rfl (by decide) ?_
              refine aw_isub rfl ?_
              refine pl_12 (j := t.length) rfl (show nI (t.length + 1 + 1) + (-1) - 1 = nI t.length from by rw [pk_m1, nI_pred]) (by omega) ?_
              refine aw_aload_n rfl rfl ?_
              refine pg_10_1 rfl kl_X6_19 ?_
              refine aw_iload_n rfl rfl ?_
              refine pl_12 (j := t.length + 1) rfl (show nI (t.length + 1 + 1) + (-1) = nI (t.length + 1) from pk_m1 _) (by omega) ?_
              refine aw_iS rfl cw_X6_48 (c_X6_joined) rfl rfl (Nat.le_of_ble_eq_true rfl) (by decide) (by decide) (by decide) (by decide) ?_
              refine ps_12 (j := t.length) rfl (show nI (t.length + 1 + 1) + (-1) - 1 = nI t.length from by rw [pk_m1, nI_pred]) (by omega) ?_
              refine aw_eqs (ws' := hp g (upR s 12 (upd f12 t.length (jn (f i - 20000) (f12 t.length) (f12 (t.length + 1))))) n) ?_ rfl rfl (congrArg (fun z => hp g z n) upR_up)
              refine aw_inc1 rfl rfl (by decide) ?_
              refine aw_goto (tgt := 67) rfl (by decide) ?_
              exact aw_wk (kk _ ⟨by rw [upd_s, hs.2.1, show f12 (t.length + 1) = b from hs.1], stk_upd _ hs.2.2 (Nat.le_refl _)⟩ (by simp; omega)) (And.intro rfl (And.intro rfl (And.intro (congrArg (fun x => some (Value.int x)) (show nI (t.length + 1 + 1) + (-1) = nI (t.length + 1) from pk_m1 _)) (And.intro (congrArg (fun x => some (Value.int x)) (nI_1 i)) True.intro))))
    · rw [if_neg hx3] at hst; cases hst
theorem wo_ev {l : Launch} {g : ag_G} {s : am_S} {n : am_N} {j a len : Nat} {f : Nat → Int32} (ha : n.2.2.2[j]? = some (a, .inl (g_ca g 0, len, .inl f))) (hl : len ≤ 240) {Q : Option Value → va_W → Prop} : ∀ (d i : Nat) (f12 : Nat → Int32) (st st' : List Int32), evC (s 13) f d i st = some st' → i + d ≤ len → stk f12 st → st.length ≤ i → (∀ f12', stk f12' st' → st'.length ≤ i + d → aw_W l g mi_X6_worth (aw_rm 2 0 0) (aw_Z g Q 0 0) 0 0 (hp g (upR s 12 f12') n) 67 [some (.ref (g_ad g 10)), some (.ref a), some (.int (nI st'.length)), some (.int (nI (i + d))), none] []) → aw_W l g mi_X6_worth (aw_rm 2 0 0) (aw_Z g Q 0 0) 0 0 (hp g (upR s 12 f12) n) 67 [some (.ref (g_ad g 10)), some (.ref a), some (.int (nI st.length)), some (.int (nI i)), none] []
  | 0, i, f12, st, st', h, hi, hs, hn, kk => by cases h; exact kk f12 hs hn
  | d + 1, i, f12, st, st', h, hi, hs, hn, kk => by
    simp only [evC] at h
    cases hz : stp (s 13) (f i) st with
    | none => rw [hz] at h; cases h
    | some z =>
      rw [hz] at h
      refine wo_step ha hl (by omega) hs hn hz (fun f1 h1 h2 => ?_)
      refine wo_ev ha hl d (i + 1) f1 z st' h (by omega) h1 h2 (fun f2 h3 h4 => ?_)
      have h5 := kk f2 h3 (by omega)
      rw [show i + 1 + d = i + (d + 1) by omega]
      exact h5
theorem eo_12 {s : am_S} {f : Nat → Int32} : eo skC s (upR s 12 f) := eo_upRK (fun _ => rfl) eo_rf
set_option maxRecDepth 4000 in
theorem wo_end {l : Launch} {g : ag_G} {s : am_S} {n : am_N} {j a len : Nat} {f : Nat → Int32} (ha : n.2.2.2[j]? = some (a, .inl (g_ca g 0, len, .inl f))) (hl : len ≤ 240) {Q : Option Value → va_W → Prop} {i : Nat} (hi : i < len) {f12 : Nat → Int32} {x : Int32} (hf : f i = 20059) (hs : f12 0 = x) (hQ : Q (some (.int x)) (hp g (upR s 12 f12) n)) : aw_W l g mi_X6_worth (aw_rm 2 0 0) (aw_Z g Q 0 0) 0 0 (hp g (upR s 12 f12) n) 67 [some (.ref (g_ad g 10)), some (.ref a), some (.int (nI 1)), some (.int (nI i)), none] [] := by
  refine aw_iload_n rfl rfl ?_
  refine aw_aload_n rfl rfl ?_
  refine pn_X rfl ha rfl ?_
  refine aw_icmp_ge (tgt := 259) rfl (by decide) (fun h70 => absurd h70 (nI_ge (a := i) (b := len) hi (by omega))) (fun h70 => ?_)
  refine aw_aload_n rfl rfl ?_
  refine aw_iload_n rfl rfl ?_
  refine pl_X (q := i) rfl ha rfl hi (by omega) ?_
  refine aw_istore rfl (by decide) ?_
  refine aw_iload rfl rfl ?_
  refine aw_sipush (v := 20000) rfl (by decide) ?_
  refine aw_icmp_ge (tgt := 126) rfl (by decide) (fun h83 => ?_) (fun h83 => absurd (by rw [hf]; decide) h83)
  refine aw_iload_n rfl rfl ?_
  refine aw_if_ne (tgt := 132) rfl (by decide) (fun h127 => ?_) (fun h127 => absurd h127 (by decide))
  refine aw_iload rfl rfl ?_
  refine aw_sipush (v := 30000) rfl (by decide) ?_
  refine aw_icmp_lt (tgt := 168) rfl (by decide) (fun h137 => ?_) (fun h137 => absurd (by rw [hf]; decide) h137)
  refine aw_iload rfl rfl ?_
  refine aw_sipush (v := 20059) rfl (by decide) ?_
  refine aw_icmp_ne (tgt := 185) rfl (by decide) (fun h173 => absurd (hf) h173) (fun h173 => ?_)
  refine aw_aload_n rfl rfl ?_
  refine pg_10_1 rfl kl_X6_19 ?_
  refine aw_iload_n rfl rfl ?_
  refine aw_iconst (v := 1) rfl (by decide) ?_
  refine aw_isub rfl ?_
  refine pl_12 (j := 0) rfl (by decide) (by decide) ?_
  exact aw_iret rfl rfl (by (rw [← hs] at hQ; exact hQ))
theorem mx_nI {a b : Nat} (h : a ≤ b) (hb : b < 2 ^ 31) : (if nI a < nI b then nI b else nI a) = nI b := by
  by_cases e : a < b
  · rw [if_pos (nI_lt e hb)]
  · obtain rfl : a = b := by omega
    rw [if_neg (nI_nlt (Nat.le_refl _) hb)]
theorem n30 {K : Nat} : (30000 : Int32) + nI K = nI (30000 + K) := nI_add 30000 K
theorem n30m {K : Nat} (h : 0 < K) : nI (30000 + K) - 30000 - 1 = nI (K - 1) := by
  rw [show nI (30000 + K) - 30000 = nI (30000 + K - 30000) from nI_sb (b := 30000) (by omega), show 30000 + K - 30000 = K by omega]
  exact nI_m1 h
set_option maxRecDepth 4000 in
theorem wo_cl {l : Launch} {g : ag_G} {s : am_S} {n : am_N} {j a len : Nat} {f : Nat → Int32} (ha : n.2.2.2[j]? = some (a, .inl (g_ca g 0, len, .inl f))) (hl : len ≤ 240) {Q : Option Value → va_W → Prop} : ∀ (L : List (Ex × Ex)) (K : Nat) (f12 : Nat → Int32), CL f K L len → (∀ f1, Q (some (.int (vL L (s 13)))) (hp g (upR s 12 f1) n)) → aw_W l g mi_X6_worth (aw_rm 2 0 0) (aw_Z g Q 0 0) 0 0 (hp g (upR s 12 f12) n) 67 [some (.ref (g_ad g 10)), some (.ref a), some (.int (nI 0)), some (.int (nI K)), none] []
  | [], K, f12, h, hQ => by
    obtain rfl : len = K := h
    refine aw_iload_n rfl rfl ?_
    refine aw_aload_n rfl rfl ?_
    refine pn_X rfl ha rfl ?_
    refine aw_icmp_ge (tgt := 259) rfl (by decide) (fun h70 => ?_) (fun h70 => absurd (nI_le (Nat.le_refl _) (by omega)) h70)
    refine aw_iconst (v := 0) rfl (by decide) ?_
    exact aw_iret rfl rfl (hQ f12)
  | z :: r, K, f12, ⟨K1, h1, h2⟩, hQ => by
    have hK := CL_le r K1 len h2
    rcases h1 with ⟨h0, d, h1, h3, h4⟩ | ⟨d1, d2, h1, h3, h4, h5, h6⟩
    · have hv : vL (z :: r) (s 13) = z.2 (s 13) := by
        simp only [vL]
        rw [if_neg (by rw [h0]; show ¬ (1 : Int32) = 0; decide)]
      rw [hv] at hQ
      exact wo_ev ha hl d K f12 [] _ (h3 (s 13) []) (by omega) trivial (Nat.zero_le _) (fun f1 g1 g2 => wo_end ha hl (by omega) h4 g1.1 (hQ f1))
    · refine wo_ev ha hl d1 K f12 [] _ (h3 (s 13) []) (by omega) trivial (Nat.zero_le _) (fun f1 g1 g2 => ?_)
      have hc : f1 0 = z.1 (s 13) := g1.1
      obtain ⟨i, hie⟩ : ∃ i, i = K + d1 := ⟨_, rfl⟩
      have hi : i < len := by omega
      have hf : f i = nI (30000 + K1) := by rw [hie, h4, n30]
      rw [← hie, show [z.1 (s 13)].length = 1 from rfl]
      by_cases hz : z.1 (s 13) = 0
      · have hv : vL (z :: r) (s 13) = vL r (s 13) := by simp only [vL]; rw [if_pos hz]
        rw [hv] at hQ
        refine aw_iload_n rfl rfl ?_
        refine aw_aload_n rfl rfl ?_
        refine pn_X rfl ha rfl ?_
        refine aw_icmp_ge (tgt := 259) rfl (by decide) (fun h70 => absurd h70 (nI_ge (a := i) (b := len) hi (by omega))) (fun h70 => ?_)
        refine aw_aload_n rfl rfl ?_
        refine aw_iload_n rfl rfl ?_
        refine pl_X (q := i) rfl ha rfl hi (by omega) ?_
        refine aw_istore rfl (by decide) ?_
        refine aw_iload rfl rfl ?_
        refine aw_sipush (v := 20000) rfl (by decide) ?_
        refine aw_icmp_ge (tgt := 126) rfl (by decide) (fun h83 => ?_) (fun h83 => absurd (by rw [hf]; exact nI_le (a := 20000) (by omega) (by omega)) h83)
        refine aw_iload_n rfl rfl ?_
        refine aw_if_ne (tgt := 132) rfl (by decide) (fun h127 => ?_) (fun h127 => absurd h127 (by decide))
        refine aw_iload rfl rfl ?_
        refine aw_sipush (v := 30000) rfl (by decide) ?_
        refine aw_icmp_lt (tgt := 168) rfl (by decide) (fun h137 => absurd h137 (by rw [hf]; exact nI_nlt (b := 30000) (by omega) (by omega))) (fun h137 => ?_)
        refine aw_iinc rfl rfl rfl (by decide) ?_
        refine aw_aload_n rfl rfl ?_
        refine pg_10_1 rfl kl_X6_19 ?_
        refine aw_iload_n rfl rfl ?_
        refine pl_12 (j := 0) rfl (by decide) (by decide) ?_
        refine aw_if_ne (tgt := 253) rfl (by decide) (fun h149 => absurd (hc.trans hz) h149) (fun h149 => ?_)
        refine aw_iload_n rfl rfl ?_
        refine aw_iload rfl rfl ?_
        refine aw_sipush (v := 30000) rfl (by decide) ?_
        refine aw_isub rfl ?_
        refine aw_iconst (v := 1) rfl (by decide) ?_
        refine aw_isub rfl ?_
        refine aw_mmax rfl km_X6_42 (aw_t2 168 rfl rfl) (aw_t1 18 rfl rfl) (aw_t2 169 rfl rfl) (by decide) (Nat.le_of_ble_eq_true rfl) (by decide) (by decide) ?_
        rw [show (if nI i < f i - 30000 - 1 then f i - 30000 - 1 else nI i) = nI (K1 - 1) from by (rw [hf, n30m (by omega), mx_nI (by omega) (by omega)])]
        refine aw_istore_n rfl (by decide) ?_
        refine aw_goto (tgt := 253) rfl (by decide) ?_
        refine aw_inc1 rfl rfl (by decide) ?_
        refine aw_goto (tgt := 67) rfl (by decide) ?_
        exact aw_wk (wo_cl ha hl r K1 f1 h2 hQ) (And.intro rfl (And.intro rfl (And.intro (congrArg (fun x => some (Value.int x)) (show nI 1 + Int32.ofInt (-1) = nI 0 from by decide)) (And.intro (congrArg (fun x => some (Value.int x)) (show nI (K1 - 1) + 1 = nI K1 from by (rw [nI_1]; exact congrArg nI (by omega)))) True.intro))))
      · have hv : vL (z :: r) (s 13) = z.2 (s 13) := by simp only [vL]; rw [if_neg hz]
        rw [hv] at hQ
        refine aw_iload_n rfl rfl ?_
        refine aw_aload_n rfl rfl ?_
        refine pn_X rfl ha rfl ?_
        refine aw_icmp_ge (tgt := 259) rfl (by decide) (fun h70 => absurd h70 (nI_ge (a := i) (b := len) hi (by omega))) (fun h70 => ?_)
        refine aw_aload_n rfl rfl ?_
        refine aw_iload_n rfl rfl ?_
        refine pl_X (q := i) rfl ha rfl hi (by omega) ?_
        refine aw_istore rfl (by decide) ?_
        refine aw_iload rfl rfl ?_
        refine aw_sipush (v := 20000) rfl (by decide) ?_
        refine aw_icmp_ge (tgt := 126) rfl (by decide) (fun h83 => ?_) (fun h83 => absurd (by rw [hf]; exact nI_le (a := 20000) (by omega) (by omega)) h83)
        refine aw_iload_n rfl rfl ?_
        refine aw_if_ne (tgt := 132) rfl (by decide) (fun h127 => ?_) (fun h127 => absurd h127 (by decide))
        refine aw_iload rfl rfl ?_
        refine aw_sipush (v := 30000) rfl (by decide) ?_
        refine aw_icmp_lt (tgt := 168) rfl (by decide) (fun h137 => absurd h137 (by rw [hf]; exact nI_nlt (b := 30000) (by omega) (by omega))) (fun h137 => ?_)
        refine aw_iinc rfl rfl rfl (by decide) ?_
        refine aw_aload_n rfl rfl ?_
        refine pg_10_1 rfl kl_X6_19 ?_
        refine aw_iload_n rfl rfl ?_
        refine pl_12 (j := 0) rfl (by decide) (by decide) ?_
        refine aw_if_ne (tgt := 253) rfl (by decide) (fun h149 => ?_) (fun h149 => absurd h149 (by rw [show (upR s 12 f1) 12 0 = f1 0 from rfl, hc]; exact hz))
        refine aw_inc1 rfl rfl (by decide) ?_
        refine aw_goto (tgt := 67) rfl (by decide) ?_
        refine aw_wk (wo_ev ha hl d2 (i + 1) f1 [] _ (by rw [hie]; exact h5 (s 13) []) (by omega) trivial (Nat.zero_le _) (fun f2 g1 g2 => ?_)) (And.intro rfl (And.intro rfl (And.intro (congrArg (fun x => some (Value.int x)) (show nI 1 + Int32.ofInt (-1) = nI 0 from by decide)) (And.intro (congrArg (fun x => some (Value.int x)) (nI_1 i)) True.intro))))
        exact wo_end ha hl (by omega) (by rw [hie]; exact h6) g1.1 (hQ f2)
theorem lawIs_law {l : Launch} {g : ag_G} {s : am_S} {n : am_N} {j a len k K : Nat} {f : Nat → Int32} {L : List (Ex × Ex)} (ha : n.2.2.2[j]? = some (a, .inl (g_ca g 0, len, .inl f))) (hl : len ≤ 240) (hC : CL f 0 L len) (hag : agr (vL L)) (h4 : s 10 4 = nI k) (h3 : s 10 3 = nI K) (hk : k < K) (hK : K ≤ 4) (hr : n.2.1 11 k = some a) : LawIs l g s n (vL L) := by
  refine ⟨fun s1 hs1 => ?_, hag⟩
  have e4 : s1 10 4 = nI k := (hs1 4).trans h4
  have e3 : s1 10 3 = nI K := (hs1 3).trans h3
  clear h4 h3 hs1
  refine aw_E_of mo_X6_worth (by decide) (Nat.le_of_ble_eq_true rfl) ?_
  refine aw_aload_n rfl rfl ?_
  refine pg_10_4 rfl kl_X6_25 ?_
  refine aw_if_lt (tgt := 30) rfl (by decide) (fun h4 => absurd h4 (by rw [e4]; exact nI_pos (by omega))) (fun h4 => ?_)
  refine aw_aload_n rfl rfl ?_
  refine pg_10_4 rfl kl_X6_25 ?_
  refine aw_aload_n rfl rfl ?_
  refine pg_10_3 rfl kl_X6_29 ?_
  refine aw_icmp_ge (tgt := 30) rfl (by decide) (fun h15 => absurd h15 (by rw [e4, e3]; exact nI_ge hk (by omega))) (fun h15 => ?_)
  refine aw_aload_n rfl rfl ?_
  refine pg_10_0 rfl kl_X6_13 ?_
  refine aw_aload_n rfl rfl ?_
  refine pg_10_4 rfl kl_X6_25 ?_
  refine pl_11 (j := k) rfl e4 (by omega) ?_
  rw [hr]
  refine aw_ifnonnull (tgt := 53) rfl (by decide) ?_
  refine aw_aload_n rfl rfl ?_
  refine pg_10_0 rfl kl_X6_13 ?_
  refine aw_aload_n rfl rfl ?_
  refine pg_10_4 rfl kl_X6_25 ?_
  refine pl_11 (j := k) rfl e4 (by omega) ?_
  rw [hr]
  refine aw_astore_n rfl (by decide) ?_
  refine aw_iconst (v := 0) rfl (by decide) ?_
  refine aw_istore_n rfl (by decide) ?_
  refine aw_iconst (v := 0) rfl (by decide) ?_
  refine aw_istore_n rfl (by decide) ?_
  have hz := wo_cl (l := l) (g := g) (s := s1) (n := n) (Q := fun r z => ∃ s', r = some (.int (vL L (s1 13))) ∧ z = hp g s' n ∧ eo skC s1 s') ha hl L 0 (s1 12) hC (fun f1 => ⟨_, rfl, rfl, eo_12⟩)
  rw [upR_rf] at hz
  exact aw_wk hz (And.intro rfl (And.intro rfl (And.intro rfl (And.intro rfl True.intro))))
theorem lawIs_no {l : Launch} {g : ag_G} {s : am_S} {n : am_N} (h4 : s 10 4 = -1) : LawIs l g s n (fun A => A 0 + 2 * A 1 - A 2) := by
  refine ⟨fun s1 hs1 => ?_, fun A B h => by show A 0 + 2 * A 1 - A 2 = B 0 + 2 * B 1 - B 2; rw [h 0 (by decide), h 1 (by decide), h 2 (by decide)]⟩
  have e4 : s1 10 4 = -1 := (hs1 4).trans h4
  refine aw_E_of mo_X6_worth (by decide) (Nat.le_of_ble_eq_true rfl) ?_
  refine aw_aload_n rfl rfl ?_
  refine pg_10_4 rfl kl_X6_25 ?_
  refine aw_if_lt (tgt := 30) rfl (by decide) (fun h4 => ?_) (fun h4 => absurd (by rw [e4]; decide) h4)
  refine aw_aload_n rfl rfl ?_
  refine pg_10_2 rfl kl_X6_22 ?_
  refine aw_iconst (v := 0) rfl (by decide) ?_
  refine pl_13 (j := 0) rfl rfl (by decide) ?_
  refine aw_iconst (v := 2) rfl (by decide) ?_
  refine aw_aload_n rfl rfl ?_
  refine pg_10_2 rfl kl_X6_22 ?_
  refine aw_iconst (v := 1) rfl (by decide) ?_
  refine pl_13 (j := 1) rfl rfl (by decide) ?_
  refine aw_imul rfl ?_
  refine aw_iadd rfl ?_
  refine aw_aload_n rfl rfl ?_
  refine pg_10_2 rfl kl_X6_22 ?_
  refine aw_iconst (v := 2) rfl (by decide) ?_
  refine pl_13 (j := 2) rfl rfl (by decide) ?_
  refine aw_isub rfl ?_
  exact aw_ei rfl rfl rfl eo_rf
