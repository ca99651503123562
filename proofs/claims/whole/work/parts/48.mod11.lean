/-! the reference: pack, order, odds, all, thing -/
/-- scratch of the public ones too: costs, suns, melts, dealt -/
def skN : Nat → Nat → Bool := fun k j => skM k j || (Nat.beq k 57 || (Nat.beq k 58 || (Nat.beq k 59 || (Nat.beq k 53 || (Nat.beq k 39 && [44, 45].contains j)))))
theorem eo_MN {s s' : am_S} (h : eo skM s s') : eo skN s s' := fun k j e => h k j (by unfold skN at e; exact (Bool.or_eq_false_iff.mp e).1)
theorem MC_eN {l : Launch} {g : ag_G} {MI : am_S → am_N → Prop} {V : (Nat → Int32) → Int32} {s s' : am_S} {n n' : am_N} {T Q : Nat} (h : MC l g MI V s n T Q) (e : eo skN s s') (hm : MI s' n') : MC l g MI V s' n' T Q := by
  have e46 := eo_cell e 46 (fun _ => rfl)
  refine ⟨mb_m h.1 (e 39 26 rfl) (e 39 27 rfl) e46, by rw [e 39 34 rfl]; exact h.2.1, hm, ?_⟩
  rw [e46]
  exact h.2.2.2
theorem hbm_c {V : (Nat → Int32) → Int32} {s s' : am_S} (h46 : s' 46 = s 46) : hbm V s' = hbm V s := by
  funext f j h w su t
  unfold hbm
  rw [h46]
theorem mnm_c {V : (Nat → Int32) → Int32} {s s' : am_S} (h46 : s' 46 = s 46) (h52 : s' 52 = s 52) : mnm V s' = mnm V s := by
  funext j h w m
  unfold mnm mtm
  rw [hbm_c h46, h46, h52]
theorem ndm_c {V : (Nat → Int32) → Int32} {s s' : am_S} (h46 : s' 46 = s 46) (h52 : s' 52 = s 52) : ndm V s' = ndm V s := by
  funext j m
  unfold ndm
  rw [mnm_c h46 h52, h52]
theorem hnm_c {V : (Nat → Int32) → Int32} {s s' : am_S} (h46 : s' 46 = s 46) : hnm V s' = hnm V s := by
  funext f j
  unfold hnm
  rw [hbm_c h46, h46]
theorem upMI {l : Launch} {g : ag_G} {MI : am_S → am_N → Prop} {V : (Nat → Int32) → Int32} {s s1 : am_S} {n n1 : am_N} {T Q : Nat} (h : MC l g MI V s n T Q) (m : MI s1 n1) {i : Nat} {v : Int32} : MI (up s1 57 i v) n1 := h.2.1.2.2.1 s1 _ n1 n1 m rfl rfl rfl rfl rfl rfl
theorem upMJ {l : Launch} {g : ag_G} {MI : am_S → am_N → Prop} {V : (Nat → Int32) → Int32} {s s1 : am_S} {n n1 : am_N} {T Q : Nat} (h : MC l g MI V s n T Q) (m : MI s1 n1) {i : Nat} {v : Int32} : MI (up s1 58 i v) n1 ∧ MI (up s1 59 i v) n1 := ⟨h.2.1.2.2.1 s1 _ n1 n1 m rfl rfl rfl rfl rfl rfl, h.2.1.2.2.1 s1 _ n1 n1 m rfl rfl rfl rfl rfl rfl⟩
theorem skN_57 : ∀ j, skN 57 j = true := fun _ => rfl
theorem skN_58 : ∀ j, skN 58 j = true := fun _ => rfl
theorem skN_59 : ∀ j, skN 59 j = true := fun _ => rfl
def csm (V : (Nat → Int32) → Int32) (s : am_S) (M q : Nat) : Int32 := if s 52 (3 * q + 1) = 0 then -1 else ndm V s q M
def pkI (cs D : Nat → Int32) (x t : Nat) (a : Int32 × Int32 × Int32) : Int32 × Int32 × Int32 := if hs (nI x) (nI t) = true then (if a.1 = 0 then 0 else if cs t = -1 then 0 else 1, a.2.1 + cs t, a.2.2 + D (5 * t + 2)) else a
def pkO (cs D : Nat → Int32) (wx : Int32) (T x : Nat) (a : Int32 × Int32) : Int32 × Int32 := (fun z : Int32 × Int32 × Int32 => if z.1 = 0 then a else if wx < z.2.1 then a else if a.2 < z.2.2 then (nI x, z.2.2) else a) (fd (pkI cs D x) 0 T (1, 0, 0))
def pkR (V : (Nat → Int32) → Int32) (s : am_S) (T M : Nat) : Int32 × Int32 := fd (pkO (csm V s M) (s 46) (s 52 31) T) 1 (2 ^ T - 1) (0, 0)
def m_pack (V : (Nat → Int32) → Int32) (s : am_S) (T : Nat) (m x : Int32) : Int32 := if s 39 26 = 0 then -1 else if inn m.toInt64 1 24 = true then (if inn x.toInt64 0 1 = true then (if x = 0 then (pkR V s T (cl m)).1 else (pkR V s T (cl m)).2) else -1) else -1
theorem pkI_c {cs cs' D : Nat → Int32} {x : Nat} : ∀ (d t : Nat) (a : Int32 × Int32 × Int32), (∀ q, q < t + d → cs q = cs' q) → fd (pkI cs D x) t d a = fd (pkI cs' D x) t d a
  | 0, _, _, _ => rfl
  | d + 1, t, a, h => by
    simp only [fd]
    rw [show pkI cs D x t a = pkI cs' D x t a from by unfold pkI; rw [h t (by omega)]]
    exact pkI_c d (t + 1) _ (fun q hq => h q (by omega))
set_option maxRecDepth 4000 in
theorem c_m_pack {l : Launch} {g : ag_G} {s : am_S} {n : am_N} {MI : am_S → am_N → Prop} {V : (Nat → Int32) → Int32} {T Q : Nat} (hC : MC l g MI V s n T Q) (hr : rwb (s 52) T Q) {m x : Int32} : aw_R l g mi_X12_pack 104 skN [.ref (g_ad g 39), .int m, .int x] s n MI (.int (m_pack V (up s 39 0 0) T m x)) ((up s 39 0 0)) := by
  refine aw_R_of mo_X12_pack (by decide) (Nat.le_of_ble_eq_true rfl) ?_
  refine aw_aload_n rfl rfl ?_
  refine aw_iconst (v := 0) rfl (by decide) ?_
  refine pp_39_0 rfl kl_X12_96 ?_
  have hC : MC l g MI V (up s 39 0 0) n T Q := hC.z0
  have hr : rwb ((up s 39 0 0) 52) T Q := hr
  generalize up s 39 0 0 = S at *
  have hT := hC.1.2.1
  have hTe := hC.1.1
  have h2T : 2 ^ T ≤ 128 := Nat.le_trans (Nat.pow_le_pow_right (by decide) hT) (by decide)
  have h1T : 1 ≤ 2 ^ T := Nat.one_le_two_pow
  have loop2 : ∀ (X : Int32) (s1 : am_S) (n1 : am_N) (cs : Nat → Int32), eo skN S s1 → en n n1 → MI s1 n1 → (∀ q, q < T → s1 57 q = cs q) → ∀ (ZZ : Int32 × Int32), (if x = 0 then ZZ.1 else ZZ.2) = X → ∀ (d i : Nat) (a : Int32 × Int32), i + d = 2 ^ T → fd (pkO cs (S 46) (S 52 31) T) i d a = ZZ → aw_W l g mi_X12_pack (aw_rm 104 0 0) (aw_Z g (fun r w => ∃ s' n', r = some (.int X) ∧ w = hp g s' n' ∧ eo skN S s' ∧ en n n' ∧ MI s' n') 0 0) 0 0 (hp g s1 n1) 82 [some (.ref (g_ad g 39)), some (.int m), some (.int x), some (.int a.1), some (.int a.2), some (.int (nI i)), none, none, none, none] [] := by
    intro X s1 n1 cs e1 f1 m1 hcs ZZ hZ d
    have hT1 : s1 39 26 = nI T := (e1 39 26 rfl).trans hTe
    have h46 : s1 46 = S 46 := eo_cell e1 46 (fun _ => rfl)
    induction d with
    | zero =>
      intro i a hi hX
      simp only [fd] at hX
      subst hX
      refine aw_iload rfl rfl ?_
      refine aw_iconst (v := 1) rfl (by decide) ?_
      refine aw_aload_n rfl rfl ?_
      refine pg_39_26 rfl kl_X12_291 ?_
      refine aw_ishl rfl ?_
      refine aw_icmp_ge (tgt := 220) rfl (by decide) (fun h90 => ?_) (fun h90 => absurd (by rw [hT1, sh1 hT]; exact nI_le (by omega) (by omega)) h90)
      refine aw_iload_n rfl rfl ?_
      refine aw_if_ne (tgt := 228) rfl (by decide) (fun h221 => ?_) (fun h221 => ?_)
      · refine aw_iload rfl rfl ?_
        first
        | exact aw_ri rfl rfl (by rw [← hZ, if_pos h221]) e1 f1 m1
        | exact aw_ri rfl rfl (by rw [← hZ, if_neg h221]) e1 f1 m1
      · refine aw_iload_n rfl rfl ?_
        refine aw_goto (tgt := 230) rfl (by decide) ?_
        first
        | exact aw_ri rfl rfl (by rw [← hZ, if_pos h221]) e1 f1 m1
        | exact aw_ri rfl rfl (by rw [← hZ, if_neg h221]) e1 f1 m1
    | succ d ih =>
      intro i a hi hX
      simp only [fd] at hX
      obtain ⟨YY, hY⟩ : ∃ y, y = fd (pkI cs (S 46) i) 0 T (1, 0, 0) := ⟨_, rfl⟩
      have hO : pkO cs (S 46) (S 52 31) T i a = (if YY.1 = 0 then a else if S 52 31 < YY.2.1 then a else if a.2 < YY.2.2 then (nI i, YY.2.2) else a) := by unfold pkO; rw [← hY]
      rw [hO] at hX
      have inner : ∀ (d2 t : Nat) (c : Int32 × Int32 × Int32), t + d2 = T → fd (pkI cs (S 46) i) t d2 c = YY → aw_W l g mi_X12_pack (aw_rm 104 0 0) (aw_Z g (fun r w => ∃ s' n', r = some (.int X) ∧ w = hp g s' n' ∧ eo skN S s' ∧ en n n' ∧ MI s' n') 0 0) 0 0 (hp g s1 n1) 105 [some (.ref (g_ad g 39)), some (.int m), some (.int x), some (.int a.1), some (.int a.2), some (.int (nI i)), some (.int c.2.1), some (.int c.2.2), some (.int c.1), some (.int (nI t))] [] := by
        intro d2
        induction d2 with
        | zero =>
          intro t c ht hc
          simp only [fd] at hc
          subst hc
          refine aw_iload rfl rfl ?_
          refine aw_aload_n rfl rfl ?_
          refine pg_39_26 rfl kl_X12_291 ?_
          refine aw_icmp_ge (tgt := 180) rfl (by decide) (fun h111 => ?_) (fun h111 => absurd (by rw [hT1]; exact nI_le (by omega) (by omega)) h111)
          refine aw_iload rfl rfl ?_
          refine aw_if_eq (tgt := 214) rfl (by decide) (fun h182 => ?_) (fun h182 => ?_)
          · refine aw_inc1 rfl rfl (by decide) ?_
            refine aw_goto (tgt := 82) rfl (by decide) ?_
            first
            | exact aw_wk (ih (i + 1) _ (by omega) (by rw [if_pos h182] at hX; exact hX)) (And.intro rfl (And.intro rfl (And.intro rfl (And.intro rfl (And.intro rfl (And.intro (congrArg (fun x => some (Value.int x)) (nI_1 i)) True.intro))))))
            | exact aw_wk (ih (i + 1) _ (by omega) (by rw [if_neg h182, if_pos (by rw [← e1 52 31 rfl]; exact h194)] at hX; exact hX)) (And.intro rfl (And.intro rfl (And.intro rfl (And.intro rfl (And.intro rfl (And.intro (congrArg (fun x => some (Value.int x)) (nI_1 i)) True.intro))))))
            | exact aw_wk (ih (i + 1) (nI i, c.2.2) (by omega) (by rw [if_neg h182, if_neg (by rw [← e1 52 31 rfl]; exact h194), if_pos h201] at hX; exact hX)) (And.intro rfl (And.intro rfl (And.intro rfl (And.intro rfl (And.intro rfl (And.intro (congrArg (fun x => some (Value.int x)) (nI_1 i)) True.intro))))))
            | exact aw_wk (ih (i + 1) _ (by omega) (by rw [if_neg h182, if_neg (by rw [← e1 52 31 rfl]; exact h194), if_neg h201] at hX; exact hX)) (And.intro rfl (And.intro rfl (And.intro rfl (And.intro rfl (And.intro rfl (And.intro (congrArg (fun x => some (Value.int x)) (nI_1 i)) True.intro))))))
            | fail "x"
          · refine aw_iload rfl rfl ?_
            refine aw_aload_n rfl rfl ?_
            refine pg_39_32 rfl kl_X12_61 ?_
            refine aw_bipush (v := 31) rfl (by decide) ?_
            refine pl_52 (j := 31) rfl rfl (by decide) ?_
            refine aw_icmp_gt (tgt := 214) rfl (by decide) (fun h194 => ?_) (fun h194 => ?_)
            · refine aw_inc1 rfl rfl (by decide) ?_
              refine aw_goto (tgt := 82) rfl (by decide) ?_
              first
              | exact aw_wk (ih (i + 1) _ (by omega) (by rw [if_pos h182] at hX; exact hX)) (And.intro rfl (And.intro rfl (And.intro rfl (And.intro rfl (And.intro rfl (And.intro (congrArg (fun x => some (Value.int x)) (nI_1 i)) True.intro))))))
              | exact aw_wk (ih (i + 1) _ (by omega) (by rw [if_neg h182, if_pos (by rw [← e1 52 31 rfl]; exact h194)] at hX; exact hX)) (And.intro rfl (And.intro rfl (And.intro rfl (And.intro rfl (And.intro rfl (And.intro (congrArg (fun x => some (Value.int x)) (nI_1 i)) True.intro))))))
              | exact aw_wk (ih (i + 1) (nI i, c.2.2) (by omega) (by rw [if_neg h182, if_neg (by rw [← e1 52 31 rfl]; exact h194), if_pos h201] at hX; exact hX)) (And.intro rfl (And.intro rfl (And.intro rfl (And.intro rfl (And.intro rfl (And.intro (congrArg (fun x => some (Value.int x)) (nI_1 i)) True.intro))))))
              | exact aw_wk (ih (i + 1) _ (by omega) (by rw [if_neg h182, if_neg (by rw [← e1 52 31 rfl]; exact h194), if_neg h201] at hX; exact hX)) (And.intro rfl (And.intro rfl (And.intro rfl (And.intro rfl (And.intro rfl (And.intro (congrArg (fun x => some (Value.int x)) (nI_1 i)) True.intro))))))
              | fail "x"
            · refine aw_iload rfl rfl ?_
              refine aw_iload rfl rfl ?_
              refine aw_icmp_gt (tgt := 207) rfl (by decide) (fun h201 => ?_) (fun h201 => ?_)
              · refine aw_iload rfl rfl ?_
                refine aw_istore_n rfl (by decide) ?_
                refine aw_iload rfl rfl ?_
                refine aw_istore rfl (by decide) ?_
                refine aw_inc1 rfl rfl (by decide) ?_
                refine aw_goto (tgt := 82) rfl (by decide) ?_
                first
                | exact aw_wk (ih (i + 1) _ (by omega) (by rw [if_pos h182] at hX; exact hX)) (And.intro rfl (And.intro rfl (And.intro rfl (And.intro rfl (And.intro rfl (And.intro (congrArg (fun x => some (Value.int x)) (nI_1 i)) True.intro))))))
                | exact aw_wk (ih (i + 1) _ (by omega) (by rw [if_neg h182, if_pos (by rw [← e1 52 31 rfl]; exact h194)] at hX; exact hX)) (And.intro rfl (And.intro rfl (And.intro rfl (And.intro rfl (And.intro rfl (And.intro (congrArg (fun x => some (Value.int x)) (nI_1 i)) True.intro))))))
                | exact aw_wk (ih (i + 1) (nI i, c.2.2) (by omega) (by rw [if_neg h182, if_neg (by rw [← e1 52 31 rfl]; exact h194), if_pos h201] at hX; exact hX)) (And.intro rfl (And.intro rfl (And.intro rfl (And.intro rfl (And.intro rfl (And.intro (congrArg (fun x => some (Value.int x)) (nI_1 i)) True.intro))))))
                | exact aw_wk (ih (i + 1) _ (by omega) (by rw [if_neg h182, if_neg (by rw [← e1 52 31 rfl]; exact h194), if_neg h201] at hX; exact hX)) (And.intro rfl (And.intro rfl (And.intro rfl (And.intro rfl (And.intro rfl (And.intro (congrArg (fun x => some (Value.int x)) (nI_1 i)) True.intro))))))
                | fail "x"
              · refine aw_goto (tgt := 214) rfl (by decide) ?_
                refine aw_inc1 rfl rfl (by decide) ?_
                refine aw_goto (tgt := 82) rfl (by decide) ?_
                first
                | exact aw_wk (ih (i + 1) _ (by omega) (by rw [if_pos h182] at hX; exact hX)) (And.intro rfl (And.intro rfl (And.intro rfl (And.intro rfl (And.intro rfl (And.intro (congrArg (fun x => some (Value.int x)) (nI_1 i)) True.intro))))))
                | exact aw_wk (ih (i + 1) _ (by omega) (by rw [if_neg h182, if_pos (by rw [← e1 52 31 rfl]; exact h194)] at hX; exact hX)) (And.intro rfl (And.intro rfl (And.intro rfl (And.intro rfl (And.intro rfl (And.intro (congrArg (fun x => some (Value.int x)) (nI_1 i)) True.intro))))))
                | exact aw_wk (ih (i + 1) (nI i, c.2.2) (by omega) (by rw [if_neg h182, if_neg (by rw [← e1 52 31 rfl]; exact h194), if_pos h201] at hX; exact hX)) (And.intro rfl (And.intro rfl (And.intro rfl (And.intro rfl (And.intro rfl (And.intro (congrArg (fun x => some (Value.int x)) (nI_1 i)) True.intro))))))
                | exact aw_wk (ih (i + 1) _ (by omega) (by rw [if_neg h182, if_neg (by rw [← e1 52 31 rfl]; exact h194), if_neg h201] at hX; exact hX)) (And.intro rfl (And.intro rfl (And.intro rfl (And.intro rfl (And.intro rfl (And.intro (congrArg (fun x => some (Value.int x)) (nI_1 i)) True.intro))))))
                | fail "x"
        | succ d2 ih2 =>
          intro t c ht hc
          simp only [fd] at hc
          have hct : s1 57 t = cs t := hcs t (by omega)
          refine aw_iload rfl rfl ?_
          refine aw_aload_n rfl rfl ?_
          refine pg_39_26 rfl kl_X12_291 ?_
          refine aw_icmp_ge (tgt := 180) rfl (by decide) (fun h111 => absurd h111 (by rw [hT1]; exact nI_ge (by omega) (by omega))) (fun h111 => ?_)
          refine aw_iload rfl rfl ?_
          refine aw_iload rfl rfl ?_
          refine aw_iS rfl cw_X12_229 (c_m_has) rfl rfl (Nat.le_of_ble_eq_true rfl) (by decide) (by decide) (by decide) (by decide) ?_
          refine aw_if_ne (tgt := 127) rfl (by decide) (fun h121 => ?_) (fun h121 => ?_)
          · refine aw_iload rfl rfl ?_
            refine aw_if_eq (tgt := 147) rfl (by decide) (fun h129 => ?_) (fun h129 => ?_)
            · refine aw_iconst (v := 0) rfl (by decide) ?_
              refine aw_istore rfl (by decide) ?_
              refine aw_iload rfl rfl ?_
              refine aw_aload_n rfl rfl ?_
              refine pg_39_41 rfl kl_X12_81 ?_
              refine aw_iload rfl rfl ?_
              refine pl_57 rfl rfl (by omega) ?_
              refine aw_iadd rfl ?_
              refine aw_istore rfl (by decide) ?_
              refine aw_iload rfl rfl ?_
              refine aw_aload_n rfl rfl ?_
              refine aw_iload rfl rfl ?_
              refine aw_iconst (v := 2) rfl (by decide) ?_
              refine aw_iV (q0 := 39) (ci := 12) rfl cw_X12_319 rfl rfl rfl (c_m_of (j := t) (c := 2) (by omega) (by decide)) rfl rfl (Nat.le_of_ble_eq_true rfl) (by decide) (by decide) (by decide) (by decide) ?_
              refine aw_iadd rfl ?_
              refine aw_istore rfl (by decide) ?_
              refine aw_inc1 rfl rfl (by decide) ?_
              refine aw_goto (tgt := 105) rfl (by decide) ?_
              first
              | exact aw_wk (ih2 (t + 1) _ (by omega) (by rw [show pkI cs (S 46) i t c = c from by (unfold pkI; rw [if_neg (by rw [bB_0.mp h121]; exact Bool.false_ne_true)])] at hc; exact hc)) (And.intro rfl (And.intro rfl (And.intro rfl (And.intro rfl (And.intro rfl (And.intro rfl (And.intro rfl (And.intro rfl (And.intro rfl (And.intro (congrArg (fun x => some (Value.int x)) (nI_1 t)) True.intro))))))))))
              | exact aw_wk (ih2 (t + 1) (0, c.2.1 + cs t, c.2.2 + S 46 (5 * t + 2)) (by omega) (by rw [show pkI cs (S 46) i t c = (0, c.2.1 + cs t, c.2.2 + S 46 (5 * t + 2)) from by (unfold pkI; rw [if_pos (bB_n0.mp h121), if_pos h129])] at hc; exact hc)) (And.intro rfl (And.intro rfl (And.intro rfl (And.intro rfl (And.intro rfl (And.intro rfl (And.intro (congrArg (fun x => some (Value.int (c.2.1 + x))) hct) (And.intro (congrArg (fun x => some (Value.int (c.2.2 + x))) (congrFun h46 _)) (And.intro rfl (And.intro (congrArg (fun x => some (Value.int x)) (nI_1 t)) True.intro))))))))))
              | exact aw_wk (ih2 (t + 1) (0, c.2.1 + cs t, c.2.2 + S 46 (5 * t + 2)) (by omega) (by rw [show pkI cs (S 46) i t c = (0, c.2.1 + cs t, c.2.2 + S 46 (5 * t + 2)) from by (unfold pkI; rw [if_pos (bB_n0.mp h121), if_neg h129, if_pos (hct.symm.trans h140)])] at hc; exact hc)) (And.intro rfl (And.intro rfl (And.intro rfl (And.intro rfl (And.intro rfl (And.intro rfl (And.intro (congrArg (fun x => some (Value.int (c.2.1 + x))) hct) (And.intro (congrArg (fun x => some (Value.int (c.2.2 + x))) (congrFun h46 _)) (And.intro rfl (And.intro (congrArg (fun x => some (Value.int x)) (nI_1 t)) True.intro))))))))))
              | exact aw_wk (ih2 (t + 1) (1, c.2.1 + cs t, c.2.2 + S 46 (5 * t + 2)) (by omega) (by rw [show pkI cs (S 46) i t c = (1, c.2.1 + cs t, c.2.2 + S 46 (5 * t + 2)) from by (unfold pkI; rw [if_pos (bB_n0.mp h121), if_neg h129, if_neg (fun z => h140 (hct.trans z))])] at hc; exact hc)) (And.intro rfl (And.intro rfl (And.intro rfl (And.intro rfl (And.intro rfl (And.intro rfl (And.intro (congrArg (fun x => some (Value.int (c.2.1 + x))) hct) (And.intro (congrArg (fun x => some (Value.int (c.2.2 + x))) (congrFun h46 _)) (And.intro rfl (And.intro (congrArg (fun x => some (Value.int x)) (nI_1 t)) True.intro))))))))))
              | fail "x"
            · refine aw_aload_n rfl rfl ?_
              refine pg_39_41 rfl kl_X12_81 ?_
              refine aw_iload rfl rfl ?_
              refine pl_57 rfl rfl (by omega) ?_
              refine aw_iconst (v := -1) rfl (by decide) ?_
              refine aw_icmp_eq (tgt := 147) rfl (by decide) (fun h140 => ?_) (fun h140 => ?_)
              · refine aw_iconst (v := 0) rfl (by decide) ?_
                refine aw_istore rfl (by decide) ?_
                refine aw_iload rfl rfl ?_
                refine aw_aload_n rfl rfl ?_
                refine pg_39_41 rfl kl_X12_81 ?_
                refine aw_iload rfl rfl ?_
                refine pl_57 rfl rfl (by omega) ?_
                refine aw_iadd rfl ?_
                refine aw_istore rfl (by decide) ?_
                refine aw_iload rfl rfl ?_
                refine aw_aload_n rfl rfl ?_
                refine aw_iload rfl rfl ?_
                refine aw_iconst (v := 2) rfl (by decide) ?_
                refine aw_iV (q0 := 39) (ci := 12) rfl cw_X12_319 rfl rfl rfl (c_m_of (j := t) (c := 2) (by omega) (by decide)) rfl rfl (Nat.le_of_ble_eq_true rfl) (by decide) (by decide) (by decide) (by decide) ?_
                refine aw_iadd rfl ?_
                refine aw_istore rfl (by decide) ?_
                refine aw_inc1 rfl rfl (by decide) ?_
                refine aw_goto (tgt := 105) rfl (by decide) ?_
                first
                | exact aw_wk (ih2 (t + 1) _ (by omega) (by rw [show pkI cs (S 46) i t c = c from by (unfold pkI; rw [if_neg (by rw [bB_0.mp h121]; exact Bool.false_ne_true)])] at hc; exact hc)) (And.intro rfl (And.intro rfl (And.intro rfl (And.intro rfl (And.intro rfl (And.intro rfl (And.intro rfl (And.intro rfl (And.intro rfl (And.intro (congrArg (fun x => some (Value.int x)) (nI_1 t)) True.intro))))))))))
                | exact aw_wk (ih2 (t + 1) (0, c.2.1 + cs t, c.2.2 + S 46 (5 * t + 2)) (by omega) (by rw [show pkI cs (S 46) i t c = (0, c.2.1 + cs t, c.2.2 + S 46 (5 * t + 2)) from by (unfold pkI; rw [if_pos (bB_n0.mp h121), if_pos h129])] at hc; exact hc)) (And.intro rfl (And.intro rfl (And.intro rfl (And.intro rfl (And.intro rfl (And.intro rfl (And.intro (congrArg (fun x => some (Value.int (c.2.1 + x))) hct) (And.intro (congrArg (fun x => some (Value.int (c.2.2 + x))) (congrFun h46 _)) (And.intro rfl (And.intro (congrArg (fun x => some (Value.int x)) (nI_1 t)) True.intro))))))))))
                | exact aw_wk (ih2 (t + 1) (0, c.2.1 + cs t, c.2.2 + S 46 (5 * t + 2)) (by omega) (by rw [show pkI cs (S 46) i t c = (0, c.2.1 + cs t, c.2.2 + S 46 (5 * t + 2)) from by (unfold pkI; rw [if_pos (bB_n0.mp h121), if_neg h129, if_pos (hct.symm.trans h140)])] at hc; exact hc)) (And.intro rfl (And.intro rfl (And.intro rfl (And.intro rfl (And.intro rfl (And.intro rfl (And.intro (congrArg (fun x => some (Value.int (c.2.1 + x))) hct) (And.intro (congrArg (fun x => some (Value.int (c.2.2 + x))) (congrFun h46 _)) (And.intro rfl (And.intro (congrArg (fun x => some (Value.int x)) (nI_1 t)) True.intro))))))))))
                | exact aw_wk (ih2 (t + 1) (1, c.2.1 + cs t, c.2.2 + S 46 (5 * t + 2)) (by omega) (by rw [show pkI cs (S 46) i t c = (1, c.2.1 + cs t, c.2.2 + S 46 (5 * t + 2)) from by (unfold pkI; rw [if_pos (bB_n0.mp h121), if_neg h129, if_neg (fun z => h140 (hct.trans z))])] at hc; exact hc)) (And.intro rfl (And.intro rfl (And.intro rfl (And.intro rfl (And.intro rfl (And.intro rfl (And.intro (congrArg (fun x => some (Value.int (c.2.1 + x))) hct) (And.intro (congrArg (fun x => some (Value.int (c.2.2 + x))) (congrFun h46 _)) (And.intro rfl (And.intro (congrArg (fun x => some (Value.int x)) (nI_1 t)) True.intro))))))))))
                | fail "x"
              · refine aw_iconst (v := 1) rfl (by decide) ?_
                refine aw_goto (tgt := 148) rfl (by decide) ?_
                refine aw_istore rfl (by decide) ?_
                refine aw_iload rfl rfl ?_
                refine aw_aload_n rfl rfl ?_
                refine pg_39_41 rfl kl_X12_81 ?_
                refine aw_iload rfl rfl ?_
                refine pl_57 rfl rfl (by omega) ?_
                refine aw_iadd rfl ?_
                refine aw_istore rfl (by decide) ?_
                refine aw_iload rfl rfl ?_
                refine aw_aload_n rfl rfl ?_
                refine aw_iload rfl rfl ?_
                refine aw_iconst (v := 2) rfl (by decide) ?_
                refine aw_iV (q0 := 39) (ci := 12) rfl cw_X12_319 rfl rfl rfl (c_m_of (j := t) (c := 2) (by omega) (by decide)) rfl rfl (Nat.le_of_ble_eq_true rfl) (by decide) (by decide) (by decide) (by decide) ?_
                refine aw_iadd rfl ?_
                refine aw_istore rfl (by decide) ?_
                refine aw_inc1 rfl rfl (by decide) ?_
                refine aw_goto (tgt := 105) rfl (by decide) ?_
                first
                | exact aw_wk (ih2 (t + 1) _ (by omega) (by rw [show pkI cs (S 46) i t c = c from by (unfold pkI; rw [if_neg (by rw [bB_0.mp h121]; exact Bool.false_ne_true)])] at hc; exact hc)) (And.intro rfl (And.intro rfl (And.intro rfl (And.intro rfl (And.intro rfl (And.intro rfl (And.intro rfl (And.intro rfl (And.intro rfl (And.intro (congrArg (fun x => some (Value.int x)) (nI_1 t)) True.intro))))))))))
                | exact aw_wk (ih2 (t + 1) (0, c.2.1 + cs t, c.2.2 + S 46 (5 * t + 2)) (by omega) (by rw [show pkI cs (S 46) i t c = (0, c.2.1 + cs t, c.2.2 + S 46 (5 * t + 2)) from by (unfold pkI; rw [if_pos (bB_n0.mp h121), if_pos h129])] at hc; exact hc)) (And.intro rfl (And.intro rfl (And.intro rfl (And.intro rfl (And.intro rfl (And.intro rfl (And.intro (congrArg (fun x => some (Value.int (c.2.1 + x))) hct) (And.intro (congrArg (fun x => some (Value.int (c.2.2 + x))) (congrFun h46 _)) (And.intro rfl (And.intro (congrArg (fun x => some (Value.int x)) (nI_1 t)) True.intro))))))))))
                | exact aw_wk (ih2 (t + 1) (0, c.2.1 + cs t, c.2.2 + S 46 (5 * t + 2)) (by omega) (by rw [show pkI cs (S 46) i t c = (0, c.2.1 + cs t, c.2.2 + S 46 (5 * t + 2)) from by (unfold pkI; rw [if_pos (bB_n0.mp h121), if_neg h129, if_pos (hct.symm.trans h140)])] at hc; exact hc)) (And.intro rfl (And.intro rfl (And.intro rfl (And.intro rfl (And.intro rfl (And.intro rfl (And.intro (congrArg (fun x => some (Value.int (c.2.1 + x))) hct) (And.intro (congrArg (fun x => some (Value.int (c.2.2 + x))) (congrFun h46 _)) (And.intro rfl (And.intro (congrArg (fun x => some (Value.int x)) (nI_1 t)) True.intro))))))))))
                | exact aw_wk (ih2 (t + 1) (1, c.2.1 + cs t, c.2.2 + S 46 (5 * t + 2)) (by omega) (by rw [show pkI cs (S 46) i t c = (1, c.2.1 + cs t, c.2.2 + S 46 (5 * t + 2)) from by (unfold pkI; rw [if_pos (bB_n0.mp h121), if_neg h129, if_neg (fun z => h140 (hct.trans z))])] at hc; exact hc)) (And.intro rfl (And.intro rfl (And.intro rfl (And.intro rfl (And.intro rfl (And.intro rfl (And.intro (congrArg (fun x => some (Value.int (c.2.1 + x))) hct) (And.intro (congrArg (fun x => some (Value.int (c.2.2 + x))) (congrFun h46 _)) (And.intro rfl (And.intro (congrArg (fun x => some (Value.int x)) (nI_1 t)) True.intro))))))))))
                | fail "x"
          · refine aw_goto (tgt := 174) rfl (by decide) ?_
            refine aw_inc1 rfl rfl (by decide) ?_
            refine aw_goto (tgt := 105) rfl (by decide) ?_
            first
            | exact aw_wk (ih2 (t + 1) _ (by omega) (by rw [show pkI cs (S 46) i t c = c from by (unfold pkI; rw [if_neg (by rw [bB_0.mp h121]; exact Bool.false_ne_true)])] at hc; exact hc)) (And.intro rfl (And.intro rfl (And.intro rfl (And.intro rfl (And.intro rfl (And.intro rfl (And.intro rfl (And.intro rfl (And.intro rfl (And.intro (congrArg (fun x => some (Value.int x)) (nI_1 t)) True.intro))))))))))
            | exact aw_wk (ih2 (t + 1) (0, c.2.1 + cs t, c.2.2 + S 46 (5 * t + 2)) (by omega) (by rw [show pkI cs (S 46) i t c = (0, c.2.1 + cs t, c.2.2 + S 46 (5 * t + 2)) from by (unfold pkI; rw [if_pos (bB_n0.mp h121), if_pos h129])] at hc; exact hc)) (And.intro rfl (And.intro rfl (And.intro rfl (And.intro rfl (And.intro rfl (And.intro rfl (And.intro (congrArg (fun x => some (Value.int (c.2.1 + x))) hct) (And.intro (congrArg (fun x => some (Value.int (c.2.2 + x))) (congrFun h46 _)) (And.intro rfl (And.intro (congrArg (fun x => some (Value.int x)) (nI_1 t)) True.intro))))))))))
            | exact aw_wk (ih2 (t + 1) (0, c.2.1 + cs t, c.2.2 + S 46 (5 * t + 2)) (by omega) (by rw [show pkI cs (S 46) i t c = (0, c.2.1 + cs t, c.2.2 + S 46 (5 * t + 2)) from by (unfold pkI; rw [if_pos (bB_n0.mp h121), if_neg h129, if_pos (hct.symm.trans h140)])] at hc; exact hc)) (And.intro rfl (And.intro rfl (And.intro rfl (And.intro rfl (And.intro rfl (And.intro rfl (And.intro (congrArg (fun x => some (Value.int (c.2.1 + x))) hct) (And.intro (congrArg (fun x => some (Value.int (c.2.2 + x))) (congrFun h46 _)) (And.intro rfl (And.intro (congrArg (fun x => some (Value.int x)) (nI_1 t)) True.intro))))))))))
            | exact aw_wk (ih2 (t + 1) (1, c.2.1 + cs t, c.2.2 + S 46 (5 * t + 2)) (by omega) (by rw [show pkI cs (S 46) i t c = (1, c.2.1 + cs t, c.2.2 + S 46 (5 * t + 2)) from by (unfold pkI; rw [if_pos (bB_n0.mp h121), if_neg h129, if_neg (fun z => h140 (hct.trans z))])] at hc; exact hc)) (And.intro rfl (And.intro rfl (And.intro rfl (And.intro rfl (And.intro rfl (And.intro rfl (And.intro (congrArg (fun x => some (Value.int (c.2.1 + x))) hct) (And.intro (congrArg (fun x => some (Value.int (c.2.2 + x))) (congrFun h46 _)) (And.intro rfl (And.intro (congrArg (fun x => some (Value.int x)) (nI_1 t)) True.intro))))))))))
            | fail "x"
      refine aw_iload rfl rfl ?_
      refine aw_iconst (v := 1) rfl (by decide) ?_
      refine aw_aload_n rfl rfl ?_
      refine pg_39_26 rfl kl_X12_291 ?_
      refine aw_ishl rfl ?_
      refine aw_icmp_ge (tgt := 220) rfl (by decide) (fun h90 => absurd h90 (by rw [hT1, sh1 hT]; exact nI_ge (by omega) (by omega))) (fun h90 => ?_)
      refine aw_iconst (v := 0) rfl (by decide) ?_
      refine aw_istore rfl (by decide) ?_
      refine aw_iconst (v := 0) rfl (by decide) ?_
      refine aw_istore rfl (by decide) ?_
      refine aw_iconst (v := 1) rfl (by decide) ?_
      refine aw_istore rfl (by decide) ?_
      refine aw_iconst (v := 0) rfl (by decide) ?_
      refine aw_istore rfl (by decide) ?_
      exact aw_wk (inner T 0 (1, 0, 0) (by omega) hY.symm) (And.intro rfl (And.intro rfl (And.intro rfl (And.intro rfl (And.intro rfl (And.intro rfl (And.intro rfl (And.intro rfl (And.intro rfl (And.intro rfl True.intro))))))))))
  have loop1 : ∀ (X : Int32) (M : Nat), M ≤ 24 → m = nI M → (if x = 0 then (pkR V S T M).1 else (pkR V S T M).2) = X → ∀ (d i : Nat) (s1 : am_S) (n1 : am_N), i + d = T → eo skN S s1 → en n n1 → MI s1 n1 → (∀ q, q < i → s1 57 q = csm V S M q) → aw_W l g mi_X12_pack (aw_rm 104 0 0) (aw_Z g (fun r w => ∃ s' n', r = some (.int X) ∧ w = hp g s' n' ∧ eo skN S s' ∧ en n n' ∧ MI s' n') 0 0) 0 0 (hp g s1 n1) 33 [some (.ref (g_ad g 39)), some (.int m), some (.int x), some (.int (nI i)), none, none, none, none, none, none] [] := by
    intro X M hM hm hX d
    induction d with
    | zero =>
      intro i s1 n1 hi e1 f1 m1 hcs
      have hT1 : s1 39 26 = nI T := (e1 39 26 rfl).trans hTe
      refine aw_iload_n rfl rfl ?_
      refine aw_aload_n rfl rfl ?_
      refine pg_39_26 rfl kl_X12_291 ?_
      refine aw_icmp_ge (tgt := 74) rfl (by decide) (fun h38 => ?_) (fun h38 => absurd (by rw [hT1]; exact nI_le (by omega) (by omega)) h38)
      refine aw_iconst (v := 0) rfl (by decide) ?_
      refine aw_istore_n rfl (by decide) ?_
      refine aw_iconst (v := 0) rfl (by decide) ?_
      refine aw_istore rfl (by decide) ?_
      refine aw_iconst (v := 1) rfl (by decide) ?_
      refine aw_istore rfl (by decide) ?_
      exact aw_wk (loop2 X s1 n1 (csm V S M) e1 f1 m1 (fun q hq => hcs q (by omega)) (pkR V S T M) hX (2 ^ T - 1) 1 (0, 0) (by omega) rfl) (And.intro rfl (And.intro rfl (And.intro rfl (And.intro rfl (And.intro rfl (And.intro rfl True.intro))))))
    | succ d ih =>
      intro i s1 n1 hi e1 f1 m1 hcs
      have hT1 : s1 39 26 = nI T := (e1 39 26 rfl).trans hTe
      have hC1 := MC_eN hC e1 m1
      have e52 : s1 52 = S 52 := eo_cell e1 52 (fun _ => rfl)
      have hr1 : rwb (s1 52) T Q := by rw [e52]; exact hr
      have hN : ndm V s1 i M = ndm V S i M := by rw [ndm_c (eo_cell e1 46 (fun _ => rfl)) e52]
      have hst : ∀ (s2 : am_S) (v : Int32), eo skM s1 s2 → v = csm V S M i → ∀ q, q < i + 1 → up s2 57 i v 57 q = csm V S M q := by
        intro s2 v e2 hv q hq
        rw [up_s]
        split
        · rename_i h; rw [h]; exact hv
        · rw [eo_cell e2 57 (fun _ => rfl)]; exact hcs q (by omega)
      refine aw_iload_n rfl rfl ?_
      refine aw_aload_n rfl rfl ?_
      refine pg_39_26 rfl kl_X12_291 ?_
      refine aw_icmp_ge (tgt := 74) rfl (by decide) (fun h38 => absurd h38 (by rw [hT1]; exact nI_ge (by omega) (by omega))) (fun h38 => ?_)
      refine aw_aload_n rfl rfl ?_
      refine pg_39_41 rfl kl_X12_81 ?_
      refine aw_iload_n rfl rfl ?_
      refine aw_aload_n rfl rfl ?_
      refine pg_39_32 rfl kl_X12_61 ?_
      refine aw_iload_n rfl rfl ?_
      refine aw_iS rfl cw_X12_338 (c_m_isOpen_52 (j := i) (by omega)) rfl rfl (Nat.le_of_ble_eq_true rfl) (by decide) (by decide) (by decide) (by decide) ?_
      refine aw_if_eq (tgt := 61) rfl (by decide) (fun h54 => ?_) (fun h54 => ?_)
      · refine aw_aload_n rfl rfl ?_
        refine aw_iload_n rfl rfl ?_
        refine aw_iload_n rfl rfl ?_
        refine aw_rV (q0 := 39) (ci := 12) rfl cw_X12_432 rfl rfl rfl ((show aw_R l g mi_X12_needs 103 skM [.ref (g_ad g 39), .int (nI i), .int m] s1 n1 MI (.int (ndm V S i M)) s1 from by (rw [← hN, hm]; exact c_m_needs hC1 hr1 (by omega) (by omega)))) rfl rfl (Nat.le_of_ble_eq_true rfl) (by decide) (by decide) (by decide) (by decide) (fun s2 n2 e2 f2 m2 => ?_)
        refine ps_57 rfl rfl (by omega) ?_
        refine aw_inc1 rfl rfl (by decide) ?_
        refine aw_goto (tgt := 33) rfl (by decide) ?_
        first
        | exact aw_wk (ih (i + 1) _ n1 (by omega) (eo_up skN_57 e1) f1 (upMI hC m1) (hst s1 _ eo_rf (by unfold csm; rw [if_pos (by have := of_decide_eq_true (bB_n0.mp h54); rw [e52] at this; exact this)]))) (And.intro rfl (And.intro rfl (And.intro rfl (And.intro (congrArg (fun x => some (Value.int x)) (nI_1 i)) True.intro))))
        | exact aw_wk (ih (i + 1) _ n2 (by omega) (eo_up skN_57 (eo_tr e1 (eo_MN e2))) (en_tr f1 f2) (upMI hC m2) (hst s2 _ e2 (by unfold csm; rw [if_neg (by have := of_decide_eq_false (bB_0.mp h54); rw [e52] at this; exact this)]))) (And.intro rfl (And.intro rfl (And.intro rfl (And.intro (congrArg (fun x => some (Value.int x)) (nI_1 i)) True.intro))))
        | fail "x"
      · refine aw_iconst (v := -1) rfl (by decide) ?_
        refine aw_goto (tgt := 67) rfl (by decide) ?_
        refine ps_57 rfl rfl (by omega) ?_
        refine aw_inc1 rfl rfl (by decide) ?_
        refine aw_goto (tgt := 33) rfl (by decide) ?_
        first
        | exact aw_wk (ih (i + 1) _ n1 (by omega) (eo_up skN_57 e1) f1 (upMI hC m1) (hst s1 _ eo_rf (by unfold csm; rw [if_pos (by have := of_decide_eq_true (bB_n0.mp h54); rw [e52] at this; exact this)]))) (And.intro rfl (And.intro rfl (And.intro rfl (And.intro (congrArg (fun x => some (Value.int x)) (nI_1 i)) True.intro))))
        | exact aw_wk (ih (i + 1) _ n2 (by omega) (eo_up skN_57 (eo_tr e1 (eo_MN e2))) (en_tr f1 f2) (upMI hC m2) (hst s2 _ e2 (by unfold csm; rw [if_neg (by have := of_decide_eq_false (bB_0.mp h54); rw [e52] at this; exact this)]))) (And.intro rfl (And.intro rfl (And.intro rfl (And.intro (congrArg (fun x => some (Value.int x)) (nI_1 i)) True.intro))))
        | fail "x"
  refine aw_aload_n rfl rfl ?_
  refine pg_39_26 rfl kl_X12_291 ?_
  refine aw_if_eq (tgt := 29) rfl (by decide) (fun h9 => ?_) (fun h9 => ?_)
  · refine aw_iconst (v := -1) rfl (by decide) ?_
    refine aw_ri rfl rfl ?_ eo_rf en_rf hC.2.2.1
    unfold m_pack
    first
      | (rw [if_pos h9]; done)
      | (rw [if_neg h9, if_neg (by rw [bB_0.mp h16]; exact Bool.false_ne_true)]; done)
      | (rw [if_neg h9, if_pos q2, if_neg (by rw [bB_0.mp h26]; exact Bool.false_ne_true)]; done)
      | fail "x"
  · refine aw_iload_n rfl rfl ?_
    refine aw_iS rfl cw_X12_429 (c_m_isMonths) rfl rfl (Nat.le_of_ble_eq_true rfl) (by decide) (by decide) (by decide) (by decide) ?_
    refine aw_if_eq (tgt := 29) rfl (by decide) (fun h16 => ?_) (fun h16 => ?_)
    · refine aw_iconst (v := -1) rfl (by decide) ?_
      refine aw_ri rfl rfl ?_ eo_rf en_rf hC.2.2.1
      unfold m_pack
      first
        | (rw [if_pos h9]; done)
        | (rw [if_neg h9, if_neg (by rw [bB_0.mp h16]; exact Bool.false_ne_true)]; done)
        | (rw [if_neg h9, if_pos q2, if_neg (by rw [bB_0.mp h26]; exact Bool.false_ne_true)]; done)
        | fail "x"
    · have q2 := bB_n0.mp h16
      obtain ⟨M, hM, hm⟩ := mm_in (M := 24) (by decide) (by decide) q2
      have hcm : cl m = M := by rw [hm]; exact cl_nI (by omega)
      refine aw_iload_n rfl rfl ?_
      refine aw_i2l rfl ?_
      refine aw_lconst (v := 0) rfl (by decide) ?_
      refine aw_lconst (v := 1) rfl (by decide) ?_
      refine aw_iS rfl cw_X12_217 (c_m_isIn) rfl rfl (Nat.le_of_ble_eq_true rfl) (by decide) (by decide) (by decide) (by decide) ?_
      refine aw_if_ne (tgt := 31) rfl (by decide) (fun h26 => ?_) (fun h26 => ?_)
      · refine aw_iconst (v := 0) rfl (by decide) ?_
        refine aw_istore_n rfl (by decide) ?_
        exact aw_wk (loop1 _ M hM hm (by unfold m_pack; rw [if_neg h9, if_pos q2, if_pos (bB_n0.mp h26), hcm]) T 0 S n (by omega) eo_rf en_rf hC.2.2.1 (fun q hq => absurd hq (by omega))) (And.intro rfl (And.intro rfl (And.intro rfl (And.intro rfl True.intro))))
      · refine aw_iconst (v := -1) rfl (by decide) ?_
        refine aw_ri rfl rfl ?_ eo_rf en_rf hC.2.2.1
        unfold m_pack
        first
          | (rw [if_pos h9]; done)
          | (rw [if_neg h9, if_neg (by rw [bB_0.mp h16]; exact Bool.false_ne_true)]; done)
          | (rw [if_neg h9, if_pos q2, if_neg (by rw [bB_0.mp h26]; exact Bool.false_ne_true)]; done)
          | fail "x"
def com (V : (Nat → Int32) → Int32) (s : am_S) (q : Nat) : Int32 := if s 52 (3 * q + 1) = 0 then -1 else mnm V s q 0 0 24
def orI (cs : Nat → Int32) (m t : Nat) (a : Int32 × Int32) : Int32 × Int32 := if cs t = nI m then (10 * a.1 + nI t, a.2 + 1) else a
def orO (cs : Nat → Int32) (T m : Nat) (a : Int32 × Int32) : Int32 × Int32 := fd (orI cs m) 0 T a
def m_order (V : (Nat → Int32) → Int32) (s : am_S) (T : Nat) (x : Int32) : Int32 := if s 39 26 = 0 then -1 else if inn x.toInt64 0 1 = true then (fun z : Int32 × Int32 => if x = 1 then z.2 else if z.2 = 0 then -1 else z.1) (fd (orO (com V s) T) 1 24 (0, 0)) else -1
set_option maxRecDepth 4000 in
theorem c_m_order {l : Launch} {g : ag_G} {s : am_S} {n : am_N} {MI : am_S → am_N → Prop} {V : (Nat → Int32) → Int32} {T Q : Nat} (hC : MC l g MI V s n T Q) (hr : rwb (s 52) T Q) {x : Int32} : aw_R l g mi_X12_order 104 skN [.ref (g_ad g 39), .int x] s n MI (.int (m_order V (up s 39 0 0) T x)) ((up s 39 0 0)) := by
  refine aw_R_of mo_X12_order (by decide) (Nat.le_of_ble_eq_true rfl) ?_
  refine aw_aload_n rfl rfl ?_
  refine aw_iconst (v := 0) rfl (by decide) ?_
  refine pp_39_0 rfl kl_X12_96 ?_
  have hC : MC l g MI V (up s 39 0 0) n T Q := hC.z0
  have hr : rwb ((up s 39 0 0) 52) T Q := hr
  generalize up s 39 0 0 = S at *
  have hT := hC.1.2.1
  have hTe := hC.1.1
  have loop2 : ∀ (X : Int32) (s1 : am_S) (n1 : am_N) (cs : Nat → Int32), eo skN S s1 → en n n1 → MI s1 n1 → (∀ q, q < T → s1 57 q = cs q) → ∀ (ZZ : Int32 × Int32), (if x = 1 then ZZ.2 else if ZZ.2 = 0 then -1 else ZZ.1) = X → ∀ (d i : Nat) (a : Int32 × Int32), i + d = 25 → fd (orO cs T) i d a = ZZ → aw_W l g mi_X12_order (aw_rm 104 0 0) (aw_Z g (fun r w => ∃ s' n', r = some (.int X) ∧ w = hp g s' n' ∧ eo skN S s' ∧ en n n' ∧ MI s' n') 0 0) 0 0 (hp g s1 n1) 75 [some (.ref (g_ad g 39)), some (.int x), some (.int a.1), some (.int a.2), some (.int (nI i)), none] [] := by
    intro X s1 n1 cs e1 f1 m1 hcs ZZ hZ d
    have hT1 : s1 39 26 = nI T := (e1 39 26 rfl).trans hTe
    induction d with
    | zero =>
      intro i a hi hX
      simp only [fd] at hX
      subst hX
      obtain rfl : i = 25 := by omega
      refine aw_iload rfl rfl ?_
      refine aw_bipush (v := 24) rfl (by decide) ?_
      refine aw_icmp_gt (tgt := 132) rfl (by decide) (fun h79 => ?_) (fun h79 => absurd (by decide) h79)
      refine aw_iload_n rfl rfl ?_
      refine aw_iconst (v := 1) rfl (by decide) ?_
      refine aw_icmp_ne (tgt := 139) rfl (by decide) (fun h134 => ?_) (fun h134 => ?_)
      · refine aw_iload_n rfl rfl ?_
        refine aw_if_ne (tgt := 147) rfl (by decide) (fun h140 => ?_) (fun h140 => ?_)
        · refine aw_iload_n rfl rfl ?_
          first
          | exact aw_ri rfl rfl (by rw [← hZ, if_neg h134, if_pos h140]) e1 f1 m1
          | exact aw_ri rfl rfl (by rw [← hZ, if_neg h134, if_neg h140]) e1 f1 m1
        · refine aw_iconst (v := -1) rfl (by decide) ?_
          refine aw_goto (tgt := 148) rfl (by decide) ?_
          first
          | exact aw_ri rfl rfl (by rw [← hZ, if_neg h134, if_pos h140]) e1 f1 m1
          | exact aw_ri rfl rfl (by rw [← hZ, if_neg h134, if_neg h140]) e1 f1 m1
      · refine aw_iload_n rfl rfl ?_
        exact aw_ri rfl rfl (by rw [← hZ, if_pos h134]) e1 f1 m1
    | succ d ih =>
      intro i a hi hX
      simp only [fd] at hX
      obtain ⟨YY, hY⟩ : ∃ y, y = orO cs T i a := ⟨_, rfl⟩
      rw [← hY] at hX
      have inner : ∀ (d2 t : Nat) (c : Int32 × Int32), t + d2 = T → fd (orI cs i) t d2 c = YY → aw_W l g mi_X12_order (aw_rm 104 0 0) (aw_Z g (fun r w => ∃ s' n', r = some (.int X) ∧ w = hp g s' n' ∧ eo skN S s' ∧ en n n' ∧ MI s' n') 0 0) 0 0 (hp g s1 n1) 85 [some (.ref (g_ad g 39)), some (.int x), some (.int c.1), some (.int c.2), some (.int (nI i)), some (.int (nI t))] [] := by
        intro d2
        induction d2 with
        | zero =>
          intro t c ht hc
          simp only [fd] at hc
          subst hc
          refine aw_iload rfl rfl ?_
          refine aw_aload_n rfl rfl ?_
          refine pg_39_26 rfl kl_X12_291 ?_
          refine aw_icmp_ge (tgt := 126) rfl (by decide) (fun h91 => ?_) (fun h91 => absurd (by rw [hT1]; exact nI_le (by omega) (by omega)) h91)
          refine aw_inc1 rfl rfl (by decide) ?_
          refine aw_goto (tgt := 75) rfl (by decide) ?_
          exact aw_wk (ih (i + 1) _ (by omega) hX) (And.intro rfl (And.intro rfl (And.intro rfl (And.intro rfl (And.intro (congrArg (fun x => some (Value.int x)) (nI_1 i)) True.intro)))))
        | succ d2 ih2 =>
          intro t c ht hc
          simp only [fd] at hc
          have hct : s1 57 t = cs t := hcs t (by omega)
          refine aw_iload rfl rfl ?_
          refine aw_aload_n rfl rfl ?_
          refine pg_39_26 rfl kl_X12_291 ?_
          refine aw_icmp_ge (tgt := 126) rfl (by decide) (fun h91 => absurd h91 (by rw [hT1]; exact nI_ge (by omega) (by omega))) (fun h91 => ?_)
          refine aw_aload_n rfl rfl ?_
          refine pg_39_41 rfl kl_X12_81 ?_
          refine aw_iload rfl rfl ?_
          refine pl_57 rfl rfl (by omega) ?_
          refine aw_iload rfl rfl ?_
          refine aw_icmp_eq (tgt := 109) rfl (by decide) (fun h103 => ?_) (fun h103 => ?_)
          · refine aw_bipush (v := 10) rfl (by decide) ?_
            refine aw_iload_n rfl rfl ?_
            refine aw_imul rfl ?_
            refine aw_iload rfl rfl ?_
            refine aw_iadd rfl ?_
            refine aw_istore_n rfl (by decide) ?_
            refine aw_inc1 rfl rfl (by decide) ?_
            refine aw_inc1 rfl rfl (by decide) ?_
            refine aw_goto (tgt := 85) rfl (by decide) ?_
            first
            | exact aw_wk (ih2 (t + 1) _ (by omega) (by rw [show orI cs i t c = c from by (unfold orI; rw [if_neg (fun z => h103 (hct.trans z))])] at hc; exact hc)) (And.intro rfl (And.intro rfl (And.intro rfl (And.intro rfl (And.intro rfl (And.intro (congrArg (fun x => some (Value.int x)) (nI_1 t)) True.intro))))))
            | exact aw_wk (ih2 (t + 1) (10 * c.1 + nI t, c.2 + 1) (by omega) (by rw [show orI cs i t c = (10 * c.1 + nI t, c.2 + 1) from by (unfold orI; rw [if_pos (hct.symm.trans h103)])] at hc; exact hc)) (And.intro rfl (And.intro rfl (And.intro rfl (And.intro rfl (And.intro rfl (And.intro (congrArg (fun x => some (Value.int x)) (nI_1 t)) True.intro))))))
            | fail "x"
          · refine aw_goto (tgt := 120) rfl (by decide) ?_
            refine aw_inc1 rfl rfl (by decide) ?_
            refine aw_goto (tgt := 85) rfl (by decide) ?_
            first
            | exact aw_wk (ih2 (t + 1) _ (by omega) (by rw [show orI cs i t c = c from by (unfold orI; rw [if_neg (fun z => h103 (hct.trans z))])] at hc; exact hc)) (And.intro rfl (And.intro rfl (And.intro rfl (And.intro rfl (And.intro rfl (And.intro (congrArg (fun x => some (Value.int x)) (nI_1 t)) True.intro))))))
            | exact aw_wk (ih2 (t + 1) (10 * c.1 + nI t, c.2 + 1) (by omega) (by rw [show orI cs i t c = (10 * c.1 + nI t, c.2 + 1) from by (unfold orI; rw [if_pos (hct.symm.trans h103)])] at hc; exact hc)) (And.intro rfl (And.intro rfl (And.intro rfl (And.intro rfl (And.intro rfl (And.intro (congrArg (fun x => some (Value.int x)) (nI_1 t)) True.intro))))))
            | fail "x"
      refine aw_iload rfl rfl ?_
      refine aw_bipush (v := 24) rfl (by decide) ?_
      refine aw_icmp_gt (tgt := 132) rfl (by decide) (fun h79 => absurd h79 (Int32.not_lt.mpr (nI_le (b := 24) (by omega) (by decide)))) (fun h79 => ?_)
      refine aw_iconst (v := 0) rfl (by decide) ?_
      refine aw_istore rfl (by decide) ?_
      exact aw_wk (inner T 0 a (by omega) hY.symm) (And.intro rfl (And.intro rfl (And.intro rfl (And.intro rfl (And.intro rfl (And.intro rfl True.intro))))))
  have loop1 : ∀ (X : Int32), (fun z : Int32 × Int32 => if x = 1 then z.2 else if z.2 = 0 then -1 else z.1) (fd (orO (com V S) T) 1 24 (0, 0)) = X → ∀ (d i : Nat) (s1 : am_S) (n1 : am_N), i + d = T → eo skN S s1 → en n n1 → MI s1 n1 → (∀ q, q < i → s1 57 q = com V S q) → aw_W l g mi_X12_order (aw_rm 104 0 0) (aw_Z g (fun r w => ∃ s' n', r = some (.int X) ∧ w = hp g s' n' ∧ eo skN S s' ∧ en n n' ∧ MI s' n') 0 0) 0 0 (hp g s1 n1) 26 [some (.ref (g_ad g 39)), some (.int x), some (.int (nI i)), none, none, none] [] := by
    intro X hX d
    induction d with
    | zero =>
      intro i s1 n1 hi e1 f1 m1 hcs
      have hT1 : s1 39 26 = nI T := (e1 39 26 rfl).trans hTe
      refine aw_iload_n rfl rfl ?_
      refine aw_aload_n rfl rfl ?_
      refine pg_39_26 rfl kl_X12_291 ?_
      refine aw_icmp_ge (tgt := 68) rfl (by decide) (fun h31 => ?_) (fun h31 => absurd (by rw [hT1]; exact nI_le (by omega) (by omega)) h31)
      refine aw_iconst (v := 0) rfl (by decide) ?_
      refine aw_istore_n rfl (by decide) ?_
      refine aw_iconst (v := 0) rfl (by decide) ?_
      refine aw_istore_n rfl (by decide) ?_
      refine aw_iconst (v := 1) rfl (by decide) ?_
      refine aw_istore rfl (by decide) ?_
      exact aw_wk (loop2 X s1 n1 (com V S) e1 f1 m1 (fun q hq => hcs q (by omega)) _ hX 24 1 (0, 0) (by omega) rfl) (And.intro rfl (And.intro rfl (And.intro rfl (And.intro rfl (And.intro rfl True.intro)))))
    | succ d ih =>
      intro i s1 n1 hi e1 f1 m1 hcs
      have hT1 : s1 39 26 = nI T := (e1 39 26 rfl).trans hTe
      have hC1 := MC_eN hC e1 m1
      have e52 : s1 52 = S 52 := eo_cell e1 52 (fun _ => rfl)
      have hr1 : rwb (s1 52) T Q := by rw [e52]; exact hr
      have hN : mnm V s1 i 0 0 24 = mnm V S i 0 0 24 := by rw [mnm_c (eo_cell e1 46 (fun _ => rfl)) e52]
      have hst : ∀ (s2 : am_S) (v : Int32), eo skM s1 s2 → v = com V S i → ∀ q, q < i + 1 → up s2 57 i v 57 q = com V S q := by
        intro s2 v e2 hv q hq
        rw [up_s]
        split
        · rename_i h; rw [h]; exact hv
        · rw [eo_cell e2 57 (fun _ => rfl)]; exact hcs q (by omega)
      refine aw_iload_n rfl rfl ?_
      refine aw_aload_n rfl rfl ?_
      refine pg_39_26 rfl kl_X12_291 ?_
      refine aw_icmp_ge (tgt := 68) rfl (by decide) (fun h31 => absurd h31 (by rw [hT1]; exact nI_ge (by omega) (by omega))) (fun h31 => ?_)
      refine aw_aload_n rfl rfl ?_
      refine pg_39_41 rfl kl_X12_81 ?_
      refine aw_iload_n rfl rfl ?_
      refine aw_aload_n rfl rfl ?_
      refine pg_39_32 rfl kl_X12_61 ?_
      refine aw_iload_n rfl rfl ?_
      refine aw_iS rfl cw_X12_338 (c_m_isOpen_52 (j := i) (by omega)) rfl rfl (Nat.le_of_ble_eq_true rfl) (by decide) (by decide) (by decide) (by decide) ?_
      refine aw_if_eq (tgt := 54) rfl (by decide) (fun h47 => ?_) (fun h47 => ?_)
      · refine aw_aload_n rfl rfl ?_
        refine aw_iload_n rfl rfl ?_
        refine aw_bipush (v := 24) rfl (by decide) ?_
        refine aw_rV (q0 := 39) (ci := 12) rfl cw_X12_424 rfl rfl rfl ((show aw_R l g mi_X12_meltsNow 103 skM [.ref (g_ad g 39), .int (nI i), .int (nI 24)] s1 n1 MI (.int (mnm V S i 0 0 24)) s1 from by (rw [← hN]; exact c_m_meltsNow hC1 hr1 (by omega) (by omega)))) rfl rfl (Nat.le_of_ble_eq_true rfl) (by decide) (by decide) (by decide) (by decide) (fun s2 n2 e2 f2 m2 => ?_)
        refine ps_57 rfl rfl (by omega) ?_
        refine aw_inc1 rfl rfl (by decide) ?_
        refine aw_goto (tgt := 26) rfl (by decide) ?_
        first
        | exact aw_wk (ih (i + 1) _ n1 (by omega) (eo_up skN_57 e1) f1 (upMI hC m1) (hst s1 _ eo_rf (by unfold com; rw [if_pos (by have := of_decide_eq_true (bB_n0.mp h47); rw [e52] at this; exact this)]))) (And.intro rfl (And.intro rfl (And.intro (congrArg (fun x => some (Value.int x)) (nI_1 i)) True.intro)))
        | exact aw_wk (ih (i + 1) _ n2 (by omega) (eo_up skN_57 (eo_tr e1 (eo_MN e2))) (en_tr f1 f2) (upMI hC m2) (hst s2 _ e2 (by unfold com; rw [if_neg (by have := of_decide_eq_false (bB_0.mp h47); rw [e52] at this; exact this)]))) (And.intro rfl (And.intro rfl (And.intro (congrArg (fun x => some (Value.int x)) (nI_1 i)) True.intro)))
        | fail "x"
      · refine aw_iconst (v := -1) rfl (by decide) ?_
        refine aw_goto (tgt := 61) rfl (by decide) ?_
        refine ps_57 rfl rfl (by omega) ?_
        refine aw_inc1 rfl rfl (by decide) ?_
        refine aw_goto (tgt := 26) rfl (by decide) ?_
        first
        | exact aw_wk (ih (i + 1) _ n1 (by omega) (eo_up skN_57 e1) f1 (upMI hC m1) (hst s1 _ eo_rf (by unfold com; rw [if_pos (by have := of_decide_eq_true (bB_n0.mp h47); rw [e52] at this; exact this)]))) (And.intro rfl (And.intro rfl (And.intro (congrArg (fun x => some (Value.int x)) (nI_1 i)) True.intro)))
        | exact aw_wk (ih (i + 1) _ n2 (by omega) (eo_up skN_57 (eo_tr e1 (eo_MN e2))) (en_tr f1 f2) (upMI hC m2) (hst s2 _ e2 (by unfold com; rw [if_neg (by have := of_decide_eq_false (bB_0.mp h47); rw [e52] at this; exact this)]))) (And.intro rfl (And.intro rfl (And.intro (congrArg (fun x => some (Value.int x)) (nI_1 i)) True.intro)))
        | fail "x"
  refine aw_aload_n rfl rfl ?_
  refine pg_39_26 rfl kl_X12_291 ?_
  refine aw_if_eq (tgt := 22) rfl (by decide) (fun h9 => ?_) (fun h9 => ?_)
  · refine aw_iconst (v := -1) rfl (by decide) ?_
    refine aw_ri rfl rfl ?_ eo_rf en_rf hC.2.2.1
    unfold m_order
    first
      | (rw [if_pos h9]; done)
      | (rw [if_neg h9, if_neg (by rw [bB_0.mp h19]; exact Bool.false_ne_true)]; done)
      | fail "x"
  · refine aw_iload_n rfl rfl ?_
    refine aw_i2l rfl ?_
    refine aw_lconst (v := 0) rfl (by decide) ?_
    refine aw_lconst (v := 1) rfl (by decide) ?_
    refine aw_iS rfl cw_X12_217 (c_m_isIn) rfl rfl (Nat.le_of_ble_eq_true rfl) (by decide) (by decide) (by decide) (by decide) ?_
    refine aw_if_ne (tgt := 24) rfl (by decide) (fun h19 => ?_) (fun h19 => ?_)
    · refine aw_iconst (v := 0) rfl (by decide) ?_
      refine aw_istore_n rfl (by decide) ?_
      exact aw_wk (loop1 _ (by unfold m_order; rw [if_neg h9, if_pos (bB_n0.mp h19)]) T 0 S n (by omega) eo_rf en_rf hC.2.2.1 (fun q hq => absurd hq (by omega))) (And.intro rfl (And.intro rfl (And.intro rfl True.intro)))
    · refine aw_iconst (v := -1) rfl (by decide) ?_
      refine aw_ri rfl rfl ?_ eo_rf en_rf hC.2.2.1
      unfold m_order
      first
        | (rw [if_pos h9]; done)
        | (rw [if_neg h9, if_neg (by rw [bB_0.mp h19]; exact Bool.false_ne_true)]; done)
        | fail "x"
