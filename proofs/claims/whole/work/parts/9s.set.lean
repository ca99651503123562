/-! a call on both sides: what is set -/
theorem by_g {w h : Int32} {k : Nat} (h1 : ((h &&& 31).toBitVec.smod 32).toNat = k) (h2 : ((h.toUInt32 &&& Int32.toUInt32 31).toBitVec % 32).toNat = k) (hk : k = 24 ∨ k = 16 ∨ k = 8 ∨ k = 0) : ∃ c, c < 256 ∧ ush w h &&& 255 = nI c ∧ (w >>> (h &&& 31)) &&& 255 = nI c ∧ vp_nar .byte (w >>> (h &&& 31)).toInt8.toInt32 = n8 c := by
  have e := pk_shr w (h &&& 31) k h1
  have c1 : w.toInt = if 2 * w.toBitVec.toNat < 4294967296 then (w.toBitVec.toNat : Int) else (w.toBitVec.toNat : Int) - 4294967296 := BitVec.toInt_eq_toNat_cond w.toBitVec
  have c2 : (w >>> (h &&& 31)).toInt = if 2 * (w >>> (h &&& 31)).toBitVec.toNat < 4294967296 then ((w >>> (h &&& 31)).toBitVec.toNat : Int) else ((w >>> (h &&& 31)).toBitVec.toNat : Int) - 4294967296 := BitVec.toInt_eq_toNat_cond (w >>> (h &&& 31)).toBitVec
  have l1 := w.toBitVec.isLt
  have l2 := (w >>> (h &&& 31)).toBitVec.isLt
  have hN : (w >>> (h &&& 31)).toBitVec.toNat % 256 = w.toBitVec.toNat / 2 ^ k % 256 := by
    rw [Int.shiftRight_eq_div_pow] at e
    generalize (w >>> (h &&& 31)).toBitVec.toNat = B at c2 l2 ⊢
    generalize w.toBitVec.toNat = A at c1 l1 ⊢
    generalize (w >>> (h &&& 31)).toInt = Z at e c2
    generalize w.toInt = Y at e c1
    rcases hk with rfl | rfl | rfl | rfl
    · rw [show ((2 ^ 24 : Nat) : Int) = 16777216 from rfl] at e
      show B % 256 = A / 16777216 % 256
      split at c1 <;> split at c2 <;> omega
    · rw [show ((2 ^ 16 : Nat) : Int) = 65536 from rfl] at e
      show B % 256 = A / 65536 % 256
      split at c1 <;> split at c2 <;> omega
    · rw [show ((2 ^ 8 : Nat) : Int) = 256 from rfl] at e
      show B % 256 = A / 256 % 256
      split at c1 <;> split at c2 <;> omega
    · rw [show ((2 ^ 0 : Nat) : Int) = 1 from rfl] at e
      show B % 256 = A / 1 % 256
      split at c1 <;> split at c2 <;> omega
  refine ⟨w.toBitVec.toNat / 2 ^ k % 256, Nat.mod_lt _ (by decide), ?_, ?_, ?_⟩
  · unfold ush
    rw [pk_and _ 8 (by decide), pk_ushr _ _ k h2]
  · rw [pk_and _ 8 (by decide)]
    exact congrArg nI hN
  · rw [pk_vb]
    unfold n8
    refine congrArg Int8.toInt32 (Int8.toInt_inj.mp ?_)
    rw [Int32.toInt_toInt8, Int32.toInt_toInt8, nI_toInt (by omega)]
    have hz : (w >>> (h &&& 31)).toInt % 256 = ((w.toBitVec.toNat / 2 ^ k % 256 : Nat) : Int) % 256 := by
      rw [← hN]
      generalize (w >>> (h &&& 31)).toBitVec.toNat = B at c2 l2 ⊢
      generalize (w >>> (h &&& 31)).toInt = Z at c2 ⊢
      split at c2 <;> omega
    unfold Int.bmod
    rw [show ((2 ^ 8 : Nat) : Int) = 256 from rfl, hz]
theorem by_4 {w h : Int32} (hm : h ∈ [24, 16, 8, 0]) : ∃ c, c < 256 ∧ ush w h &&& 255 = nI c ∧ (w >>> (h &&& 31)) &&& 255 = nI c ∧ vp_nar .byte (w >>> (h &&& 31)).toInt8.toInt32 = n8 c := by
  simp only [List.mem_cons, List.not_mem_nil, or_false] at hm
  rcases hm with rfl | rfl | rfl | rfl
  · exact by_g (k := 24) (by decide) (by decide) (by decide)
  · exact by_g (k := 16) (by decide) (by decide) (by decide)
  · exact by_g (k := 8) (by decide) (by decide) (by decide)
  · exact by_g (k := 0) (by decide) (by decide) (by decide)
def FT (f h : Nat → Int32) (m : Nat) (tx : Nat → Nat) : Prop := ∀ i, i < m → 0 < tx i ∧ tx i < 256 ∧ f i = nI (tx i) ∧ h i = n8 (tx i)
def cnB (w : Int32) : List Int32 → Nat
  | [] => 0
  | h :: t => (if (w >>> (h &&& 31)) &&& 255 = 0 then 0 else 1) + cnB w t
theorem cnB_le (w : Int32) : ∀ L, cnB w L ≤ L.length
  | [] => Nat.le_refl _
  | h :: t => by
    have := cnB_le w t
    simp only [cnB, List.length_cons]
    split <;> omega
theorem fe_L {w : Int32} : ∀ (L : List Int32), (∀ h ∈ L, h ∈ [(24 : Int32), 16, 8, 0]) → ∀ c : Nat, sgI w L (nI c) = nI (c + cnB w L) ∧ bsI w L (nI c) = nI (c + cnB w L) ∧ ∀ (f h : Nat → Int32) (m : Nat) (tx : Nat → Nat), m + cnB w L ≤ 240 → FT f h m tx → (adI w L (f, m)).2 = m + cnB w L ∧ (ptI w L (h, m)).2 = m + cnB w L ∧ ∃ tx', FT (adI w L (f, m)).1 (ptI w L (h, m)).1 (m + cnB w L) tx'
  | [], _, c => ⟨rfl, rfl, fun f h m tx _ hF => ⟨rfl, rfl, tx, hF⟩⟩
  | y :: L, hL, c => by
    obtain ⟨b, hb, e1, e2, e3⟩ := by_4 (w := w) (hL y List.mem_cons_self)
    have ihL := fun c => fe_L (w := w) L (fun h hh => hL h (List.mem_cons_of_mem _ hh)) c
    simp only [sgI, bsI, adI, ptI, cnB]
    rw [e1, e2, e3]
    by_cases hz : nI b = 0
    · simp only [if_pos hz]
      have ih := ihL c
      rw [Int32.add_zero, Nat.zero_add]
      exact ih
    · simp only [if_neg hz]
      have ih := ihL (c + 1)
      have hb0 : 0 < b := by
        rcases Nat.eq_zero_or_pos b with q | q
        · exact absurd (by rw [q]; rfl) hz
        · exact q
      rw [nI_1]
      refine ⟨ih.1.trans (congrArg nI (by omega)), ih.2.1.trans (congrArg nI (by omega)), fun f h m tx hm hF => ?_⟩
      rw [if_pos (show m < 240 by omega)]
      have hF' : FT (upd f m (nI b)) (upd h m (n8 b)) (m + 1) (fun i => if i = m then b else tx i) := by
        intro i hi
        by_cases q : i = m
        · subst q
          dsimp only
          rw [if_pos rfl, upd_s, upd_s]
          exact ⟨hb0, hb, rfl, rfl⟩
        · dsimp only
          rw [if_neg q, upd_n q, upd_n q]
          exact hF i (by omega)
      obtain ⟨i1, i2, tx', i3⟩ := ih.2.2 _ _ _ _ (by omega) hF'
      rw [show m + (1 + cnB w L) = m + 1 + cnB w L by omega]
      exact ⟨i1, i2, tx', i3⟩
theorem fe_4 {w : Int32} : sg4 w = nI (cnB w [24, 16, 8, 0]) ∧ bs4 w = nI (cnB w [24, 16, 8, 0]) ∧ ∀ (f h : Nat → Int32) (m : Nat) (tx : Nat → Nat), m + cnB w [24, 16, 8, 0] ≤ 240 → FT f h m tx → (ad4 w (f, m)).2 = m + cnB w [24, 16, 8, 0] ∧ (pt4 w (h, m)).2 = m + cnB w [24, 16, 8, 0] ∧ ∃ tx', FT (ad4 w (f, m)).1 (pt4 w (h, m)).1 (m + cnB w [24, 16, 8, 0]) tx' := by
  have h := fe_L (w := w) [24, 16, 8, 0] (fun _ h => h) 0
  rw [Nat.zero_add] at h
  exact h
theorem fe_s {w : Int32} {a b : (Nat → Int32) × Nat} {m : Nat} (ha : a.2 = m) (hb : b.2 = m) (hm : m + cnB w [24, 16, 8, 0] ≤ 240) (hF : ∃ tx, FT a.1 b.1 m tx) : (ad4 w a).2 = m + cnB w [24, 16, 8, 0] ∧ (pt4 w b).2 = m + cnB w [24, 16, 8, 0] ∧ ∃ tx', FT (ad4 w a).1 (pt4 w b).1 (m + cnB w [24, 16, 8, 0]) tx' := by
  obtain ⟨a1', a2'⟩ := a
  obtain ⟨b1', b2'⟩ := b
  dsimp only at ha hb
  subst ha hb
  obtain ⟨tx, hF⟩ := hF
  exact fe_4.2.2 _ _ _ _ hm hF
theorem t_feed {s : am_S} {E : Nat} {x1 x2 x3 x4 x5 : Int32} (hE : s 1 1 = nI E) (hE4 : E ≤ 240) (hF : ∃ tx, FT (s 2) (s 40) E tx) : (q_feed s E x1 x2 x3 x4 x5 = (-1, s) ∧ ∀ S : am_S, S 39 6 = nI E → m_feed S E x1 x2 x3 x4 x5 = (-1, S)) ∨ ∃ (E' : Nat) (f h : Nat → Int32), E' ≤ 240 ∧ (∃ tx, FT f h E' tx) ∧ q_feed s E x1 x2 x3 x4 x5 = (nI E', tpM s f E') ∧ ∀ S : am_S, S 39 6 = nI E → S 40 = s 40 → m_feed S E x1 x2 x3 x4 x5 = (nI E', tmM S h E') := by
  have k1 := fe_4 (w := x1)
  have k2 := fe_4 (w := x2)
  have k3 := fe_4 (w := x3)
  have k4 := fe_4 (w := x4)
  have k5 := fe_4 (w := x5)
  have l1 := cnB_le x1 [24, 16, 8, 0]
  have l2 := cnB_le x2 [24, 16, 8, 0]
  have l3 := cnB_le x3 [24, 16, 8, 0]
  have l4 := cnB_le x4 [24, 16, 8, 0]
  have l5 := cnB_le x5 [24, 16, 8, 0]
  rw [show [(24 : Int32), 16, 8, 0].length = 4 from rfl] at l1 l2 l3 l4 l5
  obtain ⟨c1, hc1⟩ : ∃ c, c = cnB x1 [24, 16, 8, 0] := ⟨_, rfl⟩
  obtain ⟨c2, hc2⟩ : ∃ c, c = cnB x2 [24, 16, 8, 0] := ⟨_, rfl⟩
  obtain ⟨c3, hc3⟩ : ∃ c, c = cnB x3 [24, 16, 8, 0] := ⟨_, rfl⟩
  obtain ⟨c4, hc4⟩ : ∃ c, c = cnB x4 [24, 16, 8, 0] := ⟨_, rfl⟩
  obtain ⟨c5, hc5⟩ : ∃ c, c = cnB x5 [24, 16, 8, 0] := ⟨_, rfl⟩
  have hq : s 1 1 + (sg4 x1 + sg4 x2 + sg4 x3 + sg4 x4 + sg4 x5) = nI (E + (c1 + c2 + c3 + c4 + c5)) := by
    rw [hE, k1.1, k2.1, k3.1, k4.1, k5.1, nI_add, nI_add, nI_add, nI_add, nI_add, hc1, hc2, hc3, hc4, hc5]
  have hm : ∀ S : am_S, S 39 6 = nI E → S 39 6 + bs4 x1 + bs4 x2 + bs4 x3 + bs4 x4 + bs4 x5 = nI (E + (c1 + c2 + c3 + c4 + c5)) := by
    intro S hS
    rw [hS, k1.2.1, k2.2.1, k3.2.1, k4.2.1, k5.2.1, nI_add, nI_add, nI_add, nI_add, nI_add, hc1, hc2, hc3, hc4, hc5]
    exact congrArg nI (by omega)
  unfold q_feed m_feed
  by_cases hle : E + (c1 + c2 + c3 + c4 + c5) ≤ 240
  · refine Or.inr ?_
    have z0' : ((s 2, E) : (Nat → Int32) × Nat).2 = E := rfl
    have y0 : ((s 40, E) : (Nat → Int32) × Nat).2 = E := rfl
    have s1 := fe_s (w := x1) (a := (s 2, E)) (b := (s 40, E)) z0' y0 (by omega) hF
    have s2 := fe_s (w := x2) s1.1 s1.2.1 (by omega) s1.2.2
    have s3 := fe_s (w := x3) s2.1 s2.2.1 (by omega) s2.2.2
    have s4 := fe_s (w := x4) s3.1 s3.2.1 (by omega) s3.2.2
    have s5 := fe_s (w := x5) s4.1 s4.2.1 (by omega) s4.2.2
    refine ⟨_, (fdA s E x1 x2 x3 x4 x5).1, (pt4 x5 (pt4 x4 (pt4 x3 (pt4 x2 (pt4 x1 (s 40, E)))))).1, ?_, s5.2.2, ?_, ?_⟩
    · omega
    · rw [hq, if_pos (show nI (E + (c1 + c2 + c3 + c4 + c5)) ≤ 240 from nI_le (b := 240) hle (by decide))]
      have e : (fdA s E x1 x2 x3 x4 x5).2 = _ := s5.1
      rw [e]
    · intro S h6 h40
      rw [hm S h6, if_pos (show nI (E + (c1 + c2 + c3 + c4 + c5)) ≤ 240 from nI_le (b := 240) hle (by decide))]
      unfold pfA
      rw [h40, s5.2.1]
  · have hn : ¬ nI (E + (c1 + c2 + c3 + c4 + c5)) ≤ 240 := fun z => hle ((nI_leI (b := 240) (by omega) (by decide)).mp z)
    exact Or.inl ⟨by rw [hq, if_neg hn], fun S hS => by rw [hm S hS, if_neg hn]⟩
theorem t_knives {s : am_S} {v : Int32} : (q_knives s v = (0, s) ∧ ∀ S : am_S, S 39 35 = s 0 7 → m_knives S v = (0, z0 S)) ∨ (q_knives s v = (1, up s 0 7 v) ∧ ∀ S : am_S, S 39 35 = s 0 7 → m_knives S v = (1, up (z0 S) 39 35 v)) := by
  unfold q_knives m_knives
  by_cases h1 : inn v.toInt64 0 9 = true
  · obtain ⟨j, hj, rfl⟩ := (inn_0 (M := 9) (by decide) (by decide)).mp h1
    rw [if_neg (nI_pos (by omega)), if_neg (show ¬ 9 < nI j from Int32.not_lt.mpr (nI_le (b := 9) hj (by decide)))]
    by_cases h2 : nI j = s 0 7
    · exact Or.inl ⟨by rw [if_pos h2], fun S hS => by rw [if_pos h1, hS, if_pos h2]⟩
    · exact Or.inr ⟨by rw [if_neg h2], fun S hS => by rw [if_pos h1, hS, if_neg h2]⟩
  · refine Or.inl ⟨?_, fun S _ => by rw [if_neg h1]⟩
    rcases inn_01 (M := 9) (B := 9) (by decide) (by decide) rfl h1 with h | h
    · rw [if_pos h]
    · rw [if_neg (fun z => Int32.lt_irrefl (Int32.lt_trans (Int32.lt_trans h z) (by decide))), if_pos h]
theorem t_law {s : am_S} {K : Nat} {v : Int32} (hK : s 10 3 = nI K) (hK4 : K ≤ 4) : (q_law s v = (0, s) ∧ ∀ S : am_S, S 39 7 = nI K → m_law S v = (0, z0 S)) ∨ ((v = -1 ∨ ∃ k, k < K ∧ v = nI k) ∧ q_law s v = (1, up s 10 4 v) ∧ ∀ S : am_S, S 39 7 = nI K → m_law S v = (1, up (z0 S) 39 34 v)) := by
  unfold q_law m_law
  by_cases h1 : v = -1
  · refine Or.inr ⟨Or.inl h1, ?_, fun S _ => by rw [if_pos h1]⟩
    rw [if_neg (by rw [h1]; decide), hK, if_pos]
    rw [h1]
    exact Int32.lt_of_lt_of_le (show (-1 : Int32) < 0 by decide) (nI_pos' (by omega))
  · by_cases h0 : v < 0
    · refine Or.inl ⟨?_, fun S hS => by rw [if_neg h1, if_neg (inn_i0 h0)]⟩
      rw [if_pos]
      have e1 := Int32.lt_iff_toInt_lt.mp h0
      rw [show (0 : Int32).toInt = 0 from rfl] at e1
      refine Int32.lt_iff_toInt_lt.mpr ?_
      rw [show (-1 : Int32).toInt = -1 from rfl]
      have : ¬ v.toInt = -1 := fun z => h1 (Int32.toInt_inj.mp z)
      omega
    · obtain ⟨j, hj, rfl⟩ := nI_of h0
      rw [if_neg (show ¬ nI j < -1 from fun z => h0 (Int32.lt_trans z (by decide))), hK]
      by_cases h2 : j < K
      · refine Or.inr ⟨Or.inr ⟨j, h2, rfl⟩, by rw [if_pos (nI_lt h2 (by omega))], fun S hS => ?_⟩
        rw [if_neg h1, hS, if_pos ((inn_0 (M := K - 1) (by omega) (by rw [nI_m1 (by omega)]; exact tI64 (by omega))).mpr ⟨j, by omega, rfl⟩)]
      · refine Or.inl ⟨by rw [if_neg (fun z => h2 ((nI_ltI hj (by omega)).mp z))], fun S hS => ?_⟩
        rw [if_neg h1, hS, if_neg]
        intro z
        rcases Nat.eq_zero_or_pos K with e0 | e0
        · rw [e0, show (nI 0 - 1 : Int32) = -1 from rfl] at z
          unfold inn at z
          simp only [Bool.and_eq_true, decide_eq_true_eq] at z
          have z1 := Int64.le_iff_toInt_le.mp (Int64.le_trans z.1 z.2)
          exact absurd z1 (by decide)
        · obtain ⟨y, hy, he⟩ := (inn_0 (M := K - 1) (by omega) (by rw [nI_m1 e0]; exact tI64 (by omega))).mp z
          have := (nI_eq hj (by omega)).mp he
          omega
theorem t_end {s : am_S} {E : Nat} {v : Int32} (hE : s 1 1 = nI E) (hE4 : E ≤ 240) : (q_end s v = (0, s) ∧ ∀ S : am_S, S 39 6 = nI E → m_end S v = (0, z0 S)) ∨ ∃ e, e ≤ E ∧ v = nI e ∧ q_end s v = (1, up s 1 1 v) ∧ ∀ S : am_S, S 39 6 = nI E → m_end S v = (1, up (z0 S) 39 6 v) := by
  unfold q_end m_end
  by_cases h0 : v < 0
  · exact Or.inl ⟨by rw [if_pos h0], fun S _ => by rw [if_pos h0]⟩
  · obtain ⟨j, hj, rfl⟩ := nI_of h0
    rw [hE, if_neg h0]
    by_cases h1 : j ≤ E
    · exact Or.inr ⟨j, h1, rfl, by rw [if_pos (nI_le h1 (by omega))], fun S hS => by rw [if_neg h0, hS, if_pos (nI_le h1 (by omega))]⟩
    · have hn : ¬ nI j ≤ nI E := fun z => h1 ((nI_leI hj (by omega)).mp z)
      exact Or.inl ⟨by rw [if_neg hn], fun S hS => by rw [if_neg h0, hS, if_neg hn]⟩

