/-! the law: its loop -/
def s00 : am_S := up (up (fun _ _ => 0) 10 4 (-1)) 39 34 (-1)
def n00 : am_N := (fun _ _ => 0, fun _ _ => none, 40, [])
theorem REL_0 {g : ag_G} : REL g s00 s00 n00 := by
  refine ⟨0, 0, ⟨⟨⟨rfl, by decide, rfl, by decide, fun j hj => absurd hj (by omega)⟩, ⟨rfl, by decide, rfl, by decide, fun j hj => absurd hj (by omega)⟩, fun j hj => absurd hj (by omega), fun j hj => absurd hj (by omega), rfl, 0, by decide, rfl⟩, ⟨0, rfl, rfl, by decide, fun i hi => absurd hi (by omega)⟩, ⟨rfl, Or.inl rfl⟩, rfl, ⟨0, fun _ => 0, fun _ _ => 0, ⟨rfl, by decide, fun q hq => absurd hq (by omega)⟩, rfl, fun q hq => absurd hq (by omega)⟩, 0, fun _ => 0, ⟨rfl, by decide, fun i hi => absurd hi (by omega)⟩, rfl, fun i hi => absurd hi (by omega)⟩, ?_, ?_⟩
  · refine ⟨0, 0, fun _ => 0, ⟨rfl, by decide, rfl, by decide⟩, rfl, ?_, fun i hi => absurd hi (by omega), fun i hi => absurd hi (by omega)⟩
    exact ⟨⟨⟨rfl, rfl, rfl, rfl, rfl⟩, fun j hj => absurd hj (by omega), fun r hr => absurd hr (by omega)⟩, ⟨⟨fun j hj => absurd hj (by omega), fun r hr => absurd hr (by omega), 0, by decide, rfl⟩, ⟨0, by decide, rfl⟩, 0, by decide, rfl⟩, ⟨rfl, by decide, rfl⟩, fun e x he _ => absurd he (by show ¬ e < min 60 0; omega)⟩
  · refine ⟨0, fun _ => [], ⟨rfl, by decide, fun k hk => absurd hk (by omega)⟩, ?_, rfl, rfl, Or.inl rfl⟩
    refine ⟨0, by decide, by decide, rfl, fun i _ => ?_, fun k hk => absurd hk (by omega), fun sp _ k a b c d e f hk ha hb hc hd he hf h => ?_⟩
    · show bd 0
      exact ⟨by decide, by decide⟩
    · exfalso
      have h0 : n64 0 = n64 (keyN k a b c d e f) := h
      have := n64_in (by decide) (by unfold keyN; omega) h0
      unfold keyN at this
      omega

set_option maxRecDepth 20000 in
theorem lw_sw {j : Nat} (hj : j < 64) {l : Launch} {g : ag_G} {b L0 i cells slots : Nat} {xs : Nat → Int32} {s : am_S} {n : am_N} (hk : LK l g b L0 xs) (hi : i + 7 ≤ L0) (hc : cells ≤ 600000) (hs : slots ≤ 7000000) (hR : REL g s s n) (kont : KN l g b i cells slots) : aw_W l g mi_L_law room_1 (lz g) cells slots (hp g s n) 40 (LLc g b i) [.int (nI j)] := by
  by_cases h : j < 42
  · match j, h with
    | 0, _ => exact aw_tabIn (off := 184) (tgt := 224) rfl (by decide) (by decide) (by decide) (by decide) (lw_c0 hk hi hc hs hR kont)
    | 1, _ => exact aw_tabIn (off := 257) (tgt := 297) rfl (by decide) (by decide) (by decide) (by decide) (lw_c1 hk hi hc hs hR kont)
    | 2, _ => exact aw_tabIn (off := 282) (tgt := 322) rfl (by decide) (by decide) (by decide) (by decide) (lw_c2 hk hi hc hs hR kont)
    | 3, _ => exact aw_tabIn (off := 307) (tgt := 347) rfl (by decide) (by decide) (by decide) (by decide) (lw_c3 hk hi hc hs hR kont)
    | 4, _ => exact aw_tabIn (off := 332) (tgt := 372) rfl (by decide) (by decide) (by decide) (by decide) (lw_c4 hk hi hc hs hR kont)
    | 5, _ => exact aw_tabIn (off := 357) (tgt := 397) rfl (by decide) (by decide) (by decide) (by decide) (lw_c5 hk hi hc hs hR kont)
    | 6, _ => exact aw_tabIn (off := 425) (tgt := 465) rfl (by decide) (by decide) (by decide) (by decide) (lw_c6 hk hi hc hs hR kont)
    | 7, _ => exact aw_tabIn (off := 462) (tgt := 502) rfl (by decide) (by decide) (by decide) (by decide) (lw_c7 hk hi hc hs hR kont)
    | 8, _ => exact aw_tabIn (off := 487) (tgt := 527) rfl (by decide) (by decide) (by decide) (by decide) (lw_c8 hk hi hc hs hR kont)
    | 9, _ => exact aw_tabIn (off := 512) (tgt := 552) rfl (by decide) (by decide) (by decide) (by decide) (lw_c9 hk hi hc hs hR kont)
    | 10, _ => exact aw_tabIn (off := 525) (tgt := 565) rfl (by decide) (by decide) (by decide) (by decide) (lw_c10 hk hi hc hs hR kont)
    | 11, _ => exact aw_tabIn (off := 562) (tgt := 602) rfl (by decide) (by decide) (by decide) (by decide) (lw_c11 hk hi hc hs hR kont)
    | 12, _ => exact aw_tabIn (off := 587) (tgt := 627) rfl (by decide) (by decide) (by decide) (by decide) (lw_c12 hk hi hc hs hR kont)
    | 13, _ => exact aw_tabIn (off := 624) (tgt := 664) rfl (by decide) (by decide) (by decide) (by decide) (lw_c13 hk hi hc hs hR kont)
    | 14, _ => exact aw_tabIn (off := 661) (tgt := 701) rfl (by decide) (by decide) (by decide) (by decide) (lw_c14 hk hi hc hs hR kont)
    | 15, _ => exact aw_tabIn (off := 686) (tgt := 726) rfl (by decide) (by decide) (by decide) (by decide) (lw_c15 hk hi hc hs hR kont)
    | 16, _ => exact aw_tabIn (off := 755) (tgt := 795) rfl (by decide) (by decide) (by decide) (by decide) (lw_c16 hk hi hc hs hR kont)
    | 17, _ => exact aw_tabIn (off := 768) (tgt := 808) rfl (by decide) (by decide) (by decide) (by decide) (lw_c17 hk hi hc hs hR kont)
    | 18, _ => exact aw_tabIn (off := 805) (tgt := 845) rfl (by decide) (by decide) (by decide) (by decide) (lw_c18 hk hi hc hs hR kont)
    | 19, _ => exact aw_tabIn (off := 854) (tgt := 894) rfl (by decide) (by decide) (by decide) (by decide) (lw_c19 hk hi hc hs hR kont)
    | 20, _ => exact aw_tabIn (off := 891) (tgt := 931) rfl (by decide) (by decide) (by decide) (by decide) (lw_c20 hk hi hc hs hR kont)
    | 21, _ => exact aw_tabIn (off := 916) (tgt := 956) rfl (by decide) (by decide) (by decide) (by decide) (lw_c21 hk hi hc hs hR kont)
    | 22, _ => exact aw_tabIn (off := 941) (tgt := 981) rfl (by decide) (by decide) (by decide) (by decide) (lw_c22 hk hi hc hs hR kont)
    | 23, _ => exact aw_tabIn (off := 966) (tgt := 1006) rfl (by decide) (by decide) (by decide) (by decide) (lw_c23 hk hi hc hs hR kont)
    | 24, _ => exact aw_tabIn (off := 1015) (tgt := 1055) rfl (by decide) (by decide) (by decide) (by decide) (lw_c24 hk hi hc hs hR kont)
    | 25, _ => exact aw_tabIn (off := 1052) (tgt := 1092) rfl (by decide) (by decide) (by decide) (by decide) (lw_c25 hk hi hc hs hR kont)
    | 26, _ => exact aw_tabIn (off := 1077) (tgt := 1117) rfl (by decide) (by decide) (by decide) (by decide) (lw_c26 hk hi hc hs hR kont)
    | 27, _ => exact aw_tabIn (off := 1114) (tgt := 1154) rfl (by decide) (by decide) (by decide) (by decide) (lw_c27 hk hi hc hs hR kont)
    | 28, _ => exact aw_tabIn (off := 1179) (tgt := 1219) rfl (by decide) (by decide) (by decide) (by decide) (lw_c28 hk hi hc hs hR kont)
    | 29, _ => exact aw_tabIn (off := 1204) (tgt := 1244) rfl (by decide) (by decide) (by decide) (by decide) (lw_c29 hk hi hc hs hR kont)
    | 30, _ => exact aw_tabIn (off := 1217) (tgt := 1257) rfl (by decide) (by decide) (by decide) (by decide) (lw_c30 hk hi hc hs hR kont)
    | 31, _ => exact aw_tabIn (off := 1304) (tgt := 1344) rfl (by decide) (by decide) (by decide) (by decide) (lw_c31 hk hi hc hs hR kont)
    | 32, _ => exact aw_tabIn (off := 1365) (tgt := 1405) rfl (by decide) (by decide) (by decide) (by decide) (lw_c32 hk hi hc hs hR kont)
    | 33, _ => exact aw_tabIn (off := 1414) (tgt := 1454) rfl (by decide) (by decide) (by decide) (by decide) (lw_c33 hk hi hc hs hR kont)
    | 34, _ => exact aw_tabIn (off := 1439) (tgt := 1479) rfl (by decide) (by decide) (by decide) (by decide) (lw_c34 hk hi hc hs hR kont)
    | 35, _ => exact aw_tabIn (off := 1464) (tgt := 1504) rfl (by decide) (by decide) (by decide) (by decide) (lw_c35 hk hi hc hs hR kont)
    | 36, _ => exact aw_tabIn (off := 1489) (tgt := 1529) rfl (by decide) (by decide) (by decide) (by decide) (lw_c36 hk hi hc hs hR kont)
    | 37, _ => exact aw_tabIn (off := 1514) (tgt := 1554) rfl (by decide) (by decide) (by decide) (by decide) (lw_c37 hk hi hc hs hR kont)
    | 38, _ => exact aw_tabIn (off := 1539) (tgt := 1579) rfl (by decide) (by decide) (by decide) (by decide) (lw_c38 hk hi hc hs hR kont)
    | 39, _ => exact aw_tabIn (off := 1576) (tgt := 1616) rfl (by decide) (by decide) (by decide) (by decide) (lw_c39 hk hi hc hs hR kont)
    | 40, _ => exact aw_tabIn (off := 1589) (tgt := 1629) rfl (by decide) (by decide) (by decide) (by decide) (lw_c40 hk hi hc hs hR kont)
    | 41, _ => exact aw_tabIn (off := 1602) (tgt := 1642) rfl (by decide) (by decide) (by decide) (by decide) (lw_c41 hk hi hc hs hR kont)
    | k + 42, h => exact absurd h (by omega)
  · refine aw_tabOut (tgt := 1667) rfl (Or.inr ?_) (by decide) ?_
    · rw [nI_toInt (by omega)]
      omega
    · exact kont _ _ s n (by omega) (by omega) hR
set_option maxRecDepth 20000 in
theorem lw_loop {l : Launch} {g : ag_G} {b L0 : Nat} {xs : Nat → Int32} (hk : LK l g b L0 xs) : ∀ (d i cells slots : Nat) (s : am_S) (n : am_N), L0 ≤ i + 7 * d + 6 → i ≤ 4000 → cells + d ≤ 600000 → slots + 240 * d ≤ 7000000 → REL g s s n → aw_W l g mi_L_law room_1 (lz g) cells slots (hp g s n) 23 (LLc g b i) [] := by
  have h35 := hk.2.2.2.2.2.2
  have hd : ∀ (i cells slots : Nat) (s : am_S) (n : am_N), i ≤ 4000 → cells ≤ 600000 → slots ≤ 7000000 → (i + 7 ≤ L0 → aw_W l g mi_L_law room_1 (lz g) cells slots (hp g s n) 33 (LLc g b i) []) → aw_W l g mi_L_law room_1 (lz g) cells slots (hp g s n) 23 (LLc g b i) [] := by
    intro i cells slots s n hi hc hs kk
    refine aw_iload rfl rfl ?_
    refine aw_aload_n (k := 0) rfl rfl ?_
    refine aw_slen hk rfl ?_
    refine aw_bipush (v := 7) rfl (by decide) ?_
    refine aw_isub rfl ?_
    refine aw_icmp_gt (tgt := 1673) rfl (by decide) (fun _ => ?_) (fun h => kk ?_)
    · refine aw_iconst (v := 1) rfl (by decide) ?_
      exact aw_lret (by omega) (by omega) rfl
    · have e1 := Int32.le_iff_toInt_le.mp (Int32.not_lt.mp h)
      rw [nI_toInt (by omega), show (nI L0 - 7).toInt = (L0 : Int) - (7 : Nat) from pk_sub_toInt (b := 7) (by omega) (by decide)] at e1
      omega
  intro d
  induction d with
  | zero =>
    intro i cells slots s n hL hi hc hs hR
    exact hd i cells slots s n hi (by omega) (by omega) (fun h => by omega)
  | succ d ih =>
    intro i cells slots s n hL hi hc hs hR
    refine hd i cells slots s n hi (by omega) (by omega) (fun h7 => ?_)
    refine aw_aload_n (k := 0) rfl rfl ?_
    refine aw_iload rfl rfl ?_
    refine aw_sld (k := i) hk rfl rfl (by omega) ?_
    refine aw_bipush (v := 63) rfl (by decide) ?_
    refine aw_iand rfl ?_
    obtain ⟨j, hj, hje⟩ := pk_andE (xs i) (m := 63) 6 (by decide)
    rw [hje]
    refine lw_sw hj hk h7 (by omega) (by omega) hR ?_
    intro c' z' s' n' h1 h2 hR'
    refine aw_iinc (v := nI (i + 7)) rfl rfl ?_ (by decide) ?_
    · exact nI_add i 7
    · refine aw_goto (tgt := 23) rfl (by decide) ?_
      exact ih (i + 7) c' z' s' n' (by omega) (by omega) (by omega) (by omega) hR'

