/-! the law: its switch and its loop -/
section LLOOP
variable {l : Launch} {γ : Lg} {ad1 ad2 : Nat → Nat} {b L j : Nat} {xs : Nat → Int32} {A : Ab} {s t : Nat → Nat → Int32} {g h : Nat} {i : Int32} {σ τ : Hp}
theorem and63 (x : Int32) : ∃ k, k < 64 ∧ x &&& nI 63 = nI k := by
  refine ⟨(x &&& nI 63).toBitVec.toNat, ?_, ?_⟩
  · rw [Int32.toBitVec_and, BitVec.toNat_and]
    exact Nat.lt_of_le_of_lt Nat.and_le_right (by decide)
  · apply Int32.toBitVec_inj.1
    apply BitVec.eq_of_toNat_eq
    show _ = (BitVec.ofNat 32 _).toNat
    rw [BitVec.toNat_ofNat, Nat.mod_eq_of_lt (x &&& nI 63).toBitVec.isLt]
theorem l_tab (hc : LC l γ ad1 ad2 b L xs) {x : Int32} {off : Int} {tgt : Nat} (h1 : ¬ x.toInt < 0) (h2 : ¬ 42 < x.toInt) (ho : (#[187, 250, 283, 316, 339, 408, 441, 500, 533, 586, 619, 662, 715, 748, 761, 804, 857, 910, 953, 986, 1019, 1052, 1121, 1154, 1223, 1286, 1319, 1362, 1415, 1458, 1491, 1566, 1635, 1668, 1691, 1724, 1757, 1826, 1895, 1948, 1981, 2004, 2017] : Array Int)[(x.toInt - 0).toNat]? = some off) (ht : (33 : Int) + off = (tgt : Int)) (kk : LW l γ ad1 ad2 b tgt i [] σ τ) : LW l γ ad1 ad2 b 33 i [.int x] σ τ := by
  obtain ⟨p, e, s, m, below, meth, c, D, dA⟩ := γ
  obtain ⟨hx, hb, hr, hml, hown, hts, hnw, hK, hX, hbl, hlk, hL, hD1, hD2, hdis⟩ := hc
  intro H locs ls hP1 hP2 hS hl
  exact lv_tableIn hx hb dL_law_33 h1 h2 ho ht (kk H locs ls hP1 hP2 hS hl)
theorem l_out (hc : LC l γ ad1 ad2 b L xs) {x : Int32} (h2 : 42 < x.toInt) (kk : LW l γ ad1 ad2 b 2063 i [] σ τ) : LW l γ ad1 ad2 b 33 i [.int x] σ τ := by
  obtain ⟨p, e, s, m, below, meth, c, D, dA⟩ := γ
  obtain ⟨hx, hb, hr, hml, hown, hts, hnw, hK, hX, hbl, hlk, hL, hD1, hD2, hdis⟩ := hc
  intro H locs ls hP1 hP2 hS hl
  exact lv_tableOut (tgt := 2063) hx hb dL_law_33 (Or.inr h2) (by decide) (kk H locs ls hP1 hP2 hS hl)
theorem big63 : ∀ k, k < 64 → 43 ≤ k → 42 < (nI k).toInt := by decide +kernel
theorem l_sw (hc : LC l γ ad1 ad2 b L xs) (hj : j + 6 < L) (hA : OK A) (hcc : CC s A) (hmm : MM t A) (kk : Nxt l γ ad1 ad2 b j) : ∀ k, k < 43 → LW l γ ad1 ad2 b 33 (nI j) [.int (nI k)] (s, rC g h) (t, rM) := fun k hk => match k, hk with
  | 0, _ => l_tab hc (off := 187) (tgt := 220) (by decide) (by decide) rfl (by decide) (lc_0 hc hj hA hcc hmm kk)
  | 1, _ => l_tab hc (off := 250) (tgt := 283) (by decide) (by decide) rfl (by decide) (lc_1 hc hj hA hcc hmm kk)
  | 2, _ => l_tab hc (off := 283) (tgt := 316) (by decide) (by decide) rfl (by decide) (lc_2 hc hj hA hcc hmm kk)
  | 3, _ => l_tab hc (off := 316) (tgt := 349) (by decide) (by decide) rfl (by decide) (lc_3 hc hj hA hcc hmm kk)
  | 4, _ => l_tab hc (off := 339) (tgt := 372) (by decide) (by decide) rfl (by decide) (lc_4 hc hj hA hcc hmm kk)
  | 5, _ => l_tab hc (off := 408) (tgt := 441) (by decide) (by decide) rfl (by decide) (lc_5 hc hj hA hcc hmm kk)
  | 6, _ => l_tab hc (off := 441) (tgt := 474) (by decide) (by decide) rfl (by decide) (lc_6 hc hj hA hcc hmm kk)
  | 7, _ => l_tab hc (off := 500) (tgt := 533) (by decide) (by decide) rfl (by decide) (lc_7 hc hj hA hcc hmm kk)
  | 8, _ => l_tab hc (off := 533) (tgt := 566) (by decide) (by decide) rfl (by decide) (lc_8 hc hj hA hcc hmm kk)
  | 9, _ => l_tab hc (off := 586) (tgt := 619) (by decide) (by decide) rfl (by decide) (lc_9 hc hj hA hcc hmm kk)
  | 10, _ => l_tab hc (off := 619) (tgt := 652) (by decide) (by decide) rfl (by decide) (lc_10 hc hj hA hcc hmm kk)
  | 11, _ => l_tab hc (off := 662) (tgt := 695) (by decide) (by decide) rfl (by decide) (lc_11 hc hj hA hcc hmm kk)
  | 12, _ => l_tab hc (off := 715) (tgt := 748) (by decide) (by decide) rfl (by decide) (lc_12 hc hj hA hcc hmm kk)
  | 13, _ => l_tab hc (off := 748) (tgt := 781) (by decide) (by decide) rfl (by decide) (lc_13 hc hj hA hcc hmm kk)
  | 14, _ => l_tab hc (off := 761) (tgt := 794) (by decide) (by decide) rfl (by decide) (lc_14 hc hj hA hcc hmm kk)
  | 15, _ => l_tab hc (off := 804) (tgt := 837) (by decide) (by decide) rfl (by decide) (lc_15 hc hj hA hcc hmm kk)
  | 16, _ => l_tab hc (off := 857) (tgt := 890) (by decide) (by decide) rfl (by decide) (lc_16 hc hj hA hcc hmm kk)
  | 17, _ => l_tab hc (off := 910) (tgt := 943) (by decide) (by decide) rfl (by decide) (lc_17 hc hj hA hcc hmm kk)
  | 18, _ => l_tab hc (off := 953) (tgt := 986) (by decide) (by decide) rfl (by decide) (lc_18 hc hj hA hcc hmm kk)
  | 19, _ => l_tab hc (off := 986) (tgt := 1019) (by decide) (by decide) rfl (by decide) (lc_19 hc hj hA hcc hmm kk)
  | 20, _ => l_tab hc (off := 1019) (tgt := 1052) (by decide) (by decide) rfl (by decide) (lc_20 hc hj hA hcc hmm kk)
  | 21, _ => l_tab hc (off := 1052) (tgt := 1085) (by decide) (by decide) rfl (by decide) (lc_21 hc hj hA hcc hmm kk)
  | 22, _ => l_tab hc (off := 1121) (tgt := 1154) (by decide) (by decide) rfl (by decide) (lc_22 hc hj hA hcc hmm kk)
  | 23, _ => l_tab hc (off := 1154) (tgt := 1187) (by decide) (by decide) rfl (by decide) (lc_23 hc hj hA hcc hmm kk)
  | 24, _ => l_tab hc (off := 1223) (tgt := 1256) (by decide) (by decide) rfl (by decide) (lc_24 hc hj hA hcc hmm kk)
  | 25, _ => l_tab hc (off := 1286) (tgt := 1319) (by decide) (by decide) rfl (by decide) (lc_25 hc hj hA hcc hmm kk)
  | 26, _ => l_tab hc (off := 1319) (tgt := 1352) (by decide) (by decide) rfl (by decide) (lc_26 hc hj hA hcc hmm kk)
  | 27, _ => l_tab hc (off := 1362) (tgt := 1395) (by decide) (by decide) rfl (by decide) (lc_27 hc hj hA hcc hmm kk)
  | 28, _ => l_tab hc (off := 1415) (tgt := 1448) (by decide) (by decide) rfl (by decide) (lc_28 hc hj hA hcc hmm kk)
  | 29, _ => l_tab hc (off := 1458) (tgt := 1491) (by decide) (by decide) rfl (by decide) (lc_29 hc hj hA hcc hmm kk)
  | 30, _ => l_tab hc (off := 1491) (tgt := 1524) (by decide) (by decide) rfl (by decide) (lc_30 hc hj hA hcc hmm kk)
  | 31, _ => l_tab hc (off := 1566) (tgt := 1599) (by decide) (by decide) rfl (by decide) (lc_31 hc hj hA hcc hmm kk)
  | 32, _ => l_tab hc (off := 1635) (tgt := 1668) (by decide) (by decide) rfl (by decide) (lc_32 hc hj hA hcc hmm kk)
  | 33, _ => l_tab hc (off := 1668) (tgt := 1701) (by decide) (by decide) rfl (by decide) (lc_33 hc hj hA hcc hmm kk)
  | 34, _ => l_tab hc (off := 1691) (tgt := 1724) (by decide) (by decide) rfl (by decide) (lc_34 hc hj hA hcc hmm kk)
  | 35, _ => l_tab hc (off := 1724) (tgt := 1757) (by decide) (by decide) rfl (by decide) (lc_35 hc hj hA hcc hmm kk)
  | 36, _ => l_tab hc (off := 1757) (tgt := 1790) (by decide) (by decide) rfl (by decide) (lc_36 hc hj hA hcc hmm kk)
  | 37, _ => l_tab hc (off := 1826) (tgt := 1859) (by decide) (by decide) rfl (by decide) (lc_37 hc hj hA hcc hmm kk)
  | 38, _ => l_tab hc (off := 1895) (tgt := 1928) (by decide) (by decide) rfl (by decide) (lc_38 hc hj hA hcc hmm kk)
  | 39, _ => l_tab hc (off := 1948) (tgt := 1981) (by decide) (by decide) rfl (by decide) (lc_39 hc hj hA hcc hmm kk)
  | 40, _ => l_tab hc (off := 1981) (tgt := 2014) (by decide) (by decide) rfl (by decide) (lc_40 hc hj hA hcc hmm kk)
  | 41, _ => l_tab hc (off := 2004) (tgt := 2037) (by decide) (by decide) rfl (by decide) (lc_41 hc hj hA hcc hmm kk)
  | 42, _ => l_tab hc (off := 2017) (tgt := 2050) (by decide) (by decide) rfl (by decide) (lc_42 hc hj hA hcc hmm kk)
  | k + 43, h => absurd h (by omega)
theorem l_body (hc : LC l γ ad1 ad2 b L xs) (hj : j + 6 < L) (hA : OK A) (hcc : CC s A) (hmm : MM t A) (kk : Nxt l γ ad1 ad2 b j) : LW l γ ad1 ad2 b 27 (nI j) [] (s, rC g h) (t, rM) := by
  obtain ⟨k, hk, hw⟩ := and63 (xs j)
  have key : LW l γ ad1 ad2 b 33 (nI j) [.int (nI k)] (s, rC g h) (t, rM) := by
    by_cases c : k < 43
    · exact l_sw hc hj hA hcc hmm kk k c
    · exact l_out hc (big63 k hk (by omega)) (kk A s t g h hA hcc hmm)
  rw [← hw] at key
  obtain ⟨p, e, s, m, below, meth, c, D, dA⟩ := γ
  obtain ⟨hx, hb, hr, hml, hown, hts, hnw, hK, hX, hbl, hlk, hL, hD1, hD2, hdis⟩ := hc
  intro H locs ls hP1 hP2 hS hl
  refine lv_aload_n hx hb dL_law_27 rfl (lv_at hl 3 rfl) ?_
  refine lv_iload_n hx hb dL_law_28 rfl (lv_at hl 0 rfl) ?_
  refine va_sld hx hb hX hbl (Nat.not_le.mpr hbl) hS (vp_in_nI (by omega) (by omega)) dL_law_29 ?_
  rw [nI_clamp (by omega)]
  refine lv_bipush (v := nI 63) hx hb dL_law_30 (by decide) ?_
  refine lv_iand hx hb dL_law_32 ?_
  exact key H locs ls hP1 hP2 hS hl
theorem d_J (j : Nat) (hj : j < 3600) : (nI j).toInt = (j : Int) := Int32.toInt_ofNat_of_lt (by omega)
theorem d_L6 : ∀ L, L < 7 → (nI L - nI 7).toInt = (L : Int) - 7 := by decide +kernel
theorem d_L7 (L : Nat) (hL : L < 3585) : (nI L - nI 7).toInt = (L : Int) - 7 := by
  by_cases c : L < 7
  · exact d_L6 L c
  · rw [pk_sub (a := L) (b := 7) (by omega), d_J (L - 7) (by omega)]
    omega
theorem l_loop (hc : LC l γ ad1 ad2 b L xs) : ∀ (f j : Nat) (A : Ab) (s t : Nat → Nat → Int32) (g h : Nat), L < j + f → j ≤ L + 7 → OK A → CC s A → MM t A → LW l γ ad1 ad2 b 18 (nI j) [] (s, rC g h) (t, rM) := by
  intro f
  induction f with
  | zero =>
    intro j A s t g h hf hj hA hcc hmm
    obtain ⟨p, e, s0, m, below, meth, c, D, dA⟩ := γ
    obtain ⟨hx, hb, hr, hml, hown, hts, hnw, hK, hX, hbl, hlk, hL, hD1, hD2, hdis⟩ := hc
    intro H locs ls hP1 hP2 hS hl
    refine lv_iload_n hx hb dL_law_18 rfl (lv_at hl 0 rfl) ?_
    refine lv_aload_n hx hb dL_law_19 rfl (lv_at hl 3 rfl) ?_
    refine va_slen hx hb hX hbl (Nat.not_le.mpr hbl) hS dL_law_20 ?_
    refine lv_bipush (v := nI 7) hx hb dL_law_21 (by decide) ?_
    refine lv_isub hx hb dL_law_23 ?_
    refine lv_icmp_gt (tgt := 2069) hx hb dL_law_24 (by decide) (fun _ => ?_) (fun hn => absurd (show nI L - nI 7 < nI j from ?_) hn)
    · refine lv_iconst (v := 1) hx hb dL_law_2069 (by decide) ?_
      refine va_forget (fun q hq => hS.2.2 q hq) ?_
      refine W.widen (k := 600000) (n := 7302250) (by omega) (by omega) ?_
      exact lw_ret hx hb hr hlk dL_law_2070
    · rw [Int32.lt_iff_toInt_lt, d_L7 L (by omega), d_J j (by omega)]
      omega
  | succ f ih =>
    intro j A s t g h hf hj hA hcc hmm
    by_cases c9 : j + 7 ≤ L
    · have kk : Nxt l γ ad1 ad2 b j := by
        intro A2 s2 t2 g2 h2 o1 o2 o3
        have key := ih (j + 7) A2 s2 t2 g2 h2 (by omega) (by omega) o1 o2 o3
        obtain ⟨p, e, s0, m, below, meth, c, D, dA⟩ := γ
        obtain ⟨hx, hb, hr, hml, hown, hts, hnw, hK, hX, hbl, hlk, hL, hD1, hD2, hdis⟩ := hc
        intro H locs ls hP1 hP2 hS hl
        refine lv_iinc (k := 0) (v := nI (j + 7)) (lv' := llv ad1 ad2 b (nI (j + 7))) hx hb dL_law_2063 hl rfl (nI_add j 7) (by decide) rfl (fun ls hl => ?_)
        refine lv_goto (tgt := 18) hx hb dL_law_2066 (by decide) ?_
        exact key H locs ls hP1 hP2 hS hl
      have key := l_body (g := g) (h := h) hc (show j + 6 < L by omega) hA hcc hmm kk
      obtain ⟨p, e, s0, m, below, meth, c, D, dA⟩ := γ
      obtain ⟨hx, hb, hr, hml, hown, hts, hnw, hK, hX, hbl, hlk, hL, hD1, hD2, hdis⟩ := hc
      intro H locs ls hP1 hP2 hS hl
      refine lv_iload_n hx hb dL_law_18 rfl (lv_at hl 0 rfl) ?_
      refine lv_aload_n hx hb dL_law_19 rfl (lv_at hl 3 rfl) ?_
      refine va_slen hx hb hX hbl (Nat.not_le.mpr hbl) hS dL_law_20 ?_
      refine lv_bipush (v := nI 7) hx hb dL_law_21 (by decide) ?_
      refine lv_isub hx hb dL_law_23 ?_
      refine lv_icmp_gt (tgt := 2069) hx hb dL_law_24 (by decide) (fun hn => ?_) (fun _ => key H locs ls hP1 hP2 hS hl)
      exfalso
      have hn : nI L - nI 7 < nI j := hn
      rw [Int32.lt_iff_toInt_lt, d_L7 L (by omega), d_J j (by omega)] at hn
      omega
    · obtain ⟨p, e, s0, m, below, meth, c, D, dA⟩ := γ
      obtain ⟨hx, hb, hr, hml, hown, hts, hnw, hK, hX, hbl, hlk, hL, hD1, hD2, hdis⟩ := hc
      intro H locs ls hP1 hP2 hS hl
      refine lv_iload_n hx hb dL_law_18 rfl (lv_at hl 0 rfl) ?_
      refine lv_aload_n hx hb dL_law_19 rfl (lv_at hl 3 rfl) ?_
      refine va_slen hx hb hX hbl (Nat.not_le.mpr hbl) hS dL_law_20 ?_
      refine lv_bipush (v := nI 7) hx hb dL_law_21 (by decide) ?_
      refine lv_isub hx hb dL_law_23 ?_
      refine lv_icmp_gt (tgt := 2069) hx hb dL_law_24 (by decide) (fun _ => ?_) (fun hn => absurd (show nI L - nI 7 < nI j from ?_) hn)
      · refine lv_iconst (v := 1) hx hb dL_law_2069 (by decide) ?_
        refine va_forget (fun q hq => hS.2.2 q hq) ?_
        refine W.widen (k := 600000) (n := 7302250) (by omega) (by omega) ?_
        exact lw_ret hx hb hr hlk dL_law_2070
      · rw [Int32.lt_iff_toInt_lt, d_L7 L (by omega), d_J j (by omega)]
        omega
end LLOOP
