/-! HELPERS of the generated rows; the shapes of the two worlds -/
def shC : List Shp := [.inl 6, .inl 5, .inr (3, 6), .inr (0, 7), .inr (0, 7), .inl 1, .inr (0, 27), .inr (0, 27), .inl 1, .inr (0, 27), .inr (0, 27), .inl 1, .inr (0, 27), .inr (0, 27), .inl 1, .inr (0, 27), .inr (0, 27), .inl 1, .inr (0, 27), .inr (0, 27), .inl 1, .inr (0, 27), .inr (0, 27), .inr (4, 10), .inl 5, .inr (3, 6), .inr (0, 7), .inr (0, 7), .inl 1, .inr (0, 27), .inr (0, 27), .inl 1, .inr (0, 27), .inr (0, 27), .inl 1, .inr (0, 27), .inr (0, 27), .inl 1, .inr (0, 27), .inr (0, 27), .inl 1, .inr (0, 27), .inr (0, 27), .inl 1, .inr (0, 27), .inr (0, 27), .inl 5, .inr (3, 6), .inr (0, 7), .inr (0, 7), .inl 1, .inr (0, 27), .inr (0, 27), .inl 1, .inr (0, 27), .inr (0, 27), .inl 1, .inr (0, 27), .inr (0, 27), .inl 1, .inr (0, 27), .inr (0, 27), .inl 1, .inr (0, 27), .inr (0, 27), .inl 1, .inr (0, 27), .inr (0, 27), .inl 5, .inr (3, 6), .inr (0, 7), .inr (0, 7), .inl 1, .inr (0, 27), .inr (0, 27), .inl 1, .inr (0, 27), .inr (0, 27), .inl 1, .inr (0, 27), .inr (0, 27), .inl 1, .inr (0, 27), .inr (0, 27), .inl 1, .inr (0, 27), .inr (0, 27), .inl 1, .inr (0, 27), .inr (0, 27), .inl 5, .inr (3, 6), .inr (0, 7), .inr (0, 7), .inl 1, .inr (0, 27), .inr (0, 27), .inl 1, .inr (0, 27), .inr (0, 27), .inl 1, .inr (0, 27), .inr (0, 27), .inl 1, .inr (0, 27), .inr (0, 27), .inl 1, .inr (0, 27), .inr (0, 27), .inl 1, .inr (0, 27), .inr (0, 27), .inl 5, .inr (3, 6), .inr (0, 7), .inr (0, 7), .inl 1, .inr (0, 27), .inr (0, 27), .inl 1, .inr (0, 27), .inr (0, 27), .inl 1, .inr (0, 27), .inr (0, 27), .inl 1, .inr (0, 27), .inr (0, 27), .inl 1, .inr (0, 27), .inr (0, 27), .inl 1, .inr (0, 27), .inr (0, 27), .inl 5, .inr (3, 6), .inr (0, 7), .inr (0, 7), .inl 1, .inr (0, 27), .inr (0, 27), .inl 1, .inr (0, 27), .inr (0, 27), .inl 1, .inr (0, 27), .inr (0, 27), .inl 1, .inr (0, 27), .inr (0, 27), .inl 1, .inr (0, 27), .inr (0, 27), .inl 1, .inr (0, 27), .inr (0, 27), .inl 5, .inr (3, 6), .inr (0, 7), .inr (0, 7), .inl 1, .inr (0, 27), .inr (0, 27), .inl 1, .inr (0, 27), .inr (0, 27), .inl 1, .inr (0, 27), .inr (0, 27), .inl 1, .inr (0, 27), .inr (0, 27), .inl 1, .inr (0, 27), .inr (0, 27), .inl 1, .inr (0, 27), .inr (0, 27), .inl 5, .inr (3, 6), .inr (0, 7), .inr (0, 7), .inl 1, .inr (0, 27), .inr (0, 27), .inl 1, .inr (0, 27), .inr (0, 27), .inl 1, .inr (0, 27), .inr (0, 27), .inl 1, .inr (0, 27), .inr (0, 27), .inl 1, .inr (0, 27), .inr (0, 27), .inl 1, .inr (0, 27), .inr (0, 27), .inl 5, .inr (3, 6), .inr (0, 7), .inr (0, 7), .inl 1, .inr (0, 27), .inr (0, 27), .inl 1, .inr (0, 27), .inr (0, 27), .inl 1, .inr (0, 27), .inr (0, 27), .inl 1, .inr (0, 27), .inr (0, 27), .inl 1, .inr (0, 27), .inr (0, 27), .inl 1, .inr (0, 27), .inr (0, 27), .inl 5, .inr (3, 6), .inr (0, 7), .inr (0, 7), .inl 1, .inr (0, 27), .inr (0, 27), .inl 1, .inr (0, 27), .inr (0, 27), .inl 1, .inr (0, 27), .inr (0, 27), .inl 1, .inr (0, 27), .inr (0, 27), .inl 1, .inr (0, 27), .inr (0, 27), .inl 1, .inr (0, 27), .inr (0, 27), .inr (0, 160), .inl 2, .inl 1, .inr (0, 27), .inr (0, 27), .inl 1, .inr (0, 27), .inr (0, 27), .inl 4, .inl 1, .inr (0, 27), .inr (0, 27), .inr (0, 27), .inr (0, 27), .inl 3, .inr (0, 8), .inr (0, 8), .inr (0, 8), .inr (0, 7), .inl 0, .inr (0, 2000), .inr (0, 2000), .inr (0, 2000), .inr (0, 27), .inr (0, 27), .inr (0, 90)]
def shM : List Shp := [.inl 7, .inr (0, 8), .inr (0, 56), .inr (0, 56), .inr (0, 7), .inr (0, 7), .inr (1, 160), .inr (0, 7), .inr (0, 7), .inr (0, 7), .inr (0, 7), .inr (2, 128), .inr (0, 2001), .inr (0, 2000), .inr (0, 2000), .inr (0, 27), .inr (2, 27), .inr (0, 7), .inr (0, 7), .inr (0, 60), .inr (0, 420), .inr (0, 420), .inr (0, 70), .inr (0, 70)]
theorem nl_X5_24 : Cond.methodLinkNest RX5 24 yX1_init "NetMaps" ∈ nestW := List.mem_of_getElem? (i := 0) rfl
theorem nl_X6_26 : Cond.methodLinkNest RX6 26 yX2_init "NetMaps" ∈ nestW := List.mem_of_getElem? (i := 1) rfl
theorem nl_X2_11 : Cond.methodLinkNest RX2 11 yX1_init "NetMaps" ∈ nestW := List.mem_of_getElem? (i := 2) rfl
theorem nl_X6_33 : Cond.methodLinkNest RX6 33 yX1_init "NetMaps" ∈ nestW := List.mem_of_getElem? (i := 3) rfl
theorem nl_X6_40 : Cond.methodLinkNest RX6 40 yX4_init "NetMaps" ∈ nestW := List.mem_of_getElem? (i := 4) rfl
theorem nl_X4_11 : Cond.methodLinkNest RX4 11 yX1_init "NetMaps" ∈ nestW := List.mem_of_getElem? (i := 5) rfl
theorem nl_X6_47 : Cond.methodLinkNest RX6 47 yX3_init "NetMaps" ∈ nestW := List.mem_of_getElem? (i := 6) rfl
theorem nl_X6_54 : Cond.methodLinkNest RX6 54 yX0_init "NetMaps" ∈ nestW := List.mem_of_getElem? (i := 7) rfl
theorem nl_X1_26 : Cond.methodLinkNest RX1 26 yX6_has "NetMaps" ∈ nestW := List.mem_of_getElem? (i := 8) rfl
theorem nl_X4_70 : Cond.methodLinkNest RX4 70 yX6_has "NetMaps" ∈ nestW := List.mem_of_getElem? (i := 9) rfl
theorem nl_X3_59 : Cond.methodLinkNest RX3 59 yX6_has "NetMaps" ∈ nestW := List.mem_of_getElem? (i := 10) rfl
theorem nl_X0_51 : Cond.methodLinkNest RX0 51 yX6_has "NetMaps" ∈ nestW := List.mem_of_getElem? (i := 11) rfl
def imax (x y : Int32) : Int32 := if x < y then y else x
def imin (x y : Int32) : Int32 := if y < x then y else x
def KI (K : Option Value → Hp → Prop) : Int32 → Hp → Prop := fun r s => K (some (.int r)) s
def KU (K : Option Value → Hp → Prop) : Unit → Hp → Prop := fun _ s => K none s
def KA (ad : Nat → Nat) (K : Option Value → Hp → Prop) : Nat → Hp → Prop := fun r s => K (some (.ref (ad r))) s
def zz (x : Int32) : Option Unit := if x = 0 ∨ x = 1 then some () else none
theorem zz_of {x : Int32} {u : Unit} (h : zz x = some u) : x = 0 ∨ x = 1 := by
  unfold zz at h
  split at h
  · assumption
  · cases h
theorem wp_bb {α β : Type} {x : Option (α × Hp)} {g : α → Hp → Option (β × Hp)} {K : β → Hp → Prop} (h : wpO (bO x g) K) : wpO x (fun a s => wpO (g a s) K) := by
  obtain ⟨a, s, h1, h2⟩ := wp_b h
  exact ⟨a, s, h1, h2⟩
theorem wp_sl {α β γ : Type} {f : α → Option (γ × Hp)} {g : β → Option (γ × Hp)} {y : α} {K : γ → Hp → Prop} (h : wpO (Sum.elim f g (Sum.inl y)) K) : wpO (f y) K := h
theorem wp_sr {α β γ : Type} {f : α → Option (γ × Hp)} {g : β → Option (γ × Hp)} {y : β} {K : γ → Hp → Prop} (h : wpO (Sum.elim f g (Sum.inr y)) K) : wpO (g y) K := h
theorem sw_out {x : Int32} (lo n : Nat) (h : ∀ i : Nat, i < n → ¬ x = Int32.ofInt ((lo : Int) + i)) : x.toInt < (lo : Int) ∨ ((lo : Int) + n - 1) < x.toInt := by
  by_cases h1 : x.toInt < (lo : Int)
  · exact Or.inl h1
  by_cases h2 : ((lo : Int) + n - 1) < x.toInt
  · exact Or.inr h2
  exfalso
  refine h (x.toInt - lo).toNat (by omega) ?_
  have e : (lo : Int) + ((x.toInt - lo).toNat : Int) = x.toInt := by omega
  rw [e, Int32.ofInt_toInt]
theorem lk_out2 {dflt o0 o1 : Int} {x : Int32} (h0 : ¬ x = 0) (h1 : ¬ x = 1) : Op.lookupswitch.offset [(0, o0), (1, o1)] dflt x.toInt = dflt := by
  have e0 : x.toInt ≠ 0 := fun e => h0 (Int32.toInt_inj.mp (by rw [e]; rfl))
  have e1 : x.toInt ≠ 1 := fun e => h1 (Int32.toInt_inj.mp (by rw [e]; rfl))
  simp [Op.lookupswitch.offset, e0, e1, Ne.symm e0, Ne.symm e1]
section ROWS
variable {l : Launch} {γ : Gm} {d nL : Nat} {ad : Nat → Nat} {sh : List Shp} {own : String} {cc : ByteArray} {ret : Option FieldType} {K : Option Value → Hp → Prop} {pc : Nat} {lv lv' : List (Nat × Value)} {st : List Value} {σ : Hp}
theorem r_istore_nE (hc : Cx l γ d nL ad sh own cc ret K) {n : Fin 4} {i : Nat} {x z : Int32} (hz : z = x) (hi : (n : Nat) = i) (hn : i < nL) (hv : (i, Value.int z) :: lv.filter (fun q => !(q.1 == i) && !(q.1 + 1 == i && q.2.category == 2)) = lv') (hd : decode cc pc = .ok (.istore_n n, 1)) (k : WW l γ d nL ad sh (pc + 1) lv' st σ) : WW l γ d nL ad sh pc lv (.int x :: st) σ := by
  subst hz
  exact r_istore_n hc hi hn hv hd k
theorem r_istoreE (hc : Cx l γ d nL ad sh own cc ret K) {i : Nat} {x z : Int32} (hz : z = x) (hn : i < nL) (hv : (i, Value.int z) :: lv.filter (fun q => !(q.1 == i) && !(q.1 + 1 == i && q.2.category == 2)) = lv') (hd : decode cc pc = .ok (.istore i, 2)) (k : WW l γ d nL ad sh (pc + 2) lv' st σ) : WW l γ d nL ad sh pc lv (.int x :: st) σ := by
  subst hz
  exact r_istore hc hn hv hd k
theorem r_iincE (hc : Cx l γ d nL ad sh own cc ret K) {i j : Nat} {n : Int} {x w z : Int32} (hj : lv[j]? = some (i, .int x)) (hw : Int32.ofInt n = w) (hz : z = x + w) (hn : i < nL) (hv : (i, Value.int z) :: lv.filter (fun q => !(q.1 == i) && !(q.1 + 1 == i && q.2.category == 2)) = lv') (hd : decode cc pc = .ok (.iinc i n, 3)) (k : WW l γ d nL ad sh (pc + 3) lv' st σ) : WW l γ d nL ad sh pc lv st σ := by
  subst hz
  exact r_iinc hc hj (by rw [hw]) hn hv hd k
theorem r_mmax (hc : Cx l γ d nL ad sh own cc ret K) {idx : Nat} {x y : Int32} (hl : Cond.methodLink own idx yJ9_max_7cf53 ∈ tblG) (hd1 : 1 ≤ d) (hW : (st.map fun v => v.category).sum ≤ 8) (hdg : decode cc pc = .ok (.invokestatic idx, 3)) (k : WW l γ d nL ad sh (pc + 3) lv (.int (imax x y) :: st) σ) : WW l γ d nL ad sh pc lv (.int y :: .int x :: st) σ := by
  obtain ⟨p, e, s, m, args, below, meth, c, D, dA, A, Q⟩ := γ
  obtain ⟨hx, hb, hml, hown, hts, hnw, hK, hD, hA, hlk, hr, Qc, hQ, hret⟩ := hc
  obtain ⟨k1, k3, k4, -⟩ := ms_J9_max_7cf53
  intro H locs ls hP hS hl2
  refine va_mmax hx hb (hml.trans hl2.1.symm) hown (hts _ hl) (hts _ k1) (hts _ k3) (hts _ k4) hd1 ?_ (Nat.zero_le _) (Nat.zero_le _) hdg (k H locs ls hP hS hl2)
  show _ + 13 ≤ 48 * d
  omega
theorem r_mmin (hc : Cx l γ d nL ad sh own cc ret K) {idx : Nat} {x y : Int32} (hl : Cond.methodLink own idx yJ9_min_7cf53 ∈ tblG) (hd1 : 1 ≤ d) (hW : (st.map fun v => v.category).sum ≤ 8) (hdg : decode cc pc = .ok (.invokestatic idx, 3)) (k : WW l γ d nL ad sh (pc + 3) lv (.int (imin x y) :: st) σ) : WW l γ d nL ad sh pc lv (.int y :: .int x :: st) σ := by
  obtain ⟨p, e, s, m, args, below, meth, c, D, dA, A, Q⟩ := γ
  obtain ⟨hx, hb, hml, hown, hts, hnw, hK, hD, hA, hlk, hr, Qc, hQ, hret⟩ := hc
  obtain ⟨k1, k3, k4, -⟩ := ms_J9_min_7cf53
  intro H locs ls hP hS hl2
  refine va_mmin hx hb (hml.trans hl2.1.symm) hown (hts _ hl) (hts _ k1) (hts _ k3) (hts _ k4) hd1 ?_ (Nat.zero_le _) (Nat.zero_le _) hdg (k H locs ls hP hS hl2)
  show _ + 13 ≤ 48 * d
  omega
end ROWS
