/-! what is born stays within -/
section CLS
variable {sh : List Shp} {σ : Hp} {k0 L : Nat}
theorem states_cl {k : Nat} (h : sh.length = L) (hk : k < L) (hc : Cl sh σ) : ∀ i, Cl (statesS sh i) (statesH L k σ i) := by
  intro i
  induction i with
  | zero => exact hc
  | succ i ih =>
    have h1 := states_len h i
    have h2 : (statesS sh (i + 1)).length = L + 22 * (i + 1) := states_len h (i + 1)
    exact Cl_R (state_cl (len1 h1) (by omega) (Cl_app ih _)) (by rw [h2]; omega) (by rw [h2]; omega)
theorem lt_len {n k : Nat} (h : sh.length = n) (hk : k < n) : k < sh.length := by rw [h]; exact hk
theorem nm_cl (hL : sh.length = L) (hk0 : k0 < L) (hc : Cl sh σ) : Cl (nmS sh) (nmH L k0 σ) := by
  have hl1 := len1 (z := .inl 5) hL
  have hl4 := (state_len hl1).trans (show L + 1 + 21 = L + 22 from Nat.add_assoc L 1 21)
  have hl7 := (len1 (z := .inr (4, 10)) hl4).trans (show L + 22 + 1 = L + 23 from Nat.add_assoc L 22 1)
  have hl9 := (states_len hl7 10).trans (show L + 23 + 22 * 10 = L + 243 from Nat.add_assoc L 23 220)
  have hl11 := (len1 (z := .inr (0, 160)) hl9).trans (show L + 243 + 1 = L + 244 from Nat.add_assoc L 243 1)
  have hl13 := (len1 (z := .inl 2) hl11).trans (show L + 244 + 1 = L + 245 from Nat.add_assoc L 244 1)
  have hl16 := (read_len hl13).trans (show L + 245 + 3 = L + 248 from Nat.add_assoc L 245 3)
  have hl18 := (len1 (z := .inl 1) hl16).trans (show L + 248 + 1 = L + 249 from Nat.add_assoc L 248 1)
  have hl21 := (net_len hl18).trans (show L + 249 + 2 = L + 251 from Nat.add_assoc L 249 2)
  have hl23 := (len1 (z := .inl 4) hl21).trans (show L + 251 + 1 = L + 252 from Nat.add_assoc L 251 1)
  have hl26 := (seek_len hl23).trans (show L + 252 + 5 = L + 257 from Nat.add_assoc L 252 5)
  have hl28 := (len1 (z := .inl 3) hl26).trans (show L + 257 + 1 = L + 258 from Nat.add_assoc L 257 1)
  have hl31 := (scale_len hl28).trans (show L + 258 + 4 = L + 262 from Nat.add_assoc L 258 4)
  have hl33 := (len1 (z := .inl 0) hl31).trans (show L + 262 + 1 = L + 263 from Nat.add_assoc L 262 1)
  have hl36 := (crowd_len hl33).trans (show L + 263 + 3 = L + 266 from Nat.add_assoc L 263 3)
  have hl38 := (len1 (z := .inr (0, 27)) hl36).trans (show L + 266 + 1 = L + 267 from Nat.add_assoc L 266 1)
  have hl40 := (len1 (z := .inr (0, 27)) hl38).trans (show L + 267 + 1 = L + 268 from Nat.add_assoc L 267 1)
  have hl42 := (len1 (z := .inr (0, 90)) hl40).trans (show L + 268 + 1 = L + 269 from Nat.add_assoc L 268 1)
  have c1 := state_cl (k0 := L) (L := L + 1) hl1 (Nat.lt_succ_self _) (Cl_app hc (.inl 5))
  have c2 := Cl_R (k := k0) (j := 0) (x := L) c1 (lt_len hl4 (Nat.lt_of_lt_of_le hk0 (Nat.le_add_right L _))) (lt_len hl4 (Nat.lt_add_of_pos_right (by decide)))
  have c3 := Cl_R (k := k0) (j := 1) (x := L + 22) (Cl_app c2 (.inr (4, 10))) (lt_len hl7 (Nat.lt_of_lt_of_le hk0 (Nat.le_add_right L _))) (lt_len hl7 (Nat.add_lt_add_left (by decide) L))
  have c4 := states_cl (k := L + 22) (L := L + 23) hl7 (Nat.lt_succ_self _) c3 10
  have c5 := Cl_R (k := k0) (j := 3) (x := L + 243) (Cl_app c4 (.inr (0, 160))) (lt_len hl11 (Nat.lt_of_lt_of_le hk0 (Nat.le_add_right L _))) (lt_len hl11 (Nat.add_lt_add_left (by decide) L))
  have c6 := read_cl (k0 := L + 244) (L := L + 245) hl13 (Nat.lt_succ_self _) (Cl_app c5 (.inl 2))
  have c7 := Cl_R (k := k0) (j := 5) (x := L + 244) c6 (lt_len hl16 (Nat.lt_of_lt_of_le hk0 (Nat.le_add_right L _))) (lt_len hl16 (Nat.add_lt_add_left (by decide) L))
  have c8 := net_cl (k0 := L + 248) (L := L + 249) hl18 (Nat.lt_succ_self _) (Cl_app c7 (.inl 1))
  have c9 := Cl_R (k := k0) (j := 6) (x := L + 248) c8 (lt_len hl21 (Nat.lt_of_lt_of_le hk0 (Nat.le_add_right L _))) (lt_len hl21 (Nat.add_lt_add_left (by decide) L))
  have c10 := seek_cl (k0 := L + 251) (L := L + 252) hl23 (Nat.lt_succ_self _) (Cl_app c9 (.inl 4))
  have c11 := Cl_R (k := k0) (j := 7) (x := L + 251) c10 (lt_len hl26 (Nat.lt_of_lt_of_le hk0 (Nat.le_add_right L _))) (lt_len hl26 (Nat.add_lt_add_left (by decide) L))
  have c12 := scale_cl (k0 := L + 257) (L := L + 258) hl28 (Nat.lt_succ_self _) (Cl_app c11 (.inl 3))
  have c13 := Cl_R (k := k0) (j := 8) (x := L + 257) c12 (lt_len hl31 (Nat.lt_of_lt_of_le hk0 (Nat.le_add_right L _))) (lt_len hl31 (Nat.add_lt_add_left (by decide) L))
  have c14 := crowd_cl (k0 := L + 262) (L := L + 263) hl33 (Nat.lt_succ_self _) (Cl_app c13 (.inl 0))
  have c15 := Cl_R (k := k0) (j := 9) (x := L + 262) c14 (lt_len hl36 (Nat.lt_of_lt_of_le hk0 (Nat.le_add_right L _))) (lt_len hl36 (Nat.add_lt_add_left (by decide) L))
  have c16 := Cl_R (k := k0) (j := 10) (x := L + 266) (Cl_app c15 (.inr (0, 27))) (lt_len hl38 (Nat.lt_of_lt_of_le hk0 (Nat.le_add_right L _))) (lt_len hl38 (Nat.add_lt_add_left (by decide) L))
  have c17 := Cl_R (k := k0) (j := 11) (x := L + 267) (Cl_app c16 (.inr (0, 27))) (lt_len hl40 (Nat.lt_of_lt_of_le hk0 (Nat.le_add_right L _))) (lt_len hl40 (Nat.add_lt_add_left (by decide) L))
  have c18 := Cl_R (k := k0) (j := 12) (x := L + 268) (Cl_app c17 (.inr (0, 90))) (lt_len hl42 (Nat.lt_of_lt_of_le hk0 (Nat.le_add_right L _))) (lt_len hl42 (Nat.add_lt_add_left (by decide) L))
  exact c18
theorem md_cl (hL : sh.length = L) (hk0 : k0 < L) (hc : Cl sh σ) : Cl (mdA sh) (mdH L k0 σ) := by
  have h := md_len hL
  have c0 : Cl (mdA sh) σ := (Cl_app (Cl_app (Cl_app (Cl_app (Cl_app (Cl_app (Cl_app (Cl_app (Cl_app (Cl_app (Cl_app (Cl_app (Cl_app (Cl_app (Cl_app (Cl_app (Cl_app (Cl_app (Cl_app (Cl_app (Cl_app (Cl_app (Cl_app hc _) _) _) _) _) _) _) _) _) _) _) _) _) _) _) _) _) _) _) _) _) _) _)
  have c1 := Cl_R (k := k0) (j := 0) (x := L) c0 (by rw [h]; omega) (by rw [h]; omega)
  have c2 := Cl_R (k := k0) (j := 1) (x := L + 1) c1 (by rw [h]; omega) (by rw [h]; omega)
  have c3 := Cl_R (k := k0) (j := 2) (x := L + 2) c2 (by rw [h]; omega) (by rw [h]; omega)
  have c4 := Cl_R (k := k0) (j := 3) (x := L + 3) c3 (by rw [h]; omega) (by rw [h]; omega)
  have c5 := Cl_R (k := k0) (j := 4) (x := L + 4) c4 (by rw [h]; omega) (by rw [h]; omega)
  have c6 := Cl_R (k := k0) (j := 5) (x := L + 5) c5 (by rw [h]; omega) (by rw [h]; omega)
  have c7 := Cl_R (k := k0) (j := 9) (x := L + 6) c6 (by rw [h]; omega) (by rw [h]; omega)
  have c8 := Cl_R (k := k0) (j := 10) (x := L + 7) c7 (by rw [h]; omega) (by rw [h]; omega)
  have c9 := Cl_R (k := k0) (j := 16) (x := L + 8) c8 (by rw [h]; omega) (by rw [h]; omega)
  have c10 := Cl_R (k := k0) (j := 17) (x := L + 9) c9 (by rw [h]; omega) (by rw [h]; omega)
  have c11 := Cl_R (k := k0) (j := 18) (x := L + 10) c10 (by rw [h]; omega) (by rw [h]; omega)
  have c12 := Cl_R (k := k0) (j := 21) (x := L + 11) c11 (by rw [h]; omega) (by rw [h]; omega)
  have c13 := Cl_R (k := k0) (j := 22) (x := L + 12) c12 (by rw [h]; omega) (by rw [h]; omega)
  have c14 := Cl_R (k := k0) (j := 23) (x := L + 13) c13 (by rw [h]; omega) (by rw [h]; omega)
  have c15 := Cl_R (k := k0) (j := 25) (x := L + 14) c14 (by rw [h]; omega) (by rw [h]; omega)
  have c16 := Cl_R (k := k0) (j := 26) (x := L + 15) c15 (by rw [h]; omega) (by rw [h]; omega)
  have c17 := Cl_R (k := k0) (j := 29) (x := L + 16) c16 (by rw [h]; omega) (by rw [h]; omega)
  have c18 := Cl_R (k := k0) (j := 30) (x := L + 17) c17 (by rw [h]; omega) (by rw [h]; omega)
  have c19 := Cl_R (k := k0) (j := 35) (x := L + 18) c18 (by rw [h]; omega) (by rw [h]; omega)
  have c20 := Cl_R (k := k0) (j := 36) (x := L + 19) c19 (by rw [h]; omega) (by rw [h]; omega)
  have c21 := Cl_R (k := k0) (j := 37) (x := L + 20) c20 (by rw [h]; omega) (by rw [h]; omega)
  have c22 := Cl_R (k := k0) (j := 38) (x := L + 21) c21 (by rw [h]; omega) (by rw [h]; omega)
  have c23 := Cl_R (k := k0) (j := 39) (x := L + 22) c22 (by rw [h]; omega) (by rw [h]; omega)
  exact list_cl (by rw [h]; omega) c23 7
end CLS
