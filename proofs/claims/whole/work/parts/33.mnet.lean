/-! the reference's networks: what its methods answer -/
section NETM
variable {n d : Nat} {s : Nat → Nat → Int32} {E : Nat → Nat → Bool}
theorem m_in (x l u : Int32) (σ : Hp) : f_X7_in x l u σ = some (bI (decide (l ≤ x) && decide (x ≤ u)), σ) := by
  unfold f_X7_in f_X7_in_b14 f_X7_in_b15
  by_cases h1 : x < l
  · rw [if_pos h1, decide_eq_false (Int32.not_le.mpr h1)]; rfl
  · rw [if_neg h1, decide_eq_true (Int32.not_lt.mp h1)]
    by_cases h2 : u < x
    · rw [if_pos h2, decide_eq_false (Int32.not_le.mpr h2)]; rfl
    · rw [if_neg h2, decide_eq_true (Int32.not_lt.mp h2)]; rfl
theorem m_has (x : Int32) {a : Nat} (ha : a < 32) (σ : Hp) : f_X7_has x (nI a) σ = some (bI (bt x a), σ) := by
  unfold f_X7_has
  rw [b_bI x ha]
  cases bt x a <;> rfl
def FrM (d : Nat) (s s' : Nat → Nat → Int32) : Prop := Fr [1, 2, 3] s s' ∧ (∀ i, i ≠ d → s' 1 i = s 1 i) ∧ (∀ i, (i < 7 * d ∨ 7 * d + 7 ≤ i) → s' 2 i = s 2 i) ∧ (∀ i, (i < 7 * d ∨ 7 * d + 7 ≤ i) → s' 3 i = s 3 i)
theorem FrM_r (d : Nat) (s : Nat → Nat → Int32) : FrM d s s := ⟨Fr_r _ _, fun _ _ => rfl, fun _ _ => rfl, fun _ _ => rfl⟩
theorem FrM_t {d : Nat} {s t u : Nat → Nat → Int32} (h1 : FrM d s t) (h2 : FrM d t u) : FrM d s u := ⟨Fr_t h1.1 h2.1, fun i hi => (h2.2.1 i hi).trans (h1.2.1 i hi), fun i hi => (h2.2.2.1 i hi).trans (h1.2.2.1 i hi), fun i hi => (h2.2.2.2 i hi).trans (h1.2.2.2 i hi)⟩
theorem NetM_fr {e : Nat} {s' : Nat → Nat → Int32} (h : NetM s e n E) (f : FrM d s s') (hn : n ≤ 7) (he : e ≠ d) : NetM s' e n E := by
  obtain ⟨h0, h1, h2⟩ := h
  refine ⟨(f.2.1 e he).trans h0, fun a ha => (f.2.2.1 _ ?_).trans (h1 a ha), fun a ha => (f.2.2.2 _ ?_).trans (h2 a ha)⟩ <;> omega
theorem FrM_1 {x : Int32} : FrM d s (st2 s 1 d x) := ⟨Fr_st (Fr_r _ _) (by simp), fun i hi => st2_n _ _ hi, fun i _ => by rw [st2_o _ _ (by omega)], fun i _ => by rw [st2_o _ _ (by omega)]⟩
theorem FrM_2 {i : Nat} {x : Int32} (h : 7 * d ≤ i) (h2 : i < 7 * d + 7) : FrM d s (st2 s 2 i x) := ⟨Fr_st (Fr_r _ _) (by simp), fun i hi => by rw [st2_o _ _ (by omega)], fun j hj => st2_n _ _ (by omega), fun i _ => by rw [st2_o _ _ (by omega)]⟩
theorem FrM_3 {i : Nat} {x : Int32} (h : 7 * d ≤ i) (h2 : i < 7 * d + 7) : FrM d s (st2 s 3 i x) := ⟨Fr_st (Fr_r _ _) (by simp), fun i hi => by rw [st2_o _ _ (by omega)], fun j hj => by rw [st2_o _ _ (by omega)], fun j hj => st2_n _ _ (by omega)⟩
theorem m_isLine (hN : NetM s d n E) (hd : d ≤ 7) (hn : n ≤ 7) {a b : Nat} (ha : a < n) (hb : b < 32) : f_X7_isLine 0 (nI d) (nI a) (nI b) (s, rM) = some (bI (E a b), (s, rM)) := by
  obtain ⟨h0, h1, h2⟩ := hN
  simp (disch := omega) only [i10, i01, gO_s, bO_s, lt_e, Sum.elim_inl, Sum.elim_inr, nI_1, nI_add, nle, nlt, neq, neq0, neq1, nlt0, nle0, n0le, n0lt, nlt1, n1le, n7m, pk_mul, l2, l3, l4, l5, l6, l7, l8, l9, l10, l13, l16, l20, l26, l27, l48, l57, l58, l60, l62, l70, l80, l90, l128, l140, l160, l420, l2000, l2001, bI_0, bI_1, bI_zz, bI_t, bI_f, zz_0, zz_1, ↓reduceIte, if_true, if_false, decide_true, decide_false, Bool.false_and, Bool.and_false, Bool.true_and, Bool.and_true, Bool.not_true, Bool.not_false, reduceCtorEq, Nat.reduceLeDiff, Nat.reduceEqDiff, Nat.reduceLT, Bool.true_eq_false, Bool.false_eq_true, eq_self, f_X7_isLine, mI, mp, mk, mR0, mR1, mR2, mR3, mR4, mR5, mR9, mR10, mR16, mR17, mR18, mR21, mR22, mR23, mR25, mR26, mR29, mR30, mR35, mR36, mR37, mR38, mR39, ml1, ml2, ml3, ml4, ml5, ml6, ml7, ml8, ml9, ml10, ml11, ml12, ml13, ml14, ml15, ml16, ml17, ml18, ml19, ml20, ml21, ml22, ml23, ms1, ms2, ms3, ms4, ms5, ms6, ms7, ms8, ms9, ms10, ms11, ms12, ms13, ms14, ms15, ms16, ms17, ms18, ms19, ms20, ms21, ms22, ms23, h1, m_has, b_T]
theorem m_isEmpty (hN : NetM s d n E) (hd : d ≤ 7) (hn : n ≤ 7) : f_X7_isEmpty 0 (nI d) (s, rM) = some (bI (decide (n = 0)), (s, rM)) := by
  obtain ⟨h0, h1, h2⟩ := hN
  by_cases e : n = 0
  · simp (disch := omega) only [i10, i01, gO_s, bO_s, lt_e, Sum.elim_inl, Sum.elim_inr, nI_1, nI_add, nle, nlt, neq, neq0, neq1, nlt0, nle0, n0le, n0lt, nlt1, n1le, n7m, pk_mul, l2, l3, l4, l5, l6, l7, l8, l9, l10, l13, l16, l20, l26, l27, l48, l57, l58, l60, l62, l70, l80, l90, l128, l140, l160, l420, l2000, l2001, bI_0, bI_1, bI_zz, bI_t, bI_f, zz_0, zz_1, ↓reduceIte, if_true, if_false, decide_true, decide_false, Bool.false_and, Bool.and_false, Bool.true_and, Bool.and_true, Bool.not_true, Bool.not_false, reduceCtorEq, Nat.reduceLeDiff, Nat.reduceEqDiff, Nat.reduceLT, Bool.true_eq_false, Bool.false_eq_true, eq_self, f_X7_isEmpty, f_X7_isEmpty_b14, mI, mp, mk, mR0, mR1, mR2, mR3, mR4, mR5, mR9, mR10, mR16, mR17, mR18, mR21, mR22, mR23, mR25, mR26, mR29, mR30, mR35, mR36, mR37, mR38, mR39, ml1, ml2, ml3, ml4, ml5, ml6, ml7, ml8, ml9, ml10, ml11, ml12, ml13, ml14, ml15, ml16, ml17, ml18, ml19, ml20, ml21, ml22, ml23, ms1, ms2, ms3, ms4, ms5, ms6, ms7, ms8, ms9, ms10, ms11, ms12, ms13, ms14, ms15, ms16, ms17, ms18, ms19, ms20, ms21, ms22, ms23, h0, e, decide_eq_true e]
  · simp (disch := omega) only [i10, i01, gO_s, bO_s, lt_e, Sum.elim_inl, Sum.elim_inr, nI_1, nI_add, nle, nlt, neq, neq0, neq1, nlt0, nle0, n0le, n0lt, nlt1, n1le, n7m, pk_mul, l2, l3, l4, l5, l6, l7, l8, l9, l10, l13, l16, l20, l26, l27, l48, l57, l58, l60, l62, l70, l80, l90, l128, l140, l160, l420, l2000, l2001, bI_0, bI_1, bI_zz, bI_t, bI_f, zz_0, zz_1, ↓reduceIte, if_true, if_false, decide_true, decide_false, Bool.false_and, Bool.and_false, Bool.true_and, Bool.and_true, Bool.not_true, Bool.not_false, reduceCtorEq, Nat.reduceLeDiff, Nat.reduceEqDiff, Nat.reduceLT, Bool.true_eq_false, Bool.false_eq_true, eq_self, f_X7_isEmpty, f_X7_isEmpty_b14, mI, mp, mk, mR0, mR1, mR2, mR3, mR4, mR5, mR9, mR10, mR16, mR17, mR18, mR21, mR22, mR23, mR25, mR26, mR29, mR30, mR35, mR36, mR37, mR38, mR39, ml1, ml2, ml3, ml4, ml5, ml6, ml7, ml8, ml9, ml10, ml11, ml12, ml13, ml14, ml15, ml16, ml17, ml18, ml19, ml20, ml21, ml22, ml23, ms1, ms2, ms3, ms4, ms5, ms6, ms7, ms8, ms9, ms10, ms11, ms12, ms13, ms14, ms15, ms16, ms17, ms18, ms19, ms20, ms21, ms22, ms23, h0, e, decide_eq_false e]
theorem m_begins (hd : d ≤ 7) (n : Nat) : ∃ s', f_X7_begins 0 (nI d) (nI n) (s, rM) = some ((), (s', rM)) ∧ (n ≤ 7 → NetM s' d n E0) ∧ FrM d s s' := by
  have key := wh_up (f := f_X7_begins_L9 0 (nI d)) 7 (fun k v σ => v = nI k ∧ ∃ s', σ = (s', rM) ∧ FrM d s s' ∧ s' 1 d = nI n ∧ (∀ a, a < k → s' 2 (7 * d + a) = 0) ∧ (∀ a, a < k → s' 3 (7 * d + a) = 0)) (Q := fun _ σ => ∃ s', σ = (s', rM) ∧ (n ≤ 7 → NetM s' d n E0) ∧ FrM d s s') (by
    rintro k v σ hk ⟨rfl, s1, rfl, hf, h0, h1, h2⟩
    have h3 : ¬ 7 ≤ k := by omega
    refine ⟨.inl (nI (k + 1)), (st2 (st2 s1 2 (7 * d + k) 0) 3 (7 * d + k) 0, rM), ?_, rfl, _, rfl, ?_, ?_, ?_, ?_⟩
    · simp (disch := omega) only [i10, i01, gO_s, bO_s, lt_e, Sum.elim_inl, Sum.elim_inr, nI_1, nI_add, nle, nlt, neq, neq0, neq1, nlt0, nle0, n0le, n0lt, nlt1, n1le, n7m, pk_mul, l2, l3, l4, l5, l6, l7, l8, l9, l10, l13, l16, l20, l26, l27, l48, l57, l58, l60, l62, l70, l80, l90, l128, l140, l160, l420, l2000, l2001, bI_0, bI_1, bI_zz, bI_t, bI_f, zz_0, zz_1, ↓reduceIte, if_true, if_false, decide_true, decide_false, Bool.false_and, Bool.and_false, Bool.true_and, Bool.and_true, Bool.not_true, Bool.not_false, reduceCtorEq, Nat.reduceLeDiff, Nat.reduceEqDiff, Nat.reduceLT, Bool.true_eq_false, Bool.false_eq_true, eq_self, f_X7_begins_L9, mI, mp, mk, mR0, mR1, mR2, mR3, mR4, mR5, mR9, mR10, mR16, mR17, mR18, mR21, mR22, mR23, mR25, mR26, mR29, mR30, mR35, mR36, mR37, mR38, mR39, ml1, ml2, ml3, ml4, ml5, ml6, ml7, ml8, ml9, ml10, ml11, ml12, ml13, ml14, ml15, ml16, ml17, ml18, ml19, ml20, ml21, ml22, ml23, ms1, ms2, ms3, ms4, ms5, ms6, ms7, ms8, ms9, ms10, ms11, ms12, ms13, ms14, ms15, ms16, ms17, ms18, ms19, ms20, ms21, ms22, ms23, h3]
    · exact FrM_t hf (FrM_t (FrM_2 (by omega) (by omega)) (FrM_3 (by omega) (by omega)))
    · rw [st2_o _ _ (by omega), st2_o _ _ (by omega)]; exact h0
    · intro a ha
      rw [st2_o _ _ (by omega), st2_k]
      split
      · rfl
      · exact h1 a (by omega)
    · intro a ha
      rw [st2_k]
      split
      · rfl
      · rw [st2_o _ _ (by omega)]; exact h2 a (by omega)) (by
    rintro v σ ⟨rfl, s1, rfl, hf, h0, h1, h2⟩
    refine ⟨(), (s1, rM), ?_, s1, rfl, fun hn => ⟨h0, fun a ha => (h1 a (by omega)).trans (rT_0 a).symm, fun a ha => (h2 a (by omega)).trans (rF_0 a).symm⟩, hf⟩
    simp (disch := omega) only [i10, i01, gO_s, bO_s, lt_e, Sum.elim_inl, Sum.elim_inr, nI_1, nI_add, nle, nlt, neq, neq0, neq1, nlt0, nle0, n0le, n0lt, nlt1, n1le, n7m, pk_mul, l2, l3, l4, l5, l6, l7, l8, l9, l10, l13, l16, l20, l26, l27, l48, l57, l58, l60, l62, l70, l80, l90, l128, l140, l160, l420, l2000, l2001, bI_0, bI_1, bI_zz, bI_t, bI_f, zz_0, zz_1, ↓reduceIte, if_true, if_false, decide_true, decide_false, Bool.false_and, Bool.and_false, Bool.true_and, Bool.and_true, Bool.not_true, Bool.not_false, reduceCtorEq, Nat.reduceLeDiff, Nat.reduceEqDiff, Nat.reduceLT, Bool.true_eq_false, Bool.false_eq_true, eq_self, f_X7_begins_L9, Nat.le_refl]) (k := 0) (v := 0) (σ := (st2 s 1 d (nI n), rM)) (by omega) ⟨rfl, _, rfl, FrM_1, st2_s _ _ _ _, fun _ h => by omega, fun _ h => by omega⟩
  obtain ⟨x, σ', e1, s2, rfl, h3, h4⟩ := key
  refine ⟨s2, ?_, h3, h4⟩
  simp (disch := omega) only [i10, i01, gO_s, bO_s, lt_e, Sum.elim_inl, Sum.elim_inr, nI_1, nI_add, nle, nlt, neq, neq0, neq1, nlt0, nle0, n0le, n0lt, nlt1, n1le, n7m, pk_mul, l2, l3, l4, l5, l6, l7, l8, l9, l10, l13, l16, l20, l26, l27, l48, l57, l58, l60, l62, l70, l80, l90, l128, l140, l160, l420, l2000, l2001, bI_0, bI_1, bI_zz, bI_t, bI_f, zz_0, zz_1, ↓reduceIte, if_true, if_false, decide_true, decide_false, Bool.false_and, Bool.and_false, Bool.true_and, Bool.and_true, Bool.not_true, Bool.not_false, reduceCtorEq, Nat.reduceLeDiff, Nat.reduceEqDiff, Nat.reduceLT, Bool.true_eq_false, Bool.false_eq_true, eq_self, f_X7_begins, mI, mp, mk, mR0, mR1, mR2, mR3, mR4, mR5, mR9, mR10, mR16, mR17, mR18, mR21, mR22, mR23, mR25, mR26, mR29, mR30, mR35, mR36, mR37, mR38, mR39, ml1, ml2, ml3, ml4, ml5, ml6, ml7, ml8, ml9, ml10, ml11, ml12, ml13, ml14, ml15, ml16, ml17, ml18, ml19, ml20, ml21, ml22, ml23, ms1, ms2, ms3, ms4, ms5, ms6, ms7, ms8, ms9, ms10, ms11, ms12, ms13, ms14, ms15, ms16, ms17, ms18, ms19, ms20, ms21, ms22, ms23]
  exact (bO_e e1).trans rfl
theorem or_self2 (x y : Int32) : (x &&& (y ^^^ (-1))) ||| y = x ||| y := b_ext fun i hi => by
  rw [b_or, b_and, b_not _ hi, b_or]
  cases bt x i <;> cases bt y i <;> rfl
theorem m_sets (hN : NetM s d n E) (hd : d ≤ 7) (hn : n ≤ 7) {a b : Nat} (ha : a < n) (hb : b < n) (v : Bool) : ∃ s', f_X7_sets 0 (nI d) (nI a) (nI b) (bI v) (s, rM) = some ((), (s', rM)) ∧ NetM s' d n (Eset E a b v) ∧ FrM d s s' := by
  obtain ⟨h0, h1, h2⟩ := hN
  have e1 : ∀ x, st2 s 2 (7 * d + a) x 3 = s 3 := fun x => st2_o _ _ (by omega)
  cases v
  · refine ⟨st2 (st2 s 2 (7 * d + a) (s 2 (7 * d + a) &&& (bs (fun i => decide (i = b)) ^^^ (-1)))) 3 (7 * d + b) (s 3 (7 * d + b) &&& (bs (fun i => decide (i = a)) ^^^ (-1))), ?_, ⟨?_, ?_, ?_⟩, ?_⟩
    · simp (disch := omega) only [i10, i01, gO_s, bO_s, lt_e, Sum.elim_inl, Sum.elim_inr, nI_1, nI_add, nle, nlt, neq, neq0, neq1, nlt0, nle0, n0le, n0lt, nlt1, n1le, n7m, pk_mul, l2, l3, l4, l5, l6, l7, l8, l9, l10, l13, l16, l20, l26, l27, l48, l57, l58, l60, l62, l70, l80, l90, l128, l140, l160, l420, l2000, l2001, bI_0, bI_1, bI_zz, bI_t, bI_f, zz_0, zz_1, ↓reduceIte, if_true, if_false, decide_true, decide_false, Bool.false_and, Bool.and_false, Bool.true_and, Bool.and_true, Bool.not_true, Bool.not_false, reduceCtorEq, Nat.reduceLeDiff, Nat.reduceEqDiff, Nat.reduceLT, Bool.true_eq_false, Bool.false_eq_true, eq_self, f_X7_sets, f_X7_sets_b45, f_X7_sets_b91, mI, mp, mk, mR0, mR1, mR2, mR3, mR4, mR5, mR9, mR10, mR16, mR17, mR18, mR21, mR22, mR23, mR25, mR26, mR29, mR30, mR35, mR36, mR37, mR38, mR39, ml1, ml2, ml3, ml4, ml5, ml6, ml7, ml8, ml9, ml10, ml11, ml12, ml13, ml14, ml15, ml16, ml17, ml18, ml19, ml20, ml21, ml22, ml23, ms1, ms2, ms3, ms4, ms5, ms6, ms7, ms8, ms9, ms10, ms11, ms12, ms13, ms14, ms15, ms16, ms17, ms18, ms19, ms20, ms21, ms22, ms23, bs_one, e1]
    · rw [st2_o _ _ (by omega), st2_o _ _ (by omega)]; exact h0
    · intro x hx
      rw [st2_o _ _ (by omega), st2_k, Eset_Tf, h1 a ha, h1 x hx]
      by_cases e : x = a
      · rw [if_pos (by omega), if_pos e]
      · rw [if_neg (by omega), if_neg e]
    · intro x hx
      rw [st2_k, e1, Eset_Ff, h2 b hb, h2 x hx]
      by_cases e : x = b
      · rw [if_pos (by omega), if_pos e]
      · rw [if_neg (by omega), if_neg e]
    · exact FrM_t (FrM_2 (by omega) (by omega)) (FrM_3 (by omega) (by omega))
  · refine ⟨st2 (st2 s 2 (7 * d + a) (s 2 (7 * d + a) ||| bs (fun i => decide (i = b)))) 3 (7 * d + b) (s 3 (7 * d + b) ||| bs (fun i => decide (i = a))), ?_, ⟨?_, ?_, ?_⟩, ?_⟩
    · simp (disch := omega) only [i10, i01, gO_s, bO_s, lt_e, Sum.elim_inl, Sum.elim_inr, nI_1, nI_add, nle, nlt, neq, neq0, neq1, nlt0, nle0, n0le, n0lt, nlt1, n1le, n7m, pk_mul, l2, l3, l4, l5, l6, l7, l8, l9, l10, l13, l16, l20, l26, l27, l48, l57, l58, l60, l62, l70, l80, l90, l128, l140, l160, l420, l2000, l2001, bI_0, bI_1, bI_zz, bI_t, bI_f, zz_0, zz_1, ↓reduceIte, if_true, if_false, decide_true, decide_false, Bool.false_and, Bool.and_false, Bool.true_and, Bool.and_true, Bool.not_true, Bool.not_false, reduceCtorEq, Nat.reduceLeDiff, Nat.reduceEqDiff, Nat.reduceLT, Bool.true_eq_false, Bool.false_eq_true, eq_self, f_X7_sets, f_X7_sets_b45, f_X7_sets_b91, mI, mp, mk, mR0, mR1, mR2, mR3, mR4, mR5, mR9, mR10, mR16, mR17, mR18, mR21, mR22, mR23, mR25, mR26, mR29, mR30, mR35, mR36, mR37, mR38, mR39, ml1, ml2, ml3, ml4, ml5, ml6, ml7, ml8, ml9, ml10, ml11, ml12, ml13, ml14, ml15, ml16, ml17, ml18, ml19, ml20, ml21, ml22, ml23, ms1, ms2, ms3, ms4, ms5, ms6, ms7, ms8, ms9, ms10, ms11, ms12, ms13, ms14, ms15, ms16, ms17, ms18, ms19, ms20, ms21, ms22, ms23, bs_one, e1, or_self2]
    · rw [st2_o _ _ (by omega), st2_o _ _ (by omega)]; exact h0
    · intro x hx
      rw [st2_o _ _ (by omega), st2_k, Eset_T, h1 a ha, h1 x hx]
      by_cases e : x = a
      · rw [if_pos (by omega), if_pos e]
      · rw [if_neg (by omega), if_neg e]
    · intro x hx
      rw [st2_k, e1, Eset_F, h2 b hb, h2 x hx]
      by_cases e : x = b
      · rw [if_pos (by omega), if_pos e]
      · rw [if_neg (by omega), if_neg e]
    · exact FrM_t (FrM_2 (by omega) (by omega)) (FrM_3 (by omega) (by omega))
theorem m_copies {e : Nat} (hN : NetM s d n E) (hd : d ≤ 7) (he : e ≤ 7) (hn : n ≤ 7) (hde : d ≠ e) : ∃ s', f_X7_copies 0 (nI d) (nI e) (s, rM) = some ((), (s', rM)) ∧ NetM s' e n E ∧ FrM e s s' := by
  have hN' := hN
  obtain ⟨g0, g1, g2⟩ := hN
  have key := wh_up (f := f_X7_copies_L14 0 (nI d) (nI e)) 7 (fun k v σ => v = nI k ∧ ∃ s', σ = (s', rM) ∧ FrM e s s' ∧ s' 1 e = nI n ∧ (∀ a, a < k → a < n → s' 2 (7 * e + a) = rT E a) ∧ (∀ a, a < k → a < n → s' 3 (7 * e + a) = rF E a)) (Q := fun _ σ => ∃ s', σ = (s', rM) ∧ NetM s' e n E ∧ FrM e s s') (by
    rintro k v σ hk ⟨rfl, s1, rfl, hf, h0, h1, h2⟩
    have h3 : ¬ 7 ≤ k := by omega
    obtain ⟨i0, i1, i2⟩ := NetM_fr hN' hf hn hde
    have f2 : ∀ x, st2 s1 2 (7 * e + k) x 3 = s1 3 := fun x => st2_o _ _ (by omega)
    refine ⟨.inl (nI (k + 1)), (st2 (st2 s1 2 (7 * e + k) (s1 2 (7 * d + k))) 3 (7 * e + k) (s1 3 (7 * d + k)), rM), ?_, rfl, _, rfl, ?_, ?_, ?_, ?_⟩
    · simp (disch := omega) only [i10, i01, gO_s, bO_s, lt_e, Sum.elim_inl, Sum.elim_inr, nI_1, nI_add, nle, nlt, neq, neq0, neq1, nlt0, nle0, n0le, n0lt, nlt1, n1le, n7m, pk_mul, l2, l3, l4, l5, l6, l7, l8, l9, l10, l13, l16, l20, l26, l27, l48, l57, l58, l60, l62, l70, l80, l90, l128, l140, l160, l420, l2000, l2001, bI_0, bI_1, bI_zz, bI_t, bI_f, zz_0, zz_1, ↓reduceIte, if_true, if_false, decide_true, decide_false, Bool.false_and, Bool.and_false, Bool.true_and, Bool.and_true, Bool.not_true, Bool.not_false, reduceCtorEq, Nat.reduceLeDiff, Nat.reduceEqDiff, Nat.reduceLT, Bool.true_eq_false, Bool.false_eq_true, eq_self, f_X7_copies_L14, mI, mp, mk, mR0, mR1, mR2, mR3, mR4, mR5, mR9, mR10, mR16, mR17, mR18, mR21, mR22, mR23, mR25, mR26, mR29, mR30, mR35, mR36, mR37, mR38, mR39, ml1, ml2, ml3, ml4, ml5, ml6, ml7, ml8, ml9, ml10, ml11, ml12, ml13, ml14, ml15, ml16, ml17, ml18, ml19, ml20, ml21, ml22, ml23, ms1, ms2, ms3, ms4, ms5, ms6, ms7, ms8, ms9, ms10, ms11, ms12, ms13, ms14, ms15, ms16, ms17, ms18, ms19, ms20, ms21, ms22, ms23, h3, f2]
    · exact FrM_t hf (FrM_t (FrM_2 (by omega) (by omega)) (FrM_3 (by omega) (by omega)))
    · rw [st2_o _ _ (by omega), st2_o _ _ (by omega)]; exact h0
    · intro a ha ha2
      rw [st2_o _ _ (by omega), st2_k]
      by_cases e5 : a = k
      · rw [if_pos (by omega), ← e5]; exact i1 a ha2
      · rw [if_neg (by omega)]; exact h1 a (by omega) ha2
    · intro a ha ha2
      rw [st2_k, f2]
      by_cases e5 : a = k
      · rw [if_pos (by omega), ← e5]; exact i2 a ha2
      · rw [if_neg (by omega)]; exact h2 a (by omega) ha2) (by
    rintro v σ ⟨rfl, s1, rfl, hf, h0, h1, h2⟩
    refine ⟨(), (s1, rM), ?_, s1, rfl, ⟨h0, fun a ha => h1 a (by omega) ha, fun a ha => h2 a (by omega) ha⟩, hf⟩
    simp (disch := omega) only [i10, i01, gO_s, bO_s, lt_e, Sum.elim_inl, Sum.elim_inr, nI_1, nI_add, nle, nlt, neq, neq0, neq1, nlt0, nle0, n0le, n0lt, nlt1, n1le, n7m, pk_mul, l2, l3, l4, l5, l6, l7, l8, l9, l10, l13, l16, l20, l26, l27, l48, l57, l58, l60, l62, l70, l80, l90, l128, l140, l160, l420, l2000, l2001, bI_0, bI_1, bI_zz, bI_t, bI_f, zz_0, zz_1, ↓reduceIte, if_true, if_false, decide_true, decide_false, Bool.false_and, Bool.and_false, Bool.true_and, Bool.and_true, Bool.not_true, Bool.not_false, reduceCtorEq, Nat.reduceLeDiff, Nat.reduceEqDiff, Nat.reduceLT, Bool.true_eq_false, Bool.false_eq_true, eq_self, f_X7_copies_L14, Nat.le_refl]) (k := 0) (v := 0) (σ := (st2 s 1 e (nI n), rM)) (by omega) ⟨rfl, _, rfl, FrM_1, st2_s _ _ _ _, fun _ h => by omega, fun _ h => by omega⟩
  obtain ⟨x, σ', e1, s2, rfl, h3, h4⟩ := key
  refine ⟨s2, ?_, h3, h4⟩
  simp (disch := omega) only [i10, i01, gO_s, bO_s, lt_e, Sum.elim_inl, Sum.elim_inr, nI_1, nI_add, nle, nlt, neq, neq0, neq1, nlt0, nle0, n0le, n0lt, nlt1, n1le, n7m, pk_mul, l2, l3, l4, l5, l6, l7, l8, l9, l10, l13, l16, l20, l26, l27, l48, l57, l58, l60, l62, l70, l80, l90, l128, l140, l160, l420, l2000, l2001, bI_0, bI_1, bI_zz, bI_t, bI_f, zz_0, zz_1, ↓reduceIte, if_true, if_false, decide_true, decide_false, Bool.false_and, Bool.and_false, Bool.true_and, Bool.and_true, Bool.not_true, Bool.not_false, reduceCtorEq, Nat.reduceLeDiff, Nat.reduceEqDiff, Nat.reduceLT, Bool.true_eq_false, Bool.false_eq_true, eq_self, f_X7_copies, mI, mp, mk, mR0, mR1, mR2, mR3, mR4, mR5, mR9, mR10, mR16, mR17, mR18, mR21, mR22, mR23, mR25, mR26, mR29, mR30, mR35, mR36, mR37, mR38, mR39, ml1, ml2, ml3, ml4, ml5, ml6, ml7, ml8, ml9, ml10, ml11, ml12, ml13, ml14, ml15, ml16, ml17, ml18, ml19, ml20, ml21, ml22, ml23, ms1, ms2, ms3, ms4, ms5, ms6, ms7, ms8, ms9, ms10, ms11, ms12, ms13, ms14, ms15, ms16, ms17, ms18, ms19, ms20, ms21, ms22, ms23, g0]
  exact (bO_e e1).trans rfl
theorem m_lines (hN : NetM s d n E) (hd : d ≤ 7) (hS : Sup n E) (hn : n ≤ 7) : f_X7_lines 0 (nI d) (s, rM) = some (nI (sLines n E), (s, rM)) := by
  obtain ⟨h0, h1, h2⟩ := hN
  have key := wh_pure (f := f_X7_lines_L4 0 (nI d)) (σ := (s, rM)) n (fun k => (nI (fb_sm (fun a => cI (rT E a)) k), nI k)) (x := nI (sLines n E)) (fun k hk => by
    have h3 : ¬ n ≤ k := by omega
    simp (disch := omega) only [i10, i01, gO_s, bO_s, lt_e, Sum.elim_inl, Sum.elim_inr, nI_1, nI_add, nle, nlt, neq, neq0, neq1, nlt0, nle0, n0le, n0lt, nlt1, n1le, n7m, pk_mul, l2, l3, l4, l5, l6, l7, l8, l9, l10, l13, l16, l20, l26, l27, l48, l57, l58, l60, l62, l70, l80, l90, l128, l140, l160, l420, l2000, l2001, bI_0, bI_1, bI_zz, bI_t, bI_f, zz_0, zz_1, ↓reduceIte, if_true, if_false, decide_true, decide_false, Bool.false_and, Bool.and_false, Bool.true_and, Bool.and_true, Bool.not_true, Bool.not_false, reduceCtorEq, Nat.reduceLeDiff, Nat.reduceEqDiff, Nat.reduceLT, Bool.true_eq_false, Bool.false_eq_true, eq_self, f_X7_lines_L4, mI, mp, mk, mR0, mR1, mR2, mR3, mR4, mR5, mR9, mR10, mR16, mR17, mR18, mR21, mR22, mR23, mR25, mR26, mR29, mR30, mR35, mR36, mR37, mR38, mR39, ml1, ml2, ml3, ml4, ml5, ml6, ml7, ml8, ml9, ml10, ml11, ml12, ml13, ml14, ml15, ml16, ml17, ml18, ml19, ml20, ml21, ml22, ml23, ms1, ms2, ms3, ms4, ms5, ms6, ms7, ms8, ms9, ms10, ms11, ms12, ms13, ms14, ms15, ms16, ms17, ms18, ms19, ms20, ms21, ms22, ms23, h0, h1, h3, s_bits (lo_T hS hn), fb_sm_succ]) (by
    simp (disch := omega) only [i10, i01, gO_s, bO_s, lt_e, Sum.elim_inl, Sum.elim_inr, nI_1, nI_add, nle, nlt, neq, neq0, neq1, nlt0, nle0, n0le, n0lt, nlt1, n1le, n7m, pk_mul, l2, l3, l4, l5, l6, l7, l8, l9, l10, l13, l16, l20, l26, l27, l48, l57, l58, l60, l62, l70, l80, l90, l128, l140, l160, l420, l2000, l2001, bI_0, bI_1, bI_zz, bI_t, bI_f, zz_0, zz_1, ↓reduceIte, if_true, if_false, decide_true, decide_false, Bool.false_and, Bool.and_false, Bool.true_and, Bool.and_true, Bool.not_true, Bool.not_false, reduceCtorEq, Nat.reduceLeDiff, Nat.reduceEqDiff, Nat.reduceLT, Bool.true_eq_false, Bool.false_eq_true, eq_self, f_X7_lines_L4, mI, mp, mk, mR0, mR1, mR2, mR3, mR4, mR5, mR9, mR10, mR16, mR17, mR18, mR21, mR22, mR23, mR25, mR26, mR29, mR30, mR35, mR36, mR37, mR38, mR39, ml1, ml2, ml3, ml4, ml5, ml6, ml7, ml8, ml9, ml10, ml11, ml12, ml13, ml14, ml15, ml16, ml17, ml18, ml19, ml20, ml21, ml22, ml23, ms1, ms2, ms3, ms4, ms5, ms6, ms7, ms8, ms9, ms10, ms11, ms12, ms13, ms14, ms15, ms16, ms17, ms18, ms19, ms20, ms21, ms22, ms23, h0, Nat.le_refl, sLines])
  unfold f_X7_lines
  exact bO_e key
theorem m_loops (hN : NetM s d n E) (hd : d ≤ 7) (hn : n ≤ 7) : f_X7_loops 0 (nI d) (s, rM) = some (sLoops n E, (s, rM)) := by
  obtain ⟨h0, h1, h2⟩ := hN
  have key := wh_pure (f := f_X7_loops_L4 0 (nI d)) (σ := (s, rM)) n (fun k => (sLoops k E, nI k)) (x := sLoops n E) (fun k hk => by
    have h3 : ¬ n ≤ k := by omega
    simp (disch := omega) only [i10, i01, gO_s, bO_s, lt_e, Sum.elim_inl, Sum.elim_inr, nI_1, nI_add, nle, nlt, neq, neq0, neq1, nlt0, nle0, n0le, n0lt, nlt1, n1le, n7m, pk_mul, l2, l3, l4, l5, l6, l7, l8, l9, l10, l13, l16, l20, l26, l27, l48, l57, l58, l60, l62, l70, l80, l90, l128, l140, l160, l420, l2000, l2001, bI_0, bI_1, bI_zz, bI_t, bI_f, zz_0, zz_1, ↓reduceIte, if_true, if_false, decide_true, decide_false, Bool.false_and, Bool.and_false, Bool.true_and, Bool.and_true, Bool.not_true, Bool.not_false, reduceCtorEq, Nat.reduceLeDiff, Nat.reduceEqDiff, Nat.reduceLT, Bool.true_eq_false, Bool.false_eq_true, eq_self, f_X7_loops_L4, mI, mp, mk, mR0, mR1, mR2, mR3, mR4, mR5, mR9, mR10, mR16, mR17, mR18, mR21, mR22, mR23, mR25, mR26, mR29, mR30, mR35, mR36, mR37, mR38, mR39, ml1, ml2, ml3, ml4, ml5, ml6, ml7, ml8, ml9, ml10, ml11, ml12, ml13, ml14, ml15, ml16, ml17, ml18, ml19, ml20, ml21, ml22, ml23, ms1, ms2, ms3, ms4, ms5, ms6, ms7, ms8, ms9, ms10, ms11, ms12, ms13, ms14, ms15, ms16, ms17, ms18, ms19, ms20, ms21, ms22, ms23, h0, h1, h3]; rfl) (by
    simp (disch := omega) only [i10, i01, gO_s, bO_s, lt_e, Sum.elim_inl, Sum.elim_inr, nI_1, nI_add, nle, nlt, neq, neq0, neq1, nlt0, nle0, n0le, n0lt, nlt1, n1le, n7m, pk_mul, l2, l3, l4, l5, l6, l7, l8, l9, l10, l13, l16, l20, l26, l27, l48, l57, l58, l60, l62, l70, l80, l90, l128, l140, l160, l420, l2000, l2001, bI_0, bI_1, bI_zz, bI_t, bI_f, zz_0, zz_1, ↓reduceIte, if_true, if_false, decide_true, decide_false, Bool.false_and, Bool.and_false, Bool.true_and, Bool.and_true, Bool.not_true, Bool.not_false, reduceCtorEq, Nat.reduceLeDiff, Nat.reduceEqDiff, Nat.reduceLT, Bool.true_eq_false, Bool.false_eq_true, eq_self, f_X7_loops_L4, mI, mp, mk, mR0, mR1, mR2, mR3, mR4, mR5, mR9, mR10, mR16, mR17, mR18, mR21, mR22, mR23, mR25, mR26, mR29, mR30, mR35, mR36, mR37, mR38, mR39, ml1, ml2, ml3, ml4, ml5, ml6, ml7, ml8, ml9, ml10, ml11, ml12, ml13, ml14, ml15, ml16, ml17, ml18, ml19, ml20, ml21, ml22, ml23, ms1, ms2, ms3, ms4, ms5, ms6, ms7, ms8, ms9, ms10, ms11, ms12, ms13, ms14, ms15, ms16, ms17, ms18, ms19, ms20, ms21, ms22, ms23, h0, Nat.le_refl])
  unfold f_X7_loops
  exact bO_e key
theorem m_isTwoWay (hN : NetM s d n E) (hd : d ≤ 7) (hn : n ≤ 7) : f_X7_isTwoWay 0 (nI d) (s, rM) = some (bI (sTwo n E), (s, rM)) := by
  obtain ⟨h0, h1, h2⟩ := hN
  have key := wh_pure (f := f_X7_isTwoWay_L4 0 (nI d)) (σ := (s, rM)) n (fun k => (bI (allN (fun a => decide (rT E a = rF E a)) k), nI k)) (x := bI (sTwo n E)) (fun k hk => by
    have h3 : ¬ n ≤ k := by omega
    have h4 : allN (fun a => decide (rT E a = rF E a)) (k + 1) = (allN (fun a => decide (rT E a = rF E a)) k && decide (rT E k = rF E k)) := rfl
    cases e : allN (fun a => decide (rT E a = rF E a)) k
    · simp (disch := omega) only [i10, i01, gO_s, bO_s, lt_e, Sum.elim_inl, Sum.elim_inr, nI_1, nI_add, nle, nlt, neq, neq0, neq1, nlt0, nle0, n0le, n0lt, nlt1, n1le, n7m, pk_mul, l2, l3, l4, l5, l6, l7, l8, l9, l10, l13, l16, l20, l26, l27, l48, l57, l58, l60, l62, l70, l80, l90, l128, l140, l160, l420, l2000, l2001, bI_0, bI_1, bI_zz, bI_t, bI_f, zz_0, zz_1, ↓reduceIte, if_true, if_false, decide_true, decide_false, Bool.false_and, Bool.and_false, Bool.true_and, Bool.and_true, Bool.not_true, Bool.not_false, reduceCtorEq, Nat.reduceLeDiff, Nat.reduceEqDiff, Nat.reduceLT, Bool.true_eq_false, Bool.false_eq_true, eq_self, f_X7_isTwoWay_L4, f_X7_isTwoWay_b48, f_X7_isTwoWay_b47, mI, mp, mk, mR0, mR1, mR2, mR3, mR4, mR5, mR9, mR10, mR16, mR17, mR18, mR21, mR22, mR23, mR25, mR26, mR29, mR30, mR35, mR36, mR37, mR38, mR39, ml1, ml2, ml3, ml4, ml5, ml6, ml7, ml8, ml9, ml10, ml11, ml12, ml13, ml14, ml15, ml16, ml17, ml18, ml19, ml20, ml21, ml22, ml23, ms1, ms2, ms3, ms4, ms5, ms6, ms7, ms8, ms9, ms10, ms11, ms12, ms13, ms14, ms15, ms16, ms17, ms18, ms19, ms20, ms21, ms22, ms23, h0, h3, h4, e, Bool.false_and]
    · by_cases e2 : rT E k = rF E k
      · simp (disch := omega) only [i10, i01, gO_s, bO_s, lt_e, Sum.elim_inl, Sum.elim_inr, nI_1, nI_add, nle, nlt, neq, neq0, neq1, nlt0, nle0, n0le, n0lt, nlt1, n1le, n7m, pk_mul, l2, l3, l4, l5, l6, l7, l8, l9, l10, l13, l16, l20, l26, l27, l48, l57, l58, l60, l62, l70, l80, l90, l128, l140, l160, l420, l2000, l2001, bI_0, bI_1, bI_zz, bI_t, bI_f, zz_0, zz_1, ↓reduceIte, if_true, if_false, decide_true, decide_false, Bool.false_and, Bool.and_false, Bool.true_and, Bool.and_true, Bool.not_true, Bool.not_false, reduceCtorEq, Nat.reduceLeDiff, Nat.reduceEqDiff, Nat.reduceLT, Bool.true_eq_false, Bool.false_eq_true, eq_self, f_X7_isTwoWay_L4, f_X7_isTwoWay_b48, f_X7_isTwoWay_b47, mI, mp, mk, mR0, mR1, mR2, mR3, mR4, mR5, mR9, mR10, mR16, mR17, mR18, mR21, mR22, mR23, mR25, mR26, mR29, mR30, mR35, mR36, mR37, mR38, mR39, ml1, ml2, ml3, ml4, ml5, ml6, ml7, ml8, ml9, ml10, ml11, ml12, ml13, ml14, ml15, ml16, ml17, ml18, ml19, ml20, ml21, ml22, ml23, ms1, ms2, ms3, ms4, ms5, ms6, ms7, ms8, ms9, ms10, ms11, ms12, ms13, ms14, ms15, ms16, ms17, ms18, ms19, ms20, ms21, ms22, ms23, h0, h1, h2, h3, h4, e, decide_eq_true e2, Bool.true_and]
        rw [if_pos e2]
      · simp (disch := omega) only [i10, i01, gO_s, bO_s, lt_e, Sum.elim_inl, Sum.elim_inr, nI_1, nI_add, nle, nlt, neq, neq0, neq1, nlt0, nle0, n0le, n0lt, nlt1, n1le, n7m, pk_mul, l2, l3, l4, l5, l6, l7, l8, l9, l10, l13, l16, l20, l26, l27, l48, l57, l58, l60, l62, l70, l80, l90, l128, l140, l160, l420, l2000, l2001, bI_0, bI_1, bI_zz, bI_t, bI_f, zz_0, zz_1, ↓reduceIte, if_true, if_false, decide_true, decide_false, Bool.false_and, Bool.and_false, Bool.true_and, Bool.and_true, Bool.not_true, Bool.not_false, reduceCtorEq, Nat.reduceLeDiff, Nat.reduceEqDiff, Nat.reduceLT, Bool.true_eq_false, Bool.false_eq_true, eq_self, f_X7_isTwoWay_L4, f_X7_isTwoWay_b48, f_X7_isTwoWay_b47, mI, mp, mk, mR0, mR1, mR2, mR3, mR4, mR5, mR9, mR10, mR16, mR17, mR18, mR21, mR22, mR23, mR25, mR26, mR29, mR30, mR35, mR36, mR37, mR38, mR39, ml1, ml2, ml3, ml4, ml5, ml6, ml7, ml8, ml9, ml10, ml11, ml12, ml13, ml14, ml15, ml16, ml17, ml18, ml19, ml20, ml21, ml22, ml23, ms1, ms2, ms3, ms4, ms5, ms6, ms7, ms8, ms9, ms10, ms11, ms12, ms13, ms14, ms15, ms16, ms17, ms18, ms19, ms20, ms21, ms22, ms23, h0, h1, h2, h3, h4, e, decide_eq_false e2, Bool.true_and]
        rw [if_neg e2]) (by
    simp (disch := omega) only [i10, i01, gO_s, bO_s, lt_e, Sum.elim_inl, Sum.elim_inr, nI_1, nI_add, nle, nlt, neq, neq0, neq1, nlt0, nle0, n0le, n0lt, nlt1, n1le, n7m, pk_mul, l2, l3, l4, l5, l6, l7, l8, l9, l10, l13, l16, l20, l26, l27, l48, l57, l58, l60, l62, l70, l80, l90, l128, l140, l160, l420, l2000, l2001, bI_0, bI_1, bI_zz, bI_t, bI_f, zz_0, zz_1, ↓reduceIte, if_true, if_false, decide_true, decide_false, Bool.false_and, Bool.and_false, Bool.true_and, Bool.and_true, Bool.not_true, Bool.not_false, reduceCtorEq, Nat.reduceLeDiff, Nat.reduceEqDiff, Nat.reduceLT, Bool.true_eq_false, Bool.false_eq_true, eq_self, f_X7_isTwoWay_L4, mI, mp, mk, mR0, mR1, mR2, mR3, mR4, mR5, mR9, mR10, mR16, mR17, mR18, mR21, mR22, mR23, mR25, mR26, mR29, mR30, mR35, mR36, mR37, mR38, mR39, ml1, ml2, ml3, ml4, ml5, ml6, ml7, ml8, ml9, ml10, ml11, ml12, ml13, ml14, ml15, ml16, ml17, ml18, ml19, ml20, ml21, ml22, ml23, ms1, ms2, ms3, ms4, ms5, ms6, ms7, ms8, ms9, ms10, ms11, ms12, ms13, ms14, ms15, ms16, ms17, ms18, ms19, ms20, ms21, ms22, ms23, h0, Nat.le_refl, sTwo])
  unfold f_X7_isTwoWay
  refine (bO_e key).trans ?_
  simp (disch := omega) only [i10, i01, gO_s, bO_s, lt_e, Sum.elim_inl, Sum.elim_inr, nI_1, nI_add, nle, nlt, neq, neq0, neq1, nlt0, nle0, n0le, n0lt, nlt1, n1le, n7m, pk_mul, l2, l3, l4, l5, l6, l7, l8, l9, l10, l13, l16, l20, l26, l27, l48, l57, l58, l60, l62, l70, l80, l90, l128, l140, l160, l420, l2000, l2001, bI_0, bI_1, bI_zz, bI_t, bI_f, zz_0, zz_1, ↓reduceIte, if_true, if_false, decide_true, decide_false, Bool.false_and, Bool.and_false, Bool.true_and, Bool.and_true, Bool.not_true, Bool.not_false, reduceCtorEq, Nat.reduceLeDiff, Nat.reduceEqDiff, Nat.reduceLT, Bool.true_eq_false, Bool.false_eq_true, eq_self, ]
theorem m_most (hN : NetM s d n E) (hd : d ≤ 7) (hS : Sup n E) (hn : n ≤ 7) (b : Bool) : f_X7_mostLines 0 (nI d) (bI b) (s, rM) = some (sMax (fun a => nI (cI (if b = true then rT E a else rF E a))) n, (s, rM)) := by
  obtain ⟨h0, h1, h2⟩ := hN
  have key := wh_pure (f := f_X7_mostLines_L5 0 (nI d) (bI b)) (σ := (s, rM)) n (fun k => (sMax (fun a => nI (cI (if b = true then rT E a else rF E a))) k, nI k)) (x := sMax (fun a => nI (cI (if b = true then rT E a else rF E a))) n) (fun k hk => by
    have h3 : ¬ n ≤ k := by omega
    cases b
    · simp (disch := omega) only [i10, i01, gO_s, bO_s, lt_e, Sum.elim_inl, Sum.elim_inr, nI_1, nI_add, nle, nlt, neq, neq0, neq1, nlt0, nle0, n0le, n0lt, nlt1, n1le, n7m, pk_mul, l2, l3, l4, l5, l6, l7, l8, l9, l10, l13, l16, l20, l26, l27, l48, l57, l58, l60, l62, l70, l80, l90, l128, l140, l160, l420, l2000, l2001, bI_0, bI_1, bI_zz, bI_t, bI_f, zz_0, zz_1, ↓reduceIte, if_true, if_false, decide_true, decide_false, Bool.false_and, Bool.and_false, Bool.true_and, Bool.and_true, Bool.not_true, Bool.not_false, reduceCtorEq, Nat.reduceLeDiff, Nat.reduceEqDiff, Nat.reduceLT, Bool.true_eq_false, Bool.false_eq_true, eq_self, f_X7_mostLines_L5, f_X7_mostLines_b47, f_X7_mostLines_b64, mI, mp, mk, mR0, mR1, mR2, mR3, mR4, mR5, mR9, mR10, mR16, mR17, mR18, mR21, mR22, mR23, mR25, mR26, mR29, mR30, mR35, mR36, mR37, mR38, mR39, ml1, ml2, ml3, ml4, ml5, ml6, ml7, ml8, ml9, ml10, ml11, ml12, ml13, ml14, ml15, ml16, ml17, ml18, ml19, ml20, ml21, ml22, ml23, ms1, ms2, ms3, ms4, ms5, ms6, ms7, ms8, ms9, ms10, ms11, ms12, ms13, ms14, ms15, ms16, ms17, ms18, ms19, ms20, ms21, ms22, ms23, h0, h1, h2, h3, s_bits (lo_F hS hn), sMax]
      generalize sMax _ k = x
      unfold imax
      by_cases e : nI (cI (rF E k)) ≤ x
      · rw [if_pos e, if_neg (Int32.not_lt.mpr e)]
      · rw [if_neg e, if_pos (Int32.not_le.mp e)]
    · simp (disch := omega) only [i10, i01, gO_s, bO_s, lt_e, Sum.elim_inl, Sum.elim_inr, nI_1, nI_add, nle, nlt, neq, neq0, neq1, nlt0, nle0, n0le, n0lt, nlt1, n1le, n7m, pk_mul, l2, l3, l4, l5, l6, l7, l8, l9, l10, l13, l16, l20, l26, l27, l48, l57, l58, l60, l62, l70, l80, l90, l128, l140, l160, l420, l2000, l2001, bI_0, bI_1, bI_zz, bI_t, bI_f, zz_0, zz_1, ↓reduceIte, if_true, if_false, decide_true, decide_false, Bool.false_and, Bool.and_false, Bool.true_and, Bool.and_true, Bool.not_true, Bool.not_false, reduceCtorEq, Nat.reduceLeDiff, Nat.reduceEqDiff, Nat.reduceLT, Bool.true_eq_false, Bool.false_eq_true, eq_self, f_X7_mostLines_L5, f_X7_mostLines_b47, f_X7_mostLines_b64, mI, mp, mk, mR0, mR1, mR2, mR3, mR4, mR5, mR9, mR10, mR16, mR17, mR18, mR21, mR22, mR23, mR25, mR26, mR29, mR30, mR35, mR36, mR37, mR38, mR39, ml1, ml2, ml3, ml4, ml5, ml6, ml7, ml8, ml9, ml10, ml11, ml12, ml13, ml14, ml15, ml16, ml17, ml18, ml19, ml20, ml21, ml22, ml23, ms1, ms2, ms3, ms4, ms5, ms6, ms7, ms8, ms9, ms10, ms11, ms12, ms13, ms14, ms15, ms16, ms17, ms18, ms19, ms20, ms21, ms22, ms23, h0, h1, h2, h3, s_bits (lo_T hS hn), sMax]
      generalize sMax _ k = x
      unfold imax
      by_cases e : nI (cI (rT E k)) ≤ x
      · rw [if_pos e, if_neg (Int32.not_lt.mpr e)]
      · rw [if_neg e, if_pos (Int32.not_le.mp e)]) (by
    simp (disch := omega) only [i10, i01, gO_s, bO_s, lt_e, Sum.elim_inl, Sum.elim_inr, nI_1, nI_add, nle, nlt, neq, neq0, neq1, nlt0, nle0, n0le, n0lt, nlt1, n1le, n7m, pk_mul, l2, l3, l4, l5, l6, l7, l8, l9, l10, l13, l16, l20, l26, l27, l48, l57, l58, l60, l62, l70, l80, l90, l128, l140, l160, l420, l2000, l2001, bI_0, bI_1, bI_zz, bI_t, bI_f, zz_0, zz_1, ↓reduceIte, if_true, if_false, decide_true, decide_false, Bool.false_and, Bool.and_false, Bool.true_and, Bool.and_true, Bool.not_true, Bool.not_false, reduceCtorEq, Nat.reduceLeDiff, Nat.reduceEqDiff, Nat.reduceLT, Bool.true_eq_false, Bool.false_eq_true, eq_self, f_X7_mostLines_L5, mI, mp, mk, mR0, mR1, mR2, mR3, mR4, mR5, mR9, mR10, mR16, mR17, mR18, mR21, mR22, mR23, mR25, mR26, mR29, mR30, mR35, mR36, mR37, mR38, mR39, ml1, ml2, ml3, ml4, ml5, ml6, ml7, ml8, ml9, ml10, ml11, ml12, ml13, ml14, ml15, ml16, ml17, ml18, ml19, ml20, ml21, ml22, ml23, ms1, ms2, ms3, ms4, ms5, ms6, ms7, ms8, ms9, ms10, ms11, ms12, ms13, ms14, ms15, ms16, ms17, ms18, ms19, ms20, ms21, ms22, ms23, h0, Nat.le_refl])
  unfold f_X7_mostLines
  exact bO_e key
end NETM
