/-! the seeker: how it is set; the number of one; lines that are reached -/
section CSET
variable {s t s' : Nat → Nat → Int32} {g h n m lb ub : Nat} {E F M : Nat → Nat → Bool} {bnd ret : Bool}
/-- what may be, by lists and loops -/
def bM (E F : Nat → Nat → Bool) (m : Nat) (l : Nat → Nat → Bool) (a x : Nat) : Bool := (if E a a = true then F x x else decide (x < m)) && l a x
theorem bM_m {l : Nat → Nat → Bool} {a x : Nat} (hS : Sup m F) (h : bM E F m l a x = true) : x < m := by
  unfold bM at h
  rw [Bool.and_eq_true] at h
  obtain ⟨h, _⟩ := h
  split at h
  · exact (hS x x h).1
  · exact of_decide_eq_true h
theorem sLoops_bs (hS : Sup m F) (hm : m ≤ 31) : sLoops m F = bs (fun x => F x x) := bs_ext fun i hi => b_loops hS hm hi
/-- what does not touch what is found by -/
def FrF (s s' : Nat → Nat → Int32) : Prop := ∀ k, k ≠ 252 → k ≠ 256 → k ≠ 257 → s' k = s k
theorem FrF_t (h1 : FrF s t) (h2 : FrF t s') : FrF s s' := fun k a b c => (h2 k a b c).trans (h1 k a b c)
theorem FrF_S {a : Nat} (h : FrS a s s') : FrF s s' := fun k a _ c => h.1 k a c
theorem FrF_N {r : Nat} (hr : isN r) (hf : FrF s s') (hN : NetC s r n E) : NetC s' r n E := by
  have := isN_far hr
  unfold NetC
  rw [hf r (by omega) (by omega) (by omega), hf (r + 1) (by omega) (by omega) (by omega), hf (r + 2) (by omega) (by omega) (by omega)]
  exact hN
theorem n1lt {a : Nat} (ha : a < 2147483648) : (1 < nI a) = (1 < a) := propext (nI_ltI (a := 1) (by omega) ha)
theorem q_bound (hF : NetC s h m F) (hr : isN h) (hm : m ≤ 7) (lb ub : Nat) (hl : lb ≤ 7) (hu : ub ≤ 7) : ∃ s', f_X4_bound 252 (nI lb) (nI ub) (s, rC g h) = some ((), (s', rC g h)) ∧ (∀ k, k ≠ 252 → s' k = s k) ∧ s' 252 5 = nI lb ∧ s' 252 6 = nI ub ∧ s' 252 7 = bI (decide (1 < lb) || decide (ub < m)) ∧ s' 252 8 = s 252 8 ∧ s' 252 4 = s 252 4 := by
  have := isN_far hr
  obtain ⟨f0, f1, f2⟩ := hF
  refine ⟨st2 (st2 (st2 s 252 5 (nI lb)) 252 6 (nI ub)) 252 7 (bI (decide (1 < lb) || decide (ub < m))), ?_, ?_, ?_, ?_, ?_, ?_, ?_⟩
  · have e5 : st2 (st2 s 252 5 (nI lb)) 252 6 (nI ub) 252 5 = nI lb := by rw [st2_n _ _ (by omega), st2_s]
    have e6 : st2 (st2 s 252 5 (nI lb)) 252 6 (nI ub) 252 6 = nI ub := by rw [st2_s]
    have e0 : st2 (st2 s 252 5 (nI lb)) 252 6 (nI ub) h 0 = nI m := by rw [st2_o _ _ (by omega), st2_o _ _ (by omega)]; exact f0
    by_cases c1 : 1 < lb
    · have c1' : (1 < nI lb) = True := (n1lt (by omega)).trans (eq_true c1)
      (repeat (first | (apply gO_r; focus (simp (disch := omega) only [i10, i01, gO_s, bO_s, lt_e, Sum.elim_inl, Sum.elim_inr, nI_1, nI_add, nle, nlt, neq, neq0, neq1, nlt0, nle0, n0le, n0lt, nlt1, n1le, n7m, pk_mul, l2, l3, l4, l5, l6, l7, l8, l9, l10, l13, l16, l20, l26, l27, l48, l57, l58, l60, l62, l70, l80, l90, l128, l140, l160, l420, l2000, l2001, bI_0, bI_1, bI_zz, bI_t, bI_f, zz_0, zz_1, ↓reduceIte, if_true, if_false, decide_true, decide_false, Bool.false_and, Bool.and_false, Bool.true_and, Bool.and_true, Bool.not_true, Bool.not_false, Bool.true_or, Bool.or_true, Bool.false_or, Bool.or_false, reduceCtorEq, Nat.reduceLeDiff, Nat.reduceEqDiff, Nat.reduceLT, Bool.true_eq_false, Bool.false_eq_true, eq_self, fP, fI, fg1, fZ1, nc_n hr, nc_t hr, nc_f hr, nc_lt hr, nc_lf hr, nc_st hr, nc_sf hr, nc_k hr, nc_p hr, e5, e6, e0, c1', c1]; exact rfl)) | (apply bO_r; focus (simp (disch := omega) only [i10, i01, gO_s, bO_s, lt_e, Sum.elim_inl, Sum.elim_inr, nI_1, nI_add, nle, nlt, neq, neq0, neq1, nlt0, nle0, n0le, n0lt, nlt1, n1le, n7m, pk_mul, l2, l3, l4, l5, l6, l7, l8, l9, l10, l13, l16, l20, l26, l27, l48, l57, l58, l60, l62, l70, l80, l90, l128, l140, l160, l420, l2000, l2001, bI_0, bI_1, bI_zz, bI_t, bI_f, zz_0, zz_1, ↓reduceIte, if_true, if_false, decide_true, decide_false, Bool.false_and, Bool.and_false, Bool.true_and, Bool.and_true, Bool.not_true, Bool.not_false, Bool.true_or, Bool.or_true, Bool.false_or, Bool.or_false, reduceCtorEq, Nat.reduceLeDiff, Nat.reduceEqDiff, Nat.reduceLT, Bool.true_eq_false, Bool.false_eq_true, eq_self, fP, fI, fg1, fZ1, nc_n hr, nc_t hr, nc_f hr, nc_lt hr, nc_lf hr, nc_st hr, nc_sf hr, nc_k hr, nc_p hr, e5, e6, e0, c1', c1]; exact rfl)) | (refine (if_pos ?_).trans ?_; focus (simp (disch := omega) only [i10, i01, gO_s, bO_s, lt_e, Sum.elim_inl, Sum.elim_inr, nI_1, nI_add, nle, nlt, neq, neq0, neq1, nlt0, nle0, n0le, n0lt, nlt1, n1le, n7m, pk_mul, l2, l3, l4, l5, l6, l7, l8, l9, l10, l13, l16, l20, l26, l27, l48, l57, l58, l60, l62, l70, l80, l90, l128, l140, l160, l420, l2000, l2001, bI_0, bI_1, bI_zz, bI_t, bI_f, zz_0, zz_1, ↓reduceIte, if_true, if_false, decide_true, decide_false, Bool.false_and, Bool.and_false, Bool.true_and, Bool.and_true, Bool.not_true, Bool.not_false, Bool.true_or, Bool.or_true, Bool.false_or, Bool.or_false, reduceCtorEq, Nat.reduceLeDiff, Nat.reduceEqDiff, Nat.reduceLT, Bool.true_eq_false, Bool.false_eq_true, eq_self, fP, fI, fg1, fZ1, nc_n hr, nc_t hr, nc_f hr, nc_lt hr, nc_lf hr, nc_st hr, nc_sf hr, nc_k hr, nc_p hr, e5, e6, e0, c1', c1]; done)) | (refine (if_neg ?_).trans ?_; focus (simp (disch := omega) only [i10, i01, gO_s, bO_s, lt_e, Sum.elim_inl, Sum.elim_inr, nI_1, nI_add, nle, nlt, neq, neq0, neq1, nlt0, nle0, n0le, n0lt, nlt1, n1le, n7m, pk_mul, l2, l3, l4, l5, l6, l7, l8, l9, l10, l13, l16, l20, l26, l27, l48, l57, l58, l60, l62, l70, l80, l90, l128, l140, l160, l420, l2000, l2001, bI_0, bI_1, bI_zz, bI_t, bI_f, zz_0, zz_1, ↓reduceIte, if_true, if_false, decide_true, decide_false, Bool.false_and, Bool.and_false, Bool.true_and, Bool.and_true, Bool.not_true, Bool.not_false, Bool.true_or, Bool.or_true, Bool.false_or, Bool.or_false, reduceCtorEq, Nat.reduceLeDiff, Nat.reduceEqDiff, Nat.reduceLT, Bool.true_eq_false, Bool.false_eq_true, eq_self, fP, fI, fg1, fZ1, nc_n hr, nc_t hr, nc_f hr, nc_lt hr, nc_lf hr, nc_st hr, nc_sf hr, nc_k hr, nc_p hr, e5, e6, e0, c1', c1]; exact not_false)) | (rw [lt_e]) | (rw [f_X4_bound]) | (rw [f_X4_bound_b33]) | (rw [f_X4_bound_b38]))) <;> (first | done | exact rfl | (simp (disch := omega) only [i10, i01, gO_s, bO_s, lt_e, Sum.elim_inl, Sum.elim_inr, nI_1, nI_add, nle, nlt, neq, neq0, neq1, nlt0, nle0, n0le, n0lt, nlt1, n1le, n7m, pk_mul, l2, l3, l4, l5, l6, l7, l8, l9, l10, l13, l16, l20, l26, l27, l48, l57, l58, l60, l62, l70, l80, l90, l128, l140, l160, l420, l2000, l2001, bI_0, bI_1, bI_zz, bI_t, bI_f, zz_0, zz_1, ↓reduceIte, if_true, if_false, decide_true, decide_false, Bool.false_and, Bool.and_false, Bool.true_and, Bool.and_true, Bool.not_true, Bool.not_false, Bool.true_or, Bool.or_true, Bool.false_or, Bool.or_false, reduceCtorEq, Nat.reduceLeDiff, Nat.reduceEqDiff, Nat.reduceLT, Bool.true_eq_false, Bool.false_eq_true, eq_self, fP, fI, fg1, fZ1, nc_n hr, nc_t hr, nc_f hr, nc_lt hr, nc_lf hr, nc_st hr, nc_sf hr, nc_k hr, nc_p hr, e5, e6, e0, c1', c1]; done) | (simp (disch := omega) only [i10, i01, gO_s, bO_s, lt_e, Sum.elim_inl, Sum.elim_inr, nI_1, nI_add, nle, nlt, neq, neq0, neq1, nlt0, nle0, n0le, n0lt, nlt1, n1le, n7m, pk_mul, l2, l3, l4, l5, l6, l7, l8, l9, l10, l13, l16, l20, l26, l27, l48, l57, l58, l60, l62, l70, l80, l90, l128, l140, l160, l420, l2000, l2001, bI_0, bI_1, bI_zz, bI_t, bI_f, zz_0, zz_1, ↓reduceIte, if_true, if_false, decide_true, decide_false, Bool.false_and, Bool.and_false, Bool.true_and, Bool.and_true, Bool.not_true, Bool.not_false, Bool.true_or, Bool.or_true, Bool.false_or, Bool.or_false, reduceCtorEq, Nat.reduceLeDiff, Nat.reduceEqDiff, Nat.reduceLT, Bool.true_eq_false, Bool.false_eq_true, eq_self, fP, fI, fg1, fZ1, nc_n hr, nc_t hr, nc_f hr, nc_lt hr, nc_lf hr, nc_st hr, nc_sf hr, nc_k hr, nc_p hr, e5, e6, e0, c1', c1]; exact rfl))
    · have c1' : (1 < nI lb) = False := (n1lt (by omega)).trans (eq_false c1)
      by_cases c2 : ub < m
      · have c2' : ¬ m ≤ ub := by omega
        (repeat (first | (apply gO_r; focus (simp (disch := omega) only [i10, i01, gO_s, bO_s, lt_e, Sum.elim_inl, Sum.elim_inr, nI_1, nI_add, nle, nlt, neq, neq0, neq1, nlt0, nle0, n0le, n0lt, nlt1, n1le, n7m, pk_mul, l2, l3, l4, l5, l6, l7, l8, l9, l10, l13, l16, l20, l26, l27, l48, l57, l58, l60, l62, l70, l80, l90, l128, l140, l160, l420, l2000, l2001, bI_0, bI_1, bI_zz, bI_t, bI_f, zz_0, zz_1, ↓reduceIte, if_true, if_false, decide_true, decide_false, Bool.false_and, Bool.and_false, Bool.true_and, Bool.and_true, Bool.not_true, Bool.not_false, Bool.true_or, Bool.or_true, Bool.false_or, Bool.or_false, reduceCtorEq, Nat.reduceLeDiff, Nat.reduceEqDiff, Nat.reduceLT, Bool.true_eq_false, Bool.false_eq_true, eq_self, fP, fI, fg1, fZ1, nc_n hr, nc_t hr, nc_f hr, nc_lt hr, nc_lf hr, nc_st hr, nc_sf hr, nc_k hr, nc_p hr, e5, e6, e0, c1', c1, c2, c2']; exact rfl)) | (apply bO_r; focus (simp (disch := omega) only [i10, i01, gO_s, bO_s, lt_e, Sum.elim_inl, Sum.elim_inr, nI_1, nI_add, nle, nlt, neq, neq0, neq1, nlt0, nle0, n0le, n0lt, nlt1, n1le, n7m, pk_mul, l2, l3, l4, l5, l6, l7, l8, l9, l10, l13, l16, l20, l26, l27, l48, l57, l58, l60, l62, l70, l80, l90, l128, l140, l160, l420, l2000, l2001, bI_0, bI_1, bI_zz, bI_t, bI_f, zz_0, zz_1, ↓reduceIte, if_true, if_false, decide_true, decide_false, Bool.false_and, Bool.and_false, Bool.true_and, Bool.and_true, Bool.not_true, Bool.not_false, Bool.true_or, Bool.or_true, Bool.false_or, Bool.or_false, reduceCtorEq, Nat.reduceLeDiff, Nat.reduceEqDiff, Nat.reduceLT, Bool.true_eq_false, Bool.false_eq_true, eq_self, fP, fI, fg1, fZ1, nc_n hr, nc_t hr, nc_f hr, nc_lt hr, nc_lf hr, nc_st hr, nc_sf hr, nc_k hr, nc_p hr, e5, e6, e0, c1', c1, c2, c2']; exact rfl)) | (refine (if_pos ?_).trans ?_; focus (simp (disch := omega) only [i10, i01, gO_s, bO_s, lt_e, Sum.elim_inl, Sum.elim_inr, nI_1, nI_add, nle, nlt, neq, neq0, neq1, nlt0, nle0, n0le, n0lt, nlt1, n1le, n7m, pk_mul, l2, l3, l4, l5, l6, l7, l8, l9, l10, l13, l16, l20, l26, l27, l48, l57, l58, l60, l62, l70, l80, l90, l128, l140, l160, l420, l2000, l2001, bI_0, bI_1, bI_zz, bI_t, bI_f, zz_0, zz_1, ↓reduceIte, if_true, if_false, decide_true, decide_false, Bool.false_and, Bool.and_false, Bool.true_and, Bool.and_true, Bool.not_true, Bool.not_false, Bool.true_or, Bool.or_true, Bool.false_or, Bool.or_false, reduceCtorEq, Nat.reduceLeDiff, Nat.reduceEqDiff, Nat.reduceLT, Bool.true_eq_false, Bool.false_eq_true, eq_self, fP, fI, fg1, fZ1, nc_n hr, nc_t hr, nc_f hr, nc_lt hr, nc_lf hr, nc_st hr, nc_sf hr, nc_k hr, nc_p hr, e5, e6, e0, c1', c1, c2, c2']; done)) | (refine (if_neg ?_).trans ?_; focus (simp (disch := omega) only [i10, i01, gO_s, bO_s, lt_e, Sum.elim_inl, Sum.elim_inr, nI_1, nI_add, nle, nlt, neq, neq0, neq1, nlt0, nle0, n0le, n0lt, nlt1, n1le, n7m, pk_mul, l2, l3, l4, l5, l6, l7, l8, l9, l10, l13, l16, l20, l26, l27, l48, l57, l58, l60, l62, l70, l80, l90, l128, l140, l160, l420, l2000, l2001, bI_0, bI_1, bI_zz, bI_t, bI_f, zz_0, zz_1, ↓reduceIte, if_true, if_false, decide_true, decide_false, Bool.false_and, Bool.and_false, Bool.true_and, Bool.and_true, Bool.not_true, Bool.not_false, Bool.true_or, Bool.or_true, Bool.false_or, Bool.or_false, reduceCtorEq, Nat.reduceLeDiff, Nat.reduceEqDiff, Nat.reduceLT, Bool.true_eq_false, Bool.false_eq_true, eq_self, fP, fI, fg1, fZ1, nc_n hr, nc_t hr, nc_f hr, nc_lt hr, nc_lf hr, nc_st hr, nc_sf hr, nc_k hr, nc_p hr, e5, e6, e0, c1', c1, c2, c2']; exact not_false)) | (rw [lt_e]) | (rw [f_X4_bound]) | (rw [f_X4_bound_b33]) | (rw [f_X4_bound_b38]))) <;> (first | done | exact rfl | (simp (disch := omega) only [i10, i01, gO_s, bO_s, lt_e, Sum.elim_inl, Sum.elim_inr, nI_1, nI_add, nle, nlt, neq, neq0, neq1, nlt0, nle0, n0le, n0lt, nlt1, n1le, n7m, pk_mul, l2, l3, l4, l5, l6, l7, l8, l9, l10, l13, l16, l20, l26, l27, l48, l57, l58, l60, l62, l70, l80, l90, l128, l140, l160, l420, l2000, l2001, bI_0, bI_1, bI_zz, bI_t, bI_f, zz_0, zz_1, ↓reduceIte, if_true, if_false, decide_true, decide_false, Bool.false_and, Bool.and_false, Bool.true_and, Bool.and_true, Bool.not_true, Bool.not_false, Bool.true_or, Bool.or_true, Bool.false_or, Bool.or_false, reduceCtorEq, Nat.reduceLeDiff, Nat.reduceEqDiff, Nat.reduceLT, Bool.true_eq_false, Bool.false_eq_true, eq_self, fP, fI, fg1, fZ1, nc_n hr, nc_t hr, nc_f hr, nc_lt hr, nc_lf hr, nc_st hr, nc_sf hr, nc_k hr, nc_p hr, e5, e6, e0, c1', c1, c2, c2']; done) | (simp (disch := omega) only [i10, i01, gO_s, bO_s, lt_e, Sum.elim_inl, Sum.elim_inr, nI_1, nI_add, nle, nlt, neq, neq0, neq1, nlt0, nle0, n0le, n0lt, nlt1, n1le, n7m, pk_mul, l2, l3, l4, l5, l6, l7, l8, l9, l10, l13, l16, l20, l26, l27, l48, l57, l58, l60, l62, l70, l80, l90, l128, l140, l160, l420, l2000, l2001, bI_0, bI_1, bI_zz, bI_t, bI_f, zz_0, zz_1, ↓reduceIte, if_true, if_false, decide_true, decide_false, Bool.false_and, Bool.and_false, Bool.true_and, Bool.and_true, Bool.not_true, Bool.not_false, Bool.true_or, Bool.or_true, Bool.false_or, Bool.or_false, reduceCtorEq, Nat.reduceLeDiff, Nat.reduceEqDiff, Nat.reduceLT, Bool.true_eq_false, Bool.false_eq_true, eq_self, fP, fI, fg1, fZ1, nc_n hr, nc_t hr, nc_f hr, nc_lt hr, nc_lf hr, nc_st hr, nc_sf hr, nc_k hr, nc_p hr, e5, e6, e0, c1', c1, c2, c2']; exact rfl))
      · have c2' : m ≤ ub := by omega
        (repeat (first | (apply gO_r; focus (simp (disch := omega) only [i10, i01, gO_s, bO_s, lt_e, Sum.elim_inl, Sum.elim_inr, nI_1, nI_add, nle, nlt, neq, neq0, neq1, nlt0, nle0, n0le, n0lt, nlt1, n1le, n7m, pk_mul, l2, l3, l4, l5, l6, l7, l8, l9, l10, l13, l16, l20, l26, l27, l48, l57, l58, l60, l62, l70, l80, l90, l128, l140, l160, l420, l2000, l2001, bI_0, bI_1, bI_zz, bI_t, bI_f, zz_0, zz_1, ↓reduceIte, if_true, if_false, decide_true, decide_false, Bool.false_and, Bool.and_false, Bool.true_and, Bool.and_true, Bool.not_true, Bool.not_false, Bool.true_or, Bool.or_true, Bool.false_or, Bool.or_false, reduceCtorEq, Nat.reduceLeDiff, Nat.reduceEqDiff, Nat.reduceLT, Bool.true_eq_false, Bool.false_eq_true, eq_self, fP, fI, fg1, fZ0, nc_n hr, nc_t hr, nc_f hr, nc_lt hr, nc_lf hr, nc_st hr, nc_sf hr, nc_k hr, nc_p hr, e5, e6, e0, c1', c1, c2, c2']; exact rfl)) | (apply bO_r; focus (simp (disch := omega) only [i10, i01, gO_s, bO_s, lt_e, Sum.elim_inl, Sum.elim_inr, nI_1, nI_add, nle, nlt, neq, neq0, neq1, nlt0, nle0, n0le, n0lt, nlt1, n1le, n7m, pk_mul, l2, l3, l4, l5, l6, l7, l8, l9, l10, l13, l16, l20, l26, l27, l48, l57, l58, l60, l62, l70, l80, l90, l128, l140, l160, l420, l2000, l2001, bI_0, bI_1, bI_zz, bI_t, bI_f, zz_0, zz_1, ↓reduceIte, if_true, if_false, decide_true, decide_false, Bool.false_and, Bool.and_false, Bool.true_and, Bool.and_true, Bool.not_true, Bool.not_false, Bool.true_or, Bool.or_true, Bool.false_or, Bool.or_false, reduceCtorEq, Nat.reduceLeDiff, Nat.reduceEqDiff, Nat.reduceLT, Bool.true_eq_false, Bool.false_eq_true, eq_self, fP, fI, fg1, fZ0, nc_n hr, nc_t hr, nc_f hr, nc_lt hr, nc_lf hr, nc_st hr, nc_sf hr, nc_k hr, nc_p hr, e5, e6, e0, c1', c1, c2, c2']; exact rfl)) | (refine (if_pos ?_).trans ?_; focus (simp (disch := omega) only [i10, i01, gO_s, bO_s, lt_e, Sum.elim_inl, Sum.elim_inr, nI_1, nI_add, nle, nlt, neq, neq0, neq1, nlt0, nle0, n0le, n0lt, nlt1, n1le, n7m, pk_mul, l2, l3, l4, l5, l6, l7, l8, l9, l10, l13, l16, l20, l26, l27, l48, l57, l58, l60, l62, l70, l80, l90, l128, l140, l160, l420, l2000, l2001, bI_0, bI_1, bI_zz, bI_t, bI_f, zz_0, zz_1, ↓reduceIte, if_true, if_false, decide_true, decide_false, Bool.false_and, Bool.and_false, Bool.true_and, Bool.and_true, Bool.not_true, Bool.not_false, Bool.true_or, Bool.or_true, Bool.false_or, Bool.or_false, reduceCtorEq, Nat.reduceLeDiff, Nat.reduceEqDiff, Nat.reduceLT, Bool.true_eq_false, Bool.false_eq_true, eq_self, fP, fI, fg1, fZ0, nc_n hr, nc_t hr, nc_f hr, nc_lt hr, nc_lf hr, nc_st hr, nc_sf hr, nc_k hr, nc_p hr, e5, e6, e0, c1', c1, c2, c2']; done)) | (refine (if_neg ?_).trans ?_; focus (simp (disch := omega) only [i10, i01, gO_s, bO_s, lt_e, Sum.elim_inl, Sum.elim_inr, nI_1, nI_add, nle, nlt, neq, neq0, neq1, nlt0, nle0, n0le, n0lt, nlt1, n1le, n7m, pk_mul, l2, l3, l4, l5, l6, l7, l8, l9, l10, l13, l16, l20, l26, l27, l48, l57, l58, l60, l62, l70, l80, l90, l128, l140, l160, l420, l2000, l2001, bI_0, bI_1, bI_zz, bI_t, bI_f, zz_0, zz_1, ↓reduceIte, if_true, if_false, decide_true, decide_false, Bool.false_and, Bool.and_false, Bool.true_and, Bool.and_true, Bool.not_true, Bool.not_false, Bool.true_or, Bool.or_true, Bool.false_or, Bool.or_false, reduceCtorEq, Nat.reduceLeDiff, Nat.reduceEqDiff, Nat.reduceLT, Bool.true_eq_false, Bool.false_eq_true, eq_self, fP, fI, fg1, fZ0, nc_n hr, nc_t hr, nc_f hr, nc_lt hr, nc_lf hr, nc_st hr, nc_sf hr, nc_k hr, nc_p hr, e5, e6, e0, c1', c1, c2, c2']; exact not_false)) | (rw [lt_e]) | (rw [f_X4_bound]) | (rw [f_X4_bound_b33]) | (rw [f_X4_bound_b38]))) <;> (first | done | exact rfl | (simp (disch := omega) only [i10, i01, gO_s, bO_s, lt_e, Sum.elim_inl, Sum.elim_inr, nI_1, nI_add, nle, nlt, neq, neq0, neq1, nlt0, nle0, n0le, n0lt, nlt1, n1le, n7m, pk_mul, l2, l3, l4, l5, l6, l7, l8, l9, l10, l13, l16, l20, l26, l27, l48, l57, l58, l60, l62, l70, l80, l90, l128, l140, l160, l420, l2000, l2001, bI_0, bI_1, bI_zz, bI_t, bI_f, zz_0, zz_1, ↓reduceIte, if_true, if_false, decide_true, decide_false, Bool.false_and, Bool.and_false, Bool.true_and, Bool.and_true, Bool.not_true, Bool.not_false, Bool.true_or, Bool.or_true, Bool.false_or, Bool.or_false, reduceCtorEq, Nat.reduceLeDiff, Nat.reduceEqDiff, Nat.reduceLT, Bool.true_eq_false, Bool.false_eq_true, eq_self, fP, fI, fg1, fZ0, nc_n hr, nc_t hr, nc_f hr, nc_lt hr, nc_lf hr, nc_st hr, nc_sf hr, nc_k hr, nc_p hr, e5, e6, e0, c1', c1, c2, c2']; done) | (simp (disch := omega) only [i10, i01, gO_s, bO_s, lt_e, Sum.elim_inl, Sum.elim_inr, nI_1, nI_add, nle, nlt, neq, neq0, neq1, nlt0, nle0, n0le, n0lt, nlt1, n1le, n7m, pk_mul, l2, l3, l4, l5, l6, l7, l8, l9, l10, l13, l16, l20, l26, l27, l48, l57, l58, l60, l62, l70, l80, l90, l128, l140, l160, l420, l2000, l2001, bI_0, bI_1, bI_zz, bI_t, bI_f, zz_0, zz_1, ↓reduceIte, if_true, if_false, decide_true, decide_false, Bool.false_and, Bool.and_false, Bool.true_and, Bool.and_true, Bool.not_true, Bool.not_false, Bool.true_or, Bool.or_true, Bool.false_or, Bool.or_false, reduceCtorEq, Nat.reduceLeDiff, Nat.reduceEqDiff, Nat.reduceLT, Bool.true_eq_false, Bool.false_eq_true, eq_self, fP, fI, fg1, fZ0, nc_n hr, nc_t hr, nc_f hr, nc_lt hr, nc_lf hr, nc_st hr, nc_sf hr, nc_k hr, nc_p hr, e5, e6, e0, c1', c1, c2, c2']; exact rfl))
  · intro k hk
    rw [st2_o _ _ hk, st2_o _ _ hk, st2_o _ _ hk]
  · rw [st2_n _ _ (by omega), st2_n _ _ (by omega), st2_s]
  · rw [st2_n _ _ (by omega), st2_s]
  · rw [st2_s]
  · rw [st2_n _ _ (by omega), st2_n _ _ (by omega), st2_n _ _ (by omega)]
  · rw [st2_n _ _ (by omega), st2_n _ _ (by omega), st2_n _ _ (by omega)]
theorem q_freely (g0 h0 : Nat) (hg : isN g) (hh : isN h) (hN : NetC s g n E) (hH : NetC s h m F) (hS : Sup n E) (hS2 : Sup m F) (hn1 : 1 ≤ n) (hn : n ≤ 27) (hm1 : 1 ≤ m) (hm : m ≤ 7) : ∃ s', f_X4_freely 252 g h (s, rC g0 h0) = some ((), (s', rC g h)) ∧ FS s' g h n m E F (bM E F m (fun _ _ => true)) 0 7 false false ∧ FrF s s' := by
  have fg := isN_far hg
  have fh := isN_far hh
  have hH1 : NetC (st2 s 252 8 0) h m F := by
    unfold NetC
    rw [st2_o _ _ (by omega), st2_o _ _ (by omega), st2_o _ _ (by omega)]
    exact hH
  obtain ⟨s1, b1, b2, b3, b4, b5, b6, b7⟩ := q_bound (g := g) hH1 hh hm 0 7 (by omega) (by omega)
  have b5' : s1 252 7 = bI false := by
    rw [b5]
    have e1 : ¬ 7 < m := by omega
    rw [decide_eq_false e1]; rfl
  have b6' : s1 252 8 = bI false := by rw [b6, st2_s]; rfl
  have hf0 : ∀ k, k ≠ 252 → s1 k = s k := fun k hk => (b2 k hk).trans (st2_o _ _ hk)
  have hN1 : NetC s1 g n E := by
    unfold NetC
    rw [hf0 _ (by omega), hf0 _ (by omega), hf0 _ (by omega)]
    exact hN
  have hH2 : NetC s1 h m F := by
    unfold NetC
    rw [hf0 _ (by omega), hf0 _ (by omega), hf0 _ (by omega)]
    exact hH
  have hl := q_loops (g := g) (h := h) hh hH2 (by omega)
  have key := wh_up (f := f_X4_freely_L33 252 (sLoops m F)) n (fun k v σ => v = nI k ∧ ∃ s2, σ = (s2, rC g h) ∧ (∀ j, j ≠ 256 → s2 j = s1 j) ∧ ∀ a, a < k → s2 256 a = bs (bM E F m (fun _ _ => true) a)) (Q := fun _ σ => ∃ s2, σ = (s2, rC g h) ∧ (∀ j, j ≠ 256 → s2 j = s1 j) ∧ ∀ a, a < n → s2 256 a = bs (bM E F m (fun _ _ => true) a)) (by
    rintro k v σ hk ⟨rfl, s2, rfl, hf, hr⟩
    have hk3 : ¬ n ≤ k := by omega
    have hN2 : NetC s2 g n E := by
      unfold NetC
      rw [hf _ (by omega), hf _ (by omega), hf _ (by omega)]
      exact hN1
    have hH3 : NetC s2 h m F := by
      unfold NetC
      rw [hf _ (by omega), hf _ (by omega), hf _ (by omega)]
      exact hH2
    have hj := q_joins (g := g) (h := h) hg hN2 (a := k) (b := k) (by omega) (by omega)
    have ha := q_all (g := g) (h := h) hh hH3 (by omega)
    obtain ⟨j0, j1, j2⟩ := hN2
    have hval : ∀ x, x = bs (bM E F m (fun _ _ => true) k) → (∀ a, a < k + 1 → st2 s2 256 k x 256 a = bs (bM E F m (fun _ _ => true) a)) := by
      intro x hx a ha
      rw [st2_k]
      split
      · rename_i e; rw [e]; exact hx
      · exact hr a (by omega)
    cases e : E k k
    · refine ⟨.inl (nI (k + 1)), (st2 s2 256 k (bs (fun i => decide (i < m))), rC g h), ?_, rfl, _, rfl, fun j hj => (st2_o _ _ hj).trans (hf j hj), hval _ ?_⟩
      · rw [e] at hj
        simp (disch := omega) only [i10, i01, gO_s, bO_s, lt_e, Sum.elim_inl, Sum.elim_inr, nI_1, nI_add, nle, nlt, neq, neq0, neq1, nlt0, nle0, n0le, n0lt, nlt1, n1le, n7m, pk_mul, l2, l3, l4, l5, l6, l7, l8, l9, l10, l13, l16, l20, l26, l27, l48, l57, l58, l60, l62, l70, l80, l90, l128, l140, l160, l420, l2000, l2001, bI_0, bI_1, bI_zz, bI_t, bI_f, zz_0, zz_1, ↓reduceIte, if_true, if_false, decide_true, decide_false, Bool.false_and, Bool.and_false, Bool.true_and, Bool.and_true, Bool.not_true, Bool.not_false, Bool.true_or, Bool.or_true, Bool.false_or, Bool.or_false, reduceCtorEq, Nat.reduceLeDiff, Nat.reduceEqDiff, Nat.reduceLT, Bool.true_eq_false, Bool.false_eq_true, eq_self, f_X4_freely_L33, f_X4_freely_b76, fg0, fg1, fg2, nc_n hg, nc_t hg, nc_f hg, nc_lt hg, nc_lf hg, nc_st hg, nc_sf hg, nc_k hg, nc_p hg, nc_n hh, nc_t hh, nc_f hh, nc_lt hh, nc_lf hh, nc_st hh, nc_sf hh, nc_k hh, nc_p hh, j0, hk3, hj, ha, fs6]
      · apply bs_congr
        intro i _
        unfold bM
        rw [e, if_neg Bool.false_ne_true, Bool.and_true]
    · refine ⟨.inl (nI (k + 1)), (st2 s2 256 k (sLoops m F), rC g h), ?_, rfl, _, rfl, fun j hj => (st2_o _ _ hj).trans (hf j hj), hval _ ?_⟩
      · rw [e] at hj
        simp (disch := omega) only [i10, i01, gO_s, bO_s, lt_e, Sum.elim_inl, Sum.elim_inr, nI_1, nI_add, nle, nlt, neq, neq0, neq1, nlt0, nle0, n0le, n0lt, nlt1, n1le, n7m, pk_mul, l2, l3, l4, l5, l6, l7, l8, l9, l10, l13, l16, l20, l26, l27, l48, l57, l58, l60, l62, l70, l80, l90, l128, l140, l160, l420, l2000, l2001, bI_0, bI_1, bI_zz, bI_t, bI_f, zz_0, zz_1, ↓reduceIte, if_true, if_false, decide_true, decide_false, Bool.false_and, Bool.and_false, Bool.true_and, Bool.and_true, Bool.not_true, Bool.not_false, Bool.true_or, Bool.or_true, Bool.false_or, Bool.or_false, reduceCtorEq, Nat.reduceLeDiff, Nat.reduceEqDiff, Nat.reduceLT, Bool.true_eq_false, Bool.false_eq_true, eq_self, f_X4_freely_L33, f_X4_freely_b76, fg0, fg1, fg2, nc_n hg, nc_t hg, nc_f hg, nc_lt hg, nc_lf hg, nc_st hg, nc_sf hg, nc_k hg, nc_p hg, nc_n hh, nc_t hh, nc_f hh, nc_lt hh, nc_lf hh, nc_st hh, nc_sf hh, nc_k hh, nc_p hh, j0, hk3, hj, ha, fs6]
      · rw [sLoops_bs hS2 (by omega)]
        apply bs_congr
        intro i _
        unfold bM
        rw [e, if_pos rfl, Bool.and_true]) (by
    rintro v σ ⟨rfl, s2, rfl, hf, hr⟩
    have hN2 : NetC s2 g n E := by
      unfold NetC
      rw [hf _ (by omega), hf _ (by omega), hf _ (by omega)]
      exact hN1
    obtain ⟨j0, j1, j2⟩ := hN2
    refine ⟨(), (s2, rC g h), ?_, s2, rfl, hf, hr⟩
    simp (disch := omega) only [i10, i01, gO_s, bO_s, lt_e, Sum.elim_inl, Sum.elim_inr, nI_1, nI_add, nle, nlt, neq, neq0, neq1, nlt0, nle0, n0le, n0lt, nlt1, n1le, n7m, pk_mul, l2, l3, l4, l5, l6, l7, l8, l9, l10, l13, l16, l20, l26, l27, l48, l57, l58, l60, l62, l70, l80, l90, l128, l140, l160, l420, l2000, l2001, bI_0, bI_1, bI_zz, bI_t, bI_f, zz_0, zz_1, ↓reduceIte, if_true, if_false, decide_true, decide_false, Bool.false_and, Bool.and_false, Bool.true_and, Bool.and_true, Bool.not_true, Bool.not_false, Bool.true_or, Bool.or_true, Bool.false_or, Bool.or_false, reduceCtorEq, Nat.reduceLeDiff, Nat.reduceEqDiff, Nat.reduceLT, Bool.true_eq_false, Bool.false_eq_true, eq_self, f_X4_freely_L33, fg0, nc_n hg, nc_t hg, nc_f hg, nc_lt hg, nc_lf hg, nc_st hg, nc_sf hg, nc_k hg, nc_p hg, j0, Nat.le_refl]) (k := 0) (v := 0) (σ := (s1, rC g h)) (by omega) ⟨rfl, s1, rfl, fun _ _ => rfl, fun _ h => by omega⟩
  obtain ⟨x, σ', r1, s2, rfl, hf, hr⟩ := key
  refine ⟨s2, ?_, ⟨⟨hg, hh, ?_, ?_⟩, ⟨hS, hS2, hn1, hn, hm1, hm⟩, ⟨hr, fun a x _ hx => bM_m hS2 hx⟩, ?_, ?_, ?_, ?_, by omega, by omega⟩, ?_⟩
  · have b1' : f_X4_bound 252 0 7 (st2 s 252 8 0, rC g h) = some ((), (s1, rC g h)) := b1
    rw [f_X4_freely, fR0]
    refine gO_r rfl ?_
    rw [fR1]
    refine gO_r rfl ?_
    rw [fZ0]
    refine gO_r rfl ?_
    refine gO_r fK ?_
    refine bO_r b1' ?_
    refine gO_r fg1 ?_
    refine gO_r (nc_k hh) ?_
    refine bO_r hl ?_
    exact bO_r r1 rfl
  · unfold NetC
    rw [hf _ (by omega), hf _ (by omega), hf _ (by omega)]
    exact hN1
  · unfold NetC
    rw [hf _ (by omega), hf _ (by omega), hf _ (by omega)]
    exact hH2
  · rw [hf _ (by omega)]; exact b3
  · rw [hf _ (by omega)]; exact b4
  · rw [hf _ (by omega)]; exact b5'
  · rw [hf _ (by omega)]; exact b6'
  · intro k h1 h2 _
    rw [hf k h2, hf0 k h1]
theorem q_byLists (g0 h0 : Nat) (hg : isN g) (hh : isN h) (hN : NetC s g n E) (hH : NetC s h m F) (hS : Sup n E) (hS2 : Sup m F) (hn1 : 1 ≤ n) (hn : n ≤ 7) (hm1 : 1 ≤ m) (hm : m ≤ 7) {L : Nat → Int32} (hL : ∀ a, a < 7 → s 3 a = L a) : ∃ s', f_X4_byLists 252 g h 3 (s, rC g0 h0) = some ((), (s', rC g h)) ∧ FS s' g h n m E F (bM E F m (fun a => bt (L a))) 0 7 false false ∧ FrF s s' := by
  obtain ⟨s1, r1, hF1, hf1⟩ := q_freely g0 h0 hg hh hN hH hS hS2 hn1 (by omega) hm1 hm
  have fg := isN_far hg
  have fh := isN_far hh
  obtain ⟨⟨p1, p2, p3, p4⟩, q, ⟨w1, w2⟩, u⟩ := hF1
  have hlen : alen shC 0 3 = some (nI 7) := al_ok (by decide +kernel)
  have key := wh_up (f := f_X4_byLists_L9 252 3) n (fun k v σ => v = nI k ∧ ∃ s2, σ = (s2, rC g h) ∧ (∀ j, j ≠ 256 → s2 j = s1 j) ∧ (∀ a, a < k → s2 256 a = bs (bM E F m (fun a => bt (L a)) a)) ∧ ∀ a, k ≤ a → a < n → s2 256 a = bs (bM E F m (fun _ _ => true) a)) (Q := fun _ σ => ∃ s2, σ = (s2, rC g h) ∧ (∀ j, j ≠ 256 → s2 j = s1 j) ∧ ∀ a, a < n → s2 256 a = bs (bM E F m (fun a => bt (L a)) a)) (by
    rintro k v σ hk ⟨rfl, s2, rfl, hf, hr, hr2⟩
    have hk3 : ¬ n ≤ k := by omega
    have hk4 : ¬ 7 ≤ k := by omega
    have j0 : s2 g 0 = nI n := by rw [hf _ (by omega)]; exact p3.1
    have j3 : s2 3 k = L k := by rw [hf _ (by omega), hf1 3 (by omega) (by omega) (by omega)]; exact hL k (by omega)
    have j6 := hr2 k (Nat.le_refl k) hk
    refine ⟨.inl (nI (k + 1)), (st2 s2 256 k (bs (bM E F m (fun _ _ => true) k) &&& L k), rC g h), ?_, rfl, _, rfl, fun j hj => (st2_o _ _ hj).trans (hf j hj), ?_, ?_⟩
    · simp (disch := omega) only [i10, i01, gO_s, bO_s, lt_e, Sum.elim_inl, Sum.elim_inr, nI_1, nI_add, nle, nlt, neq, neq0, neq1, nlt0, nle0, n0le, n0lt, nlt1, n1le, n7m, pk_mul, l2, l3, l4, l5, l6, l7, l8, l9, l10, l13, l16, l20, l26, l27, l48, l57, l58, l60, l62, l70, l80, l90, l128, l140, l160, l420, l2000, l2001, bI_0, bI_1, bI_zz, bI_t, bI_f, zz_0, zz_1, ↓reduceIte, if_true, if_false, decide_true, decide_false, Bool.false_and, Bool.and_false, Bool.true_and, Bool.and_true, Bool.not_true, Bool.not_false, Bool.true_or, Bool.or_true, Bool.false_or, Bool.or_false, reduceCtorEq, Nat.reduceLeDiff, Nat.reduceEqDiff, Nat.reduceLT, Bool.true_eq_false, Bool.false_eq_true, eq_self, f_X4_byLists_L9, fg0, fg2, nc_n hg, nc_t hg, nc_f hg, nc_lt hg, nc_lf hg, nc_st hg, nc_sf hg, nc_k hg, nc_p hg, j0, hk3, hk4, hlen, fl6, ca3, j3, j6, fs6]
    · intro a ha
      rw [st2_k]
      split
      · rename_i e
        rw [e]
        apply bs_ext
        intro i hi
        rw [b_and, bt_bs _ hi]
        unfold bM
        rw [Bool.and_true]
      · exact hr a (by omega)
    · intro a ha ha2
      rw [st2_n _ _ (by omega)]
      exact hr2 a (by omega) ha2) (by
    rintro v σ ⟨rfl, s2, rfl, hf, hr, _⟩
    have j0 : s2 g 0 = nI n := by rw [hf _ (by omega)]; exact p3.1
    refine ⟨(), (s2, rC g h), ?_, s2, rfl, hf, hr⟩
    simp (disch := omega) only [i10, i01, gO_s, bO_s, lt_e, Sum.elim_inl, Sum.elim_inr, nI_1, nI_add, nle, nlt, neq, neq0, neq1, nlt0, nle0, n0le, n0lt, nlt1, n1le, n7m, pk_mul, l2, l3, l4, l5, l6, l7, l8, l9, l10, l13, l16, l20, l26, l27, l48, l57, l58, l60, l62, l70, l80, l90, l128, l140, l160, l420, l2000, l2001, bI_0, bI_1, bI_zz, bI_t, bI_f, zz_0, zz_1, ↓reduceIte, if_true, if_false, decide_true, decide_false, Bool.false_and, Bool.and_false, Bool.true_and, Bool.and_true, Bool.not_true, Bool.not_false, Bool.true_or, Bool.or_true, Bool.false_or, Bool.or_false, reduceCtorEq, Nat.reduceLeDiff, Nat.reduceEqDiff, Nat.reduceLT, Bool.true_eq_false, Bool.false_eq_true, eq_self, f_X4_byLists_L9, fg0, nc_n hg, nc_t hg, nc_f hg, nc_lt hg, nc_lf hg, nc_st hg, nc_sf hg, nc_k hg, nc_p hg, j0, Nat.le_refl]) (k := 0) (v := 0) (σ := (s1, rC g h)) (by omega) ⟨rfl, s1, rfl, fun _ _ => rfl, fun _ h => by omega, fun a _ h2 => w1 a h2⟩
  obtain ⟨x, σ', r2, s2, rfl, hf, hr⟩ := key
  refine ⟨s2, ?_, ⟨⟨hg, hh, ?_, ?_⟩, q, ⟨hr, fun a x _ hx => bM_m hS2 hx⟩, ?_⟩, ?_⟩
  · rw [f_X4_byLists]
    refine gO_r fK ?_
    refine bO_r r1 ?_
    exact bO_r r2 rfl
  · unfold NetC
    rw [hf _ (by omega), hf _ (by omega), hf _ (by omega)]
    exact p3
  · unfold NetC
    rw [hf _ (by omega), hf _ (by omega), hf _ (by omega)]
    exact p4
  · rw [hf _ (by omega)]; exact u
  · intro k h1 h2 h3
    rw [hf k h2, hf1 k h1 h2 h3]
theorem q_byRet (g0 h0 : Nat) (hg : isN g) (hN : NetC s g n E) (hS : Sup n E) (hn1 : 1 ≤ n) (hn : n ≤ 7) : ∃ s', f_X4_byRetraction 252 g (s, rC g0 h0) = some ((), (s', rC g g)) ∧ FS s' g g n n E E (bM E E n (fun _ _ => true)) 0 7 false true ∧ FrF s s' := by
  obtain ⟨s1, r1, hF1, hf1⟩ := q_freely g0 h0 hg hg hN hN hS hS hn1 (by omega) hn1 hn
  have fg := isN_far hg
  obtain ⟨⟨p1, p2, p3, p4⟩, q, ⟨w1, w2⟩, u1, u2, u3, u4, u5⟩ := hF1
  refine ⟨st2 s1 252 8 1, ?_, ⟨⟨hg, hg, ?_, ?_⟩, q, ⟨?_, w2⟩, ?_, ?_, ?_, ?_, u5⟩, ?_⟩
  · rw [f_X4_byRetraction]
    refine gO_r fK ?_
    refine bO_r r1 ?_
    exact gO_r (fZ1 8) rfl
  · unfold NetC
    rw [st2_o _ _ (by omega), st2_o _ _ (by omega), st2_o _ _ (by omega)]
    exact p3
  · unfold NetC
    rw [st2_o _ _ (by omega), st2_o _ _ (by omega), st2_o _ _ (by omega)]
    exact p3
  · rw [st2_o _ _ (by omega)]; exact w1
  · rw [st2_n _ _ (by omega)]; exact u1
  · rw [st2_n _ _ (by omega)]; exact u2
  · rw [st2_n _ _ (by omega)]; exact u3
  · rw [st2_s]; rfl
  · intro k h1 h2 h3
    rw [st2_o _ _ h1, hf1 k h1 h2 h3]
/-- bounds set anew -/
theorem q_bound2 (hF : FS s g h n m E F M lb ub bnd ret) (l u : Nat) (hl : l ≤ 7) (hu : u ≤ 7) : ∃ s', f_X4_bound 252 (nI l) (nI u) (s, rC g h) = some ((), (s', rC g h)) ∧ FS s' g h n m E F M l u (decide (1 < l) || decide (u < m)) ret ∧ FrF s s' ∧ (∀ k, k ≠ 252 → s' k = s k) := by
  obtain ⟨⟨p1, p2, p3, p4⟩, q, ⟨w1, w2⟩, u1, u2, u3, u4, u5⟩ := hF
  have fg := isN_far p1
  have fh := isN_far p2
  obtain ⟨s1, b1, b2, b3, b4, b5, b6, b7⟩ := q_bound (g := g) p4 p2 q.2.2.2.2.2 l u hl hu
  refine ⟨s1, b1, ⟨⟨p1, p2, ?_, ?_⟩, q, ⟨?_, w2⟩, b3, b4, b5, ?_, hl, hu⟩, fun k h1 _ _ => b2 k h1, b2⟩
  · unfold NetC
    rw [b2 _ (by omega), b2 _ (by omega), b2 _ (by omega)]
    exact p3
  · unfold NetC
    rw [b2 _ (by omega), b2 _ (by omega), b2 _ (by omega)]
    exact p4
  · rw [b2 _ (by omega)]; exact w1
  · rw [b6]; exact u4
/-- one row of what may be, narrowed -/
def Mn (M : Nat → Nat → Bool) (a : Nat) (p : Nat → Bool) (b x : Nat) : Bool := if b = a then M a x && p x else M b x
theorem Mn_e {M : Nat → Nat → Bool} {a : Nat} {p : Nat → Bool} {b x : Nat} (e : b = a) : Mn M a p b x = (M a x && p x) := if_pos e
theorem Mn_n {M : Nat → Nat → Bool} {a : Nat} {p : Nat → Bool} {b x : Nat} (e : ¬ b = a) : Mn M a p b x = M b x := if_neg e
theorem q_may (hF : FS s g h n m E F M lb ub bnd ret) {a : Nat} (ha : a < n) (p : Nat → Bool) : FS (st2 s 256 a (bs (fun x => M a x && p x))) g h n m E F (Mn M a p) lb ub bnd ret ∧ FrF s (st2 s 256 a (bs (fun x => M a x && p x))) := by
  obtain ⟨⟨p1, p2, p3, p4⟩, q, ⟨w1, w2⟩, u1, u2, u3, u4, u5⟩ := hF
  have fg := isN_far p1
  have fh := isN_far p2
  refine ⟨⟨⟨p1, p2, ?_, ?_⟩, q, ⟨?_, ?_⟩, ?_, ?_, ?_, ?_, u5⟩, fun k _ h2 _ => st2_o _ _ h2⟩
  · unfold NetC
    rw [st2_o _ _ (by omega), st2_o _ _ (by omega), st2_o _ _ (by omega)]
    exact p3
  · unfold NetC
    rw [st2_o _ _ (by omega), st2_o _ _ (by omega), st2_o _ _ (by omega)]
    exact p4
  · intro b hb
    rw [st2_k]
    by_cases e : b = a
    · rw [if_pos e]
      apply bs_congr
      intro i _
      rw [Mn_e e]
    · rw [if_neg e, w1 b hb]
      apply bs_congr
      intro i _
      rw [Mn_n e]
  · intro b x hb hx
    by_cases e : b = a
    · rw [Mn_e e, Bool.and_eq_true] at hx
      exact w2 a x ha hx.1
    · rw [Mn_n e] at hx
      exact w2 b x hb hx
  · rw [st2_o _ _ (by omega)]; exact u1
  · rw [st2_o _ _ (by omega)]; exact u2
  · rw [st2_o _ _ (by omega)]; exact u3
  · rw [st2_o _ _ (by omega)]; exact u4
end CSET
