/-! the crowd: places of codes -/
section DIGITS
variable {s t s' t' : Nat → Nat → Int32} {g h n m lb ub : Nat} {E F M : Nat → Nat → Bool} {Y : List (Nat → Nat)}
theorem kd_inj {f f2 : Nat → Nat} : ∀ {k : Nat}, (∀ b, b < k → f b < 8) → (∀ b, b < k → f2 b < 8) → kd f k = kd f2 k → ∀ b, b < k → f b = f2 b := by
  intro k
  induction k with
  | zero => intro _ _ _ b hb; omega
  | succ k ih =>
    intro h1 h2 h3 b hb
    have e1 : 8 * kd f k + f k = 8 * kd f2 k + f2 k := h3
    have x1 := h1 k (by omega)
    have x2 := h2 k (by omega)
    by_cases c : b = k
    · rw [c]; omega
    · exact ih (fun b hb => h1 b (by omega)) (fun b hb => h2 b (by omega)) (by omega) b (by omega)
/-- one node of a map set anew -/
def setF (f : Nat → Nat) (a v : Nat) : Nat → Nat := fun b => if b = a then v else f b
theorem kd_set {f : Nat → Nat} {a v : Nat} : ∀ {k : Nat}, a < k → kd (setF f a v) k + f a * 8 ^ (k - 1 - a) = kd f k + v * 8 ^ (k - 1 - a) := by
  intro k
  induction k with
  | zero => intro h; omega
  | succ k ih =>
    intro h
    rw [kd, kd]
    by_cases c : a = k
    · subst c
      have e1 : kd (setF f a v) a = kd f a := kd_c (fun b hb => if_neg (by omega))
      have e2 : setF f a v a = v := if_pos rfl
      have e3 : a + 1 - 1 - a = 0 := by omega
      rw [e1, e2, e3, Nat.pow_zero]
      omega
    · have e2 : setF f a v k = f k := if_neg (fun e => c e.symm)
      have e3 : k + 1 - 1 - a = (k - 1 - a) + 1 := by omega
      have h1 := ih (by omega)
      have e4 : f a * 8 ^ (k - 1 - a + 1) = 8 * (f a * 8 ^ (k - 1 - a)) := by rw [Nat.pow_succ, ← Nat.mul_assoc, Nat.mul_comm]
      have e5 : v * 8 ^ (k - 1 - a + 1) = 8 * (v * 8 ^ (k - 1 - a)) := by rw [Nat.pow_succ, ← Nat.mul_assoc, Nat.mul_comm]
      rw [e2, e3, e4, e5]
      omega
theorem kd_dig {f : Nat → Nat} : ∀ {k p : Nat}, (∀ b, b < k → f b < 8) → p < k → kd f k / 8 ^ p % 8 = f (k - 1 - p) := by
  intro k
  induction k with
  | zero => intro p _ h; omega
  | succ k ih =>
    intro p hf hp
    have hk := hf k (by omega)
    cases p with
    | zero =>
      rw [Nat.pow_zero, Nat.div_one, show k + 1 - 1 - 0 = k by omega]
      show (8 * kd f k + f k) % 8 = f k
      omega
    | succ p =>
      have h1 := ih (p := p) (fun b hb => hf b (by omega)) (by omega)
      rw [show k + 1 - 1 - (p + 1) = k - 1 - p by omega, ← h1, Nat.pow_succ, Nat.mul_comm, ← Nat.div_div_eq_div_mul]
      show (8 * kd f k + f k) / 8 / 8 ^ p % 8 = _
      rw [show (8 * kd f k + f k) / 8 = kd f k by omega]
theorem bt_n {c i : Nat} (hi : i < 32) : bt (nI c) i = c.testBit i := by
  show (BitVec.ofNat 32 c).getLsbD i = _
  rw [BitVec.getLsbD_ofNat, decide_eq_true hi, Bool.true_and]
theorem sar_n {c k : Nat} (hc : c < 2147483648) (hk : k < 32) : nI c >>> (nI k &&& 31) = nI (c / 2 ^ k) := by
  apply b_ext
  intro i hi
  rw [b_sshr k hk _ hi, bt_n hi, Nat.testBit_div_two_pow]
  split
  · rename_i h
    rw [bt_n h, Nat.add_comm]
  · rename_i h
    rw [bt_n (by omega), Nat.testBit_lt_two_pow (show c < 2 ^ 31 from hc), Nat.testBit_lt_two_pow]
    exact Nat.lt_of_lt_of_le (show c < 2 ^ 31 from hc) (Nat.pow_le_pow_right (by omega) (by omega))
theorem dig_c {c p : Nat} (hc : c < 2147483648) (hp : p < 7) : (nI c >>> ((nI (3 * p)) &&& 31)) &&& nI 7 = nI (c / 8 ^ p % 8) := by
  rw [sar_n hc (by omega), nx_and, show (7 : Nat) = 2 ^ 3 - 1 from rfl, Nat.and_two_pow_sub_one_eq_mod, Nat.pow_mul]
theorem set_c : ∀ p, p < 7 → ∀ v, v < 8 → ∀ d, d < 8 → (nI v - nI d) <<< (nI (3 * p) &&& 31) = nI (v * 8 ^ p) - nI (d * 8 ^ p) := by decide +kernel
theorem sub_c {c c2 x y : Nat} (h : c2 + y = c + x) : nI c + (nI x - nI y) = nI c2 := by
  have e : nI c2 + nI y = nI c + nI x := by rw [nI_add, nI_add, h]
  rw [Int32.sub_eq_add_neg, ← Int32.add_assoc, ← e, Int32.add_assoc, ← Int32.sub_eq_add_neg, Int32.sub_self, Int32.add_zero]
theorem q_index {kc : Nat → Nat} {N X : Nat} (hN : N ≤ 2000) (h0 : s 263 0 = nI N) (hk : ∀ i, i < N → s 264 i = nI (kc i) ∧ kc i < 2147483648) (hX : X < 2147483648) (hmo : ∀ i j, i < j → j < N → kc i < kc j) : (∃ j, j < N ∧ kc j = X ∧ f_X0_indexOf 263 (nI X) (s, rC g h) = some (nI j, (s, rC g h))) ∨ ((∀ j, j < N → kc j ≠ X) ∧ f_X0_indexOf 263 (nI X) (s, rC g h) = some (-1, (s, rC g h))) := by
  obtain ⟨T, hT, hp⟩ := thr (X := X) N hmo
  have r := q_indexL (g := g) (h := h) hN h0 hk hX hT hp
  have m1 : (-1 : Int32) < 0 := by decide
  cases T with
  | zero =>
    right
    have e : nI 0 - 1 = -1 := rfl
    rw [e] at r
    refine ⟨fun j hj e2 => ?_, ?_⟩
    · have := (hp j hj).1 (by omega); omega
    · (repeat (first | (with_reducible apply gO_r; focus (simp (disch := omega) only [i10, i01, gO_s, bO_s, lt_e, Sum.elim_inl, Sum.elim_inr, nI_1, nI_add, nle, nlt, neq, neq0, neq1, nlt0, nle0, n0le, n0lt, nlt1, n1le, n7m, pk_mul, l2, l3, l4, l5, l6, l7, l8, l9, l10, l13, l16, l20, l26, l27, l32, l48, l57, l58, l60, l62, l70, l80, l90, l128, l140, l160, l420, l2000, l2001, bI_0, bI_1, bI_zz, bI_t, bI_f, zz_0, zz_1, ↓reduceIte, if_true, if_false, decide_true, decide_false, Bool.false_and, Bool.and_false, Bool.true_and, Bool.and_true, Bool.not_true, Bool.not_false, Bool.true_or, Bool.or_true, Bool.false_or, Bool.or_false, reduceCtorEq, Nat.reduceLeDiff, Nat.reduceEqDiff, Nat.reduceLT, Bool.true_eq_false, Bool.false_eq_true, eq_self, r, m1]; exact rfl)) | (with_reducible apply bO_r; focus (simp (disch := omega) only [i10, i01, gO_s, bO_s, lt_e, Sum.elim_inl, Sum.elim_inr, nI_1, nI_add, nle, nlt, neq, neq0, neq1, nlt0, nle0, n0le, n0lt, nlt1, n1le, n7m, pk_mul, l2, l3, l4, l5, l6, l7, l8, l9, l10, l13, l16, l20, l26, l27, l32, l48, l57, l58, l60, l62, l70, l80, l90, l128, l140, l160, l420, l2000, l2001, bI_0, bI_1, bI_zz, bI_t, bI_f, zz_0, zz_1, ↓reduceIte, if_true, if_false, decide_true, decide_false, Bool.false_and, Bool.and_false, Bool.true_and, Bool.and_true, Bool.not_true, Bool.not_false, Bool.true_or, Bool.or_true, Bool.false_or, Bool.or_false, reduceCtorEq, Nat.reduceLeDiff, Nat.reduceEqDiff, Nat.reduceLT, Bool.true_eq_false, Bool.false_eq_true, eq_self, r, m1]; exact rfl)) | (with_reducible refine (if_pos ?_).trans ?_; focus (simp (disch := omega) only [i10, i01, gO_s, bO_s, lt_e, Sum.elim_inl, Sum.elim_inr, nI_1, nI_add, nle, nlt, neq, neq0, neq1, nlt0, nle0, n0le, n0lt, nlt1, n1le, n7m, pk_mul, l2, l3, l4, l5, l6, l7, l8, l9, l10, l13, l16, l20, l26, l27, l32, l48, l57, l58, l60, l62, l70, l80, l90, l128, l140, l160, l420, l2000, l2001, bI_0, bI_1, bI_zz, bI_t, bI_f, zz_0, zz_1, ↓reduceIte, if_true, if_false, decide_true, decide_false, Bool.false_and, Bool.and_false, Bool.true_and, Bool.and_true, Bool.not_true, Bool.not_false, Bool.true_or, Bool.or_true, Bool.false_or, Bool.or_false, reduceCtorEq, Nat.reduceLeDiff, Nat.reduceEqDiff, Nat.reduceLT, Bool.true_eq_false, Bool.false_eq_true, eq_self, r, m1]; done)) | (with_reducible refine (if_neg ?_).trans ?_; focus (simp (disch := omega) only [i10, i01, gO_s, bO_s, lt_e, Sum.elim_inl, Sum.elim_inr, nI_1, nI_add, nle, nlt, neq, neq0, neq1, nlt0, nle0, n0le, n0lt, nlt1, n1le, n7m, pk_mul, l2, l3, l4, l5, l6, l7, l8, l9, l10, l13, l16, l20, l26, l27, l32, l48, l57, l58, l60, l62, l70, l80, l90, l128, l140, l160, l420, l2000, l2001, bI_0, bI_1, bI_zz, bI_t, bI_f, zz_0, zz_1, ↓reduceIte, if_true, if_false, decide_true, decide_false, Bool.false_and, Bool.and_false, Bool.true_and, Bool.and_true, Bool.not_true, Bool.not_false, Bool.true_or, Bool.or_true, Bool.false_or, Bool.or_false, reduceCtorEq, Nat.reduceLeDiff, Nat.reduceEqDiff, Nat.reduceLT, Bool.true_eq_false, Bool.false_eq_true, eq_self, r, m1]; exact not_false)) | (rw [lt_e]) | (rw [Sum.elim_inl]) | (rw [Sum.elim_inr]) | (rw [f_X0_indexOf]) | (rw [f_X0_indexOf_b61]) | (rw [f_X0_indexOf_b62]))) <;> (first | done | exact rfl | (simp (disch := omega) only [i10, i01, gO_s, bO_s, lt_e, Sum.elim_inl, Sum.elim_inr, nI_1, nI_add, nle, nlt, neq, neq0, neq1, nlt0, nle0, n0le, n0lt, nlt1, n1le, n7m, pk_mul, l2, l3, l4, l5, l6, l7, l8, l9, l10, l13, l16, l20, l26, l27, l32, l48, l57, l58, l60, l62, l70, l80, l90, l128, l140, l160, l420, l2000, l2001, bI_0, bI_1, bI_zz, bI_t, bI_f, zz_0, zz_1, ↓reduceIte, if_true, if_false, decide_true, decide_false, Bool.false_and, Bool.and_false, Bool.true_and, Bool.and_true, Bool.not_true, Bool.not_false, Bool.true_or, Bool.or_true, Bool.false_or, Bool.or_false, reduceCtorEq, Nat.reduceLeDiff, Nat.reduceEqDiff, Nat.reduceLT, Bool.true_eq_false, Bool.false_eq_true, eq_self, r, m1]; done) | (simp (disch := omega) only [i10, i01, gO_s, bO_s, lt_e, Sum.elim_inl, Sum.elim_inr, nI_1, nI_add, nle, nlt, neq, neq0, neq1, nlt0, nle0, n0le, n0lt, nlt1, n1le, n7m, pk_mul, l2, l3, l4, l5, l6, l7, l8, l9, l10, l13, l16, l20, l26, l27, l32, l48, l57, l58, l60, l62, l70, l80, l90, l128, l140, l160, l420, l2000, l2001, bI_0, bI_1, bI_zz, bI_t, bI_f, zz_0, zz_1, ↓reduceIte, if_true, if_false, decide_true, decide_false, Bool.false_and, Bool.and_false, Bool.true_and, Bool.and_true, Bool.not_true, Bool.not_false, Bool.true_or, Bool.or_true, Bool.false_or, Bool.or_false, reduceCtorEq, Nat.reduceLeDiff, Nat.reduceEqDiff, Nat.reduceLT, Bool.true_eq_false, Bool.false_eq_true, eq_self, r, m1]; exact rfl))
  | succ T =>
    rw [sub1] at r
    have i4 := (hk T (by omega)).1
    have i5 := (hk T (by omega)).2
    have hle := (hp T (by omega)).2 (by omega)
    by_cases c : kc T = X
    · left
      refine ⟨T, by omega, c, ?_⟩
      (repeat (first | (with_reducible apply gO_r; focus (simp (disch := omega) only [i10, i01, gO_s, bO_s, lt_e, Sum.elim_inl, Sum.elim_inr, nI_1, nI_add, nle, nlt, neq, neq0, neq1, nlt0, nle0, n0le, n0lt, nlt1, n1le, n7m, pk_mul, l2, l3, l4, l5, l6, l7, l8, l9, l10, l13, l16, l20, l26, l27, l32, l48, l57, l58, l60, l62, l70, l80, l90, l128, l140, l160, l420, l2000, l2001, bI_0, bI_1, bI_zz, bI_t, bI_f, zz_0, zz_1, ↓reduceIte, if_true, if_false, decide_true, decide_false, Bool.false_and, Bool.and_false, Bool.true_and, Bool.and_true, Bool.not_true, Bool.not_false, Bool.true_or, Bool.or_true, Bool.false_or, Bool.or_false, reduceCtorEq, Nat.reduceLeDiff, Nat.reduceEqDiff, Nat.reduceLT, Bool.true_eq_false, Bool.false_eq_true, eq_self, r, zg3, zl4, i4, c]; exact rfl)) | (with_reducible apply bO_r; focus (simp (disch := omega) only [i10, i01, gO_s, bO_s, lt_e, Sum.elim_inl, Sum.elim_inr, nI_1, nI_add, nle, nlt, neq, neq0, neq1, nlt0, nle0, n0le, n0lt, nlt1, n1le, n7m, pk_mul, l2, l3, l4, l5, l6, l7, l8, l9, l10, l13, l16, l20, l26, l27, l32, l48, l57, l58, l60, l62, l70, l80, l90, l128, l140, l160, l420, l2000, l2001, bI_0, bI_1, bI_zz, bI_t, bI_f, zz_0, zz_1, ↓reduceIte, if_true, if_false, decide_true, decide_false, Bool.false_and, Bool.and_false, Bool.true_and, Bool.and_true, Bool.not_true, Bool.not_false, Bool.true_or, Bool.or_true, Bool.false_or, Bool.or_false, reduceCtorEq, Nat.reduceLeDiff, Nat.reduceEqDiff, Nat.reduceLT, Bool.true_eq_false, Bool.false_eq_true, eq_self, r, zg3, zl4, i4, c]; exact rfl)) | (with_reducible refine (if_pos ?_).trans ?_; focus (simp (disch := omega) only [i10, i01, gO_s, bO_s, lt_e, Sum.elim_inl, Sum.elim_inr, nI_1, nI_add, nle, nlt, neq, neq0, neq1, nlt0, nle0, n0le, n0lt, nlt1, n1le, n7m, pk_mul, l2, l3, l4, l5, l6, l7, l8, l9, l10, l13, l16, l20, l26, l27, l32, l48, l57, l58, l60, l62, l70, l80, l90, l128, l140, l160, l420, l2000, l2001, bI_0, bI_1, bI_zz, bI_t, bI_f, zz_0, zz_1, ↓reduceIte, if_true, if_false, decide_true, decide_false, Bool.false_and, Bool.and_false, Bool.true_and, Bool.and_true, Bool.not_true, Bool.not_false, Bool.true_or, Bool.or_true, Bool.false_or, Bool.or_false, reduceCtorEq, Nat.reduceLeDiff, Nat.reduceEqDiff, Nat.reduceLT, Bool.true_eq_false, Bool.false_eq_true, eq_self, r, zg3, zl4, i4, c]; done)) | (with_reducible refine (if_neg ?_).trans ?_; focus (simp (disch := omega) only [i10, i01, gO_s, bO_s, lt_e, Sum.elim_inl, Sum.elim_inr, nI_1, nI_add, nle, nlt, neq, neq0, neq1, nlt0, nle0, n0le, n0lt, nlt1, n1le, n7m, pk_mul, l2, l3, l4, l5, l6, l7, l8, l9, l10, l13, l16, l20, l26, l27, l32, l48, l57, l58, l60, l62, l70, l80, l90, l128, l140, l160, l420, l2000, l2001, bI_0, bI_1, bI_zz, bI_t, bI_f, zz_0, zz_1, ↓reduceIte, if_true, if_false, decide_true, decide_false, Bool.false_and, Bool.and_false, Bool.true_and, Bool.and_true, Bool.not_true, Bool.not_false, Bool.true_or, Bool.or_true, Bool.false_or, Bool.or_false, reduceCtorEq, Nat.reduceLeDiff, Nat.reduceEqDiff, Nat.reduceLT, Bool.true_eq_false, Bool.false_eq_true, eq_self, r, zg3, zl4, i4, c]; exact not_false)) | (rw [lt_e]) | (rw [Sum.elim_inl]) | (rw [Sum.elim_inr]) | (rw [f_X0_indexOf]) | (rw [f_X0_indexOf_b61]) | (rw [f_X0_indexOf_b62]))) <;> (first | done | exact rfl | (simp (disch := omega) only [i10, i01, gO_s, bO_s, lt_e, Sum.elim_inl, Sum.elim_inr, nI_1, nI_add, nle, nlt, neq, neq0, neq1, nlt0, nle0, n0le, n0lt, nlt1, n1le, n7m, pk_mul, l2, l3, l4, l5, l6, l7, l8, l9, l10, l13, l16, l20, l26, l27, l32, l48, l57, l58, l60, l62, l70, l80, l90, l128, l140, l160, l420, l2000, l2001, bI_0, bI_1, bI_zz, bI_t, bI_f, zz_0, zz_1, ↓reduceIte, if_true, if_false, decide_true, decide_false, Bool.false_and, Bool.and_false, Bool.true_and, Bool.and_true, Bool.not_true, Bool.not_false, Bool.true_or, Bool.or_true, Bool.false_or, Bool.or_false, reduceCtorEq, Nat.reduceLeDiff, Nat.reduceEqDiff, Nat.reduceLT, Bool.true_eq_false, Bool.false_eq_true, eq_self, r, zg3, zl4, i4, c]; done) | (simp (disch := omega) only [i10, i01, gO_s, bO_s, lt_e, Sum.elim_inl, Sum.elim_inr, nI_1, nI_add, nle, nlt, neq, neq0, neq1, nlt0, nle0, n0le, n0lt, nlt1, n1le, n7m, pk_mul, l2, l3, l4, l5, l6, l7, l8, l9, l10, l13, l16, l20, l26, l27, l32, l48, l57, l58, l60, l62, l70, l80, l90, l128, l140, l160, l420, l2000, l2001, bI_0, bI_1, bI_zz, bI_t, bI_f, zz_0, zz_1, ↓reduceIte, if_true, if_false, decide_true, decide_false, Bool.false_and, Bool.and_false, Bool.true_and, Bool.and_true, Bool.not_true, Bool.not_false, Bool.true_or, Bool.or_true, Bool.false_or, Bool.or_false, reduceCtorEq, Nat.reduceLeDiff, Nat.reduceEqDiff, Nat.reduceLT, Bool.true_eq_false, Bool.false_eq_true, eq_self, r, zg3, zl4, i4, c]; exact rfl))
    · right
      refine ⟨fun j hj e2 => ?_, ?_⟩
      · have h1 := (hp j hj).1 (by omega)
        by_cases d : j = T
        · subst d; exact c e2
        · have := hmo j T (by omega) (by omega)
          omega
      · (repeat (first | (with_reducible apply gO_r; focus (simp (disch := omega) only [i10, i01, gO_s, bO_s, lt_e, Sum.elim_inl, Sum.elim_inr, nI_1, nI_add, nle, nlt, neq, neq0, neq1, nlt0, nle0, n0le, n0lt, nlt1, n1le, n7m, pk_mul, l2, l3, l4, l5, l6, l7, l8, l9, l10, l13, l16, l20, l26, l27, l32, l48, l57, l58, l60, l62, l70, l80, l90, l128, l140, l160, l420, l2000, l2001, bI_0, bI_1, bI_zz, bI_t, bI_f, zz_0, zz_1, ↓reduceIte, if_true, if_false, decide_true, decide_false, Bool.false_and, Bool.and_false, Bool.true_and, Bool.and_true, Bool.not_true, Bool.not_false, Bool.true_or, Bool.or_true, Bool.false_or, Bool.or_false, reduceCtorEq, Nat.reduceLeDiff, Nat.reduceEqDiff, Nat.reduceLT, Bool.true_eq_false, Bool.false_eq_true, eq_self, r, zg3, zl4, i4, c]; exact rfl)) | (with_reducible apply bO_r; focus (simp (disch := omega) only [i10, i01, gO_s, bO_s, lt_e, Sum.elim_inl, Sum.elim_inr, nI_1, nI_add, nle, nlt, neq, neq0, neq1, nlt0, nle0, n0le, n0lt, nlt1, n1le, n7m, pk_mul, l2, l3, l4, l5, l6, l7, l8, l9, l10, l13, l16, l20, l26, l27, l32, l48, l57, l58, l60, l62, l70, l80, l90, l128, l140, l160, l420, l2000, l2001, bI_0, bI_1, bI_zz, bI_t, bI_f, zz_0, zz_1, ↓reduceIte, if_true, if_false, decide_true, decide_false, Bool.false_and, Bool.and_false, Bool.true_and, Bool.and_true, Bool.not_true, Bool.not_false, Bool.true_or, Bool.or_true, Bool.false_or, Bool.or_false, reduceCtorEq, Nat.reduceLeDiff, Nat.reduceEqDiff, Nat.reduceLT, Bool.true_eq_false, Bool.false_eq_true, eq_self, r, zg3, zl4, i4, c]; exact rfl)) | (with_reducible refine (if_pos ?_).trans ?_; focus (simp (disch := omega) only [i10, i01, gO_s, bO_s, lt_e, Sum.elim_inl, Sum.elim_inr, nI_1, nI_add, nle, nlt, neq, neq0, neq1, nlt0, nle0, n0le, n0lt, nlt1, n1le, n7m, pk_mul, l2, l3, l4, l5, l6, l7, l8, l9, l10, l13, l16, l20, l26, l27, l32, l48, l57, l58, l60, l62, l70, l80, l90, l128, l140, l160, l420, l2000, l2001, bI_0, bI_1, bI_zz, bI_t, bI_f, zz_0, zz_1, ↓reduceIte, if_true, if_false, decide_true, decide_false, Bool.false_and, Bool.and_false, Bool.true_and, Bool.and_true, Bool.not_true, Bool.not_false, Bool.true_or, Bool.or_true, Bool.false_or, Bool.or_false, reduceCtorEq, Nat.reduceLeDiff, Nat.reduceEqDiff, Nat.reduceLT, Bool.true_eq_false, Bool.false_eq_true, eq_self, r, zg3, zl4, i4, c]; done)) | (with_reducible refine (if_neg ?_).trans ?_; focus (simp (disch := omega) only [i10, i01, gO_s, bO_s, lt_e, Sum.elim_inl, Sum.elim_inr, nI_1, nI_add, nle, nlt, neq, neq0, neq1, nlt0, nle0, n0le, n0lt, nlt1, n1le, n7m, pk_mul, l2, l3, l4, l5, l6, l7, l8, l9, l10, l13, l16, l20, l26, l27, l32, l48, l57, l58, l60, l62, l70, l80, l90, l128, l140, l160, l420, l2000, l2001, bI_0, bI_1, bI_zz, bI_t, bI_f, zz_0, zz_1, ↓reduceIte, if_true, if_false, decide_true, decide_false, Bool.false_and, Bool.and_false, Bool.true_and, Bool.and_true, Bool.not_true, Bool.not_false, Bool.true_or, Bool.or_true, Bool.false_or, Bool.or_false, reduceCtorEq, Nat.reduceLeDiff, Nat.reduceEqDiff, Nat.reduceLT, Bool.true_eq_false, Bool.false_eq_true, eq_self, r, zg3, zl4, i4, c]; exact not_false)) | (rw [lt_e]) | (rw [Sum.elim_inl]) | (rw [Sum.elim_inr]) | (rw [f_X0_indexOf]) | (rw [f_X0_indexOf_b61]) | (rw [f_X0_indexOf_b62]))) <;> (first | done | exact rfl | (simp (disch := omega) only [i10, i01, gO_s, bO_s, lt_e, Sum.elim_inl, Sum.elim_inr, nI_1, nI_add, nle, nlt, neq, neq0, neq1, nlt0, nle0, n0le, n0lt, nlt1, n1le, n7m, pk_mul, l2, l3, l4, l5, l6, l7, l8, l9, l10, l13, l16, l20, l26, l27, l32, l48, l57, l58, l60, l62, l70, l80, l90, l128, l140, l160, l420, l2000, l2001, bI_0, bI_1, bI_zz, bI_t, bI_f, zz_0, zz_1, ↓reduceIte, if_true, if_false, decide_true, decide_false, Bool.false_and, Bool.and_false, Bool.true_and, Bool.and_true, Bool.not_true, Bool.not_false, Bool.true_or, Bool.or_true, Bool.false_or, Bool.or_false, reduceCtorEq, Nat.reduceLeDiff, Nat.reduceEqDiff, Nat.reduceLT, Bool.true_eq_false, Bool.false_eq_true, eq_self, r, zg3, zl4, i4, c]; done) | (simp (disch := omega) only [i10, i01, gO_s, bO_s, lt_e, Sum.elim_inl, Sum.elim_inr, nI_1, nI_add, nle, nlt, neq, neq0, neq1, nlt0, nle0, n0le, n0lt, nlt1, n1le, n7m, pk_mul, l2, l3, l4, l5, l6, l7, l8, l9, l10, l13, l16, l20, l26, l27, l32, l48, l57, l58, l60, l62, l70, l80, l90, l128, l140, l160, l420, l2000, l2001, bI_0, bI_1, bI_zz, bI_t, bI_f, zz_0, zz_1, ↓reduceIte, if_true, if_false, decide_true, decide_false, Bool.false_and, Bool.and_false, Bool.true_and, Bool.and_true, Bool.not_true, Bool.not_false, Bool.true_or, Bool.or_true, Bool.false_or, Bool.or_false, reduceCtorEq, Nat.reduceLeDiff, Nat.reduceEqDiff, Nat.reduceLT, Bool.true_eq_false, Bool.false_eq_true, eq_self, r, zg3, zl4, i4, c]; exact rfl))
end DIGITS
