/-! the class's networks: what its methods answer -/
section NETC
variable {r n g h : Nat} {s : Nat → Nat → Int32} {E : Nat → Nat → Bool}
theorem q_has (x : Int32) {a : Nat} (ha : a < 32) (σ : Hp) : f_X6_has x (nI a) σ = some (bI (bt x a), σ) := by
  unfold f_X6_has
  rw [b_bI x ha]
  cases bt x a <;> rfl
theorem q_joins (hr : isN r) (hN : NetC s r n E) {a b : Nat} (ha : a < 27) (hb : b < 32) : f_X1_joins r (nI a) (nI b) (s, rC g h) = some (bI (E a b), (s, rC g h)) := by
  obtain ⟨h0, h1, h2⟩ := hN
  simp (disch := omega) only [i10, i01, gO_s, bO_s, lt_e, Sum.elim_inl, Sum.elim_inr, nI_1, nI_add, nle, nlt, neq, neq0, neq1, nlt0, nle0, n0le, n0lt, nlt1, n1le, n7m, pk_mul, l2, l3, l4, l5, l6, l7, l8, l9, l10, l13, l16, l20, l26, l27, l48, l57, l58, l60, l62, l70, l80, l90, l128, l140, l160, l420, l2000, l2001, bI_0, bI_1, bI_zz, bI_t, bI_f, zz_0, zz_1, ↓reduceIte, if_true, if_false, decide_true, decide_false, Bool.false_and, Bool.and_false, Bool.true_and, Bool.and_true, Bool.not_true, Bool.not_false, reduceCtorEq, Nat.reduceLeDiff, Nat.reduceEqDiff, Nat.reduceLT, Bool.true_eq_false, Bool.false_eq_true, eq_self, f_X1_joins, nc_n hr, nc_t hr, nc_f hr, nc_lt hr, nc_lf hr, nc_st hr, nc_sf hr, nc_k hr, nc_p hr, h1, q_has, b_T]
theorem q_isEmpty (hr : isN r) (hN : NetC s r n E) (hn : n ≤ 27) : f_X1_isEmpty r (s, rC g h) = some (bI (decide (n = 0)), (s, rC g h)) := by
  obtain ⟨h0, h1, h2⟩ := hN
  by_cases e : n = 0
  · have e1 : ¬ 1 ≤ n := by omega
    simp (disch := omega) only [i10, i01, gO_s, bO_s, lt_e, Sum.elim_inl, Sum.elim_inr, nI_1, nI_add, nle, nlt, neq, neq0, neq1, nlt0, nle0, n0le, n0lt, nlt1, n1le, n7m, pk_mul, l2, l3, l4, l5, l6, l7, l8, l9, l10, l13, l16, l20, l26, l27, l48, l57, l58, l60, l62, l70, l80, l90, l128, l140, l160, l420, l2000, l2001, bI_0, bI_1, bI_zz, bI_t, bI_f, zz_0, zz_1, ↓reduceIte, if_true, if_false, decide_true, decide_false, Bool.false_and, Bool.and_false, Bool.true_and, Bool.and_true, Bool.not_true, Bool.not_false, reduceCtorEq, Nat.reduceLeDiff, Nat.reduceEqDiff, Nat.reduceLT, Bool.true_eq_false, Bool.false_eq_true, eq_self, f_X1_isEmpty, f_X1_isEmpty_b13, nc_n hr, nc_t hr, nc_f hr, nc_lt hr, nc_lf hr, nc_st hr, nc_sf hr, nc_k hr, nc_p hr, h0, e1, decide_eq_true e]
  · have e1 : 1 ≤ n := by omega
    simp (disch := omega) only [i10, i01, gO_s, bO_s, lt_e, Sum.elim_inl, Sum.elim_inr, nI_1, nI_add, nle, nlt, neq, neq0, neq1, nlt0, nle0, n0le, n0lt, nlt1, n1le, n7m, pk_mul, l2, l3, l4, l5, l6, l7, l8, l9, l10, l13, l16, l20, l26, l27, l48, l57, l58, l60, l62, l70, l80, l90, l128, l140, l160, l420, l2000, l2001, bI_0, bI_1, bI_zz, bI_t, bI_f, zz_0, zz_1, ↓reduceIte, if_true, if_false, decide_true, decide_false, Bool.false_and, Bool.and_false, Bool.true_and, Bool.and_true, Bool.not_true, Bool.not_false, reduceCtorEq, Nat.reduceLeDiff, Nat.reduceEqDiff, Nat.reduceLT, Bool.true_eq_false, Bool.false_eq_true, eq_self, f_X1_isEmpty, f_X1_isEmpty_b13, nc_n hr, nc_t hr, nc_f hr, nc_lt hr, nc_lf hr, nc_st hr, nc_sf hr, nc_k hr, nc_p hr, h0, e1, decide_eq_false e]
theorem q_all (hr : isN r) (hN : NetC s r n E) (hn : n ≤ 27) : f_X1_all r (s, rC g h) = some (bs (fun i => decide (i < n)), (s, rC g h)) := by
  obtain ⟨h0, h1, h2⟩ := hN
  simp (disch := omega) only [i10, i01, gO_s, bO_s, lt_e, Sum.elim_inl, Sum.elim_inr, nI_1, nI_add, nle, nlt, neq, neq0, neq1, nlt0, nle0, n0le, n0lt, nlt1, n1le, n7m, pk_mul, l2, l3, l4, l5, l6, l7, l8, l9, l10, l13, l16, l20, l26, l27, l48, l57, l58, l60, l62, l70, l80, l90, l128, l140, l160, l420, l2000, l2001, bI_0, bI_1, bI_zz, bI_t, bI_f, zz_0, zz_1, ↓reduceIte, if_true, if_false, decide_true, decide_false, Bool.false_and, Bool.and_false, Bool.true_and, Bool.and_true, Bool.not_true, Bool.not_false, reduceCtorEq, Nat.reduceLeDiff, Nat.reduceEqDiff, Nat.reduceLT, Bool.true_eq_false, Bool.false_eq_true, eq_self, f_X1_all, nc_n hr, nc_t hr, nc_f hr, nc_lt hr, nc_lf hr, nc_st hr, nc_sf hr, nc_k hr, nc_p hr, h0, bs_all]
def sLines (n : Nat) (E : Nat → Nat → Bool) : Nat := fb_sm (fun a => cI (rT E a)) n
theorem q_lines (hr : isN r) (hN : NetC s r n E) (hS : Sup n E) (hn : n ≤ 7) : f_X1_lines r (s, rC g h) = some (nI (sLines n E), (s, rC g h)) := by
  obtain ⟨h0, h1, h2⟩ := hN
  have key := wh_pure (f := f_X1_lines_L4 r) (σ := (s, rC g h)) n (fun k => (nI (fb_sm (fun a => cI (rT E a)) k), nI k)) (x := nI (sLines n E)) (fun k hk => by
    have h3 : ¬ n ≤ k := by omega
    simp (disch := omega) only [i10, i01, gO_s, bO_s, lt_e, Sum.elim_inl, Sum.elim_inr, nI_1, nI_add, nle, nlt, neq, neq0, neq1, nlt0, nle0, n0le, n0lt, nlt1, n1le, n7m, pk_mul, l2, l3, l4, l5, l6, l7, l8, l9, l10, l13, l16, l20, l26, l27, l48, l57, l58, l60, l62, l70, l80, l90, l128, l140, l160, l420, l2000, l2001, bI_0, bI_1, bI_zz, bI_t, bI_f, zz_0, zz_1, ↓reduceIte, if_true, if_false, decide_true, decide_false, Bool.false_and, Bool.and_false, Bool.true_and, Bool.and_true, Bool.not_true, Bool.not_false, reduceCtorEq, Nat.reduceLeDiff, Nat.reduceEqDiff, Nat.reduceLT, Bool.true_eq_false, Bool.false_eq_true, eq_self, f_X1_lines_L4, nc_n hr, nc_t hr, nc_f hr, nc_lt hr, nc_lf hr, nc_st hr, nc_sf hr, nc_k hr, nc_p hr, h0, h1, h3, s_bc (lo_T hS hn), fb_sm_succ]) (by
    simp (disch := omega) only [i10, i01, gO_s, bO_s, lt_e, Sum.elim_inl, Sum.elim_inr, nI_1, nI_add, nle, nlt, neq, neq0, neq1, nlt0, nle0, n0le, n0lt, nlt1, n1le, n7m, pk_mul, l2, l3, l4, l5, l6, l7, l8, l9, l10, l13, l16, l20, l26, l27, l48, l57, l58, l60, l62, l70, l80, l90, l128, l140, l160, l420, l2000, l2001, bI_0, bI_1, bI_zz, bI_t, bI_f, zz_0, zz_1, ↓reduceIte, if_true, if_false, decide_true, decide_false, Bool.false_and, Bool.and_false, Bool.true_and, Bool.and_true, Bool.not_true, Bool.not_false, reduceCtorEq, Nat.reduceLeDiff, Nat.reduceEqDiff, Nat.reduceLT, Bool.true_eq_false, Bool.false_eq_true, eq_self, f_X1_lines_L4, nc_n hr, nc_t hr, nc_f hr, nc_lt hr, nc_lf hr, nc_st hr, nc_sf hr, nc_k hr, nc_p hr, h0, Nat.le_refl, sLines])
  unfold f_X1_lines
  exact bO_e key
def sLoops (n : Nat) (E : Nat → Nat → Bool) : Int32 := orI (fun a => rT E a &&& ((1 : Int32) <<< (nI a &&& 31))) n
theorem q_loops (hr : isN r) (hN : NetC s r n E) (hn : n ≤ 27) : f_X1_loops r (s, rC g h) = some (sLoops n E, (s, rC g h)) := by
  obtain ⟨h0, h1, h2⟩ := hN
  have key := wh_pure (f := f_X1_loops_L4 r) (σ := (s, rC g h)) n (fun k => (sLoops k E, nI k)) (x := sLoops n E) (fun k hk => by
    have h3 : ¬ n ≤ k := by omega
    simp (disch := omega) only [i10, i01, gO_s, bO_s, lt_e, Sum.elim_inl, Sum.elim_inr, nI_1, nI_add, nle, nlt, neq, neq0, neq1, nlt0, nle0, n0le, n0lt, nlt1, n1le, n7m, pk_mul, l2, l3, l4, l5, l6, l7, l8, l9, l10, l13, l16, l20, l26, l27, l48, l57, l58, l60, l62, l70, l80, l90, l128, l140, l160, l420, l2000, l2001, bI_0, bI_1, bI_zz, bI_t, bI_f, zz_0, zz_1, ↓reduceIte, if_true, if_false, decide_true, decide_false, Bool.false_and, Bool.and_false, Bool.true_and, Bool.and_true, Bool.not_true, Bool.not_false, reduceCtorEq, Nat.reduceLeDiff, Nat.reduceEqDiff, Nat.reduceLT, Bool.true_eq_false, Bool.false_eq_true, eq_self, f_X1_loops_L4, nc_n hr, nc_t hr, nc_f hr, nc_lt hr, nc_lf hr, nc_st hr, nc_sf hr, nc_k hr, nc_p hr, h0, h1, h3]; rfl) (by
    simp (disch := omega) only [i10, i01, gO_s, bO_s, lt_e, Sum.elim_inl, Sum.elim_inr, nI_1, nI_add, nle, nlt, neq, neq0, neq1, nlt0, nle0, n0le, n0lt, nlt1, n1le, n7m, pk_mul, l2, l3, l4, l5, l6, l7, l8, l9, l10, l13, l16, l20, l26, l27, l48, l57, l58, l60, l62, l70, l80, l90, l128, l140, l160, l420, l2000, l2001, bI_0, bI_1, bI_zz, bI_t, bI_f, zz_0, zz_1, ↓reduceIte, if_true, if_false, decide_true, decide_false, Bool.false_and, Bool.and_false, Bool.true_and, Bool.and_true, Bool.not_true, Bool.not_false, reduceCtorEq, Nat.reduceLeDiff, Nat.reduceEqDiff, Nat.reduceLT, Bool.true_eq_false, Bool.false_eq_true, eq_self, f_X1_loops_L4, nc_n hr, nc_t hr, nc_f hr, nc_lt hr, nc_lf hr, nc_st hr, nc_sf hr, nc_k hr, nc_p hr, h0, Nat.le_refl])
  unfold f_X1_loops
  exact bO_e key
theorem b_loops (hS : Sup n E) (hn : n ≤ 31) {i : Nat} (hi : i < 32) : bt (sLoops n E) i = E i i := by
  unfold sLoops
  rw [b_orI]
  cases e : E i i
  · cases e2 : anyN (fun a => bt (rT E a &&& ((1 : Int32) <<< (nI a &&& 31))) i) n
    · rfl
    · obtain ⟨k, hk, h1⟩ := anyN_t.mp e2
      rw [b_and, b_T E k hi, b_one (by omega) hi, Bool.and_eq_true] at h1
      have h2 := of_decide_eq_true h1.2
      subst h2
      rw [e] at h1
      exact absurd h1.1 (by simp)
  · have h1 := hS i i e
    exact anyN_t.mpr ⟨i, h1.1, by rw [b_and, b_T E i hi, b_one (by omega) hi, e]; simp⟩
def sTwo (n : Nat) (E : Nat → Nat → Bool) : Bool := allN (fun a => decide (rT E a = rF E a)) n
theorem allN_f {p : Nat → Bool} {n k : Nat} (hk : k < n) (h : p k = false) : allN p n = false := by
  cases e : allN p n
  · rfl
  · rw [allN_t.mp e k hk] at h; cases h
theorem q_isTwoWay (hr : isN r) (hN : NetC s r n E) (hn : n ≤ 27) : f_X1_isTwoWay r (s, rC g h) = some (bI (sTwo n E), (s, rC g h)) := by
  obtain ⟨h0, h1, h2⟩ := hN
  have key := wh_up (f := f_X1_isTwoWay_L2 r) n (fun k v σ => v = nI k ∧ σ = (s, rC g h) ∧ allN (fun a => decide (rT E a = rF E a)) k = true) (Q := fun x σ => σ = (s, rC g h) ∧ x = (if sTwo n E = true then .inr () else .inl ())) (by
    rintro k v σ hk ⟨rfl, rfl, h4⟩
    have h3 : ¬ n ≤ k := by omega
    by_cases e : rT E k = rF E k
    · refine ⟨.inl (nI (k + 1)), (s, rC g h), ?_, rfl, rfl, ?_⟩
      · simp (disch := omega) only [i10, i01, gO_s, bO_s, lt_e, Sum.elim_inl, Sum.elim_inr, nI_1, nI_add, nle, nlt, neq, neq0, neq1, nlt0, nle0, n0le, n0lt, nlt1, n1le, n7m, pk_mul, l2, l3, l4, l5, l6, l7, l8, l9, l10, l13, l16, l20, l26, l27, l48, l57, l58, l60, l62, l70, l80, l90, l128, l140, l160, l420, l2000, l2001, bI_0, bI_1, bI_zz, bI_t, bI_f, zz_0, zz_1, ↓reduceIte, if_true, if_false, decide_true, decide_false, Bool.false_and, Bool.and_false, Bool.true_and, Bool.and_true, Bool.not_true, Bool.not_false, reduceCtorEq, Nat.reduceLeDiff, Nat.reduceEqDiff, Nat.reduceLT, Bool.true_eq_false, Bool.false_eq_true, eq_self, f_X1_isTwoWay_L2, nc_n hr, nc_t hr, nc_f hr, nc_lt hr, nc_lf hr, nc_st hr, nc_sf hr, nc_k hr, nc_p hr, h0, h1, h2, h3, e]
      · unfold allN; rw [h4, decide_eq_true e]; rfl
    · refine ⟨.inr (.inl ()), (s, rC g h), ?_, rfl, ?_⟩
      · simp (disch := omega) only [i10, i01, gO_s, bO_s, lt_e, Sum.elim_inl, Sum.elim_inr, nI_1, nI_add, nle, nlt, neq, neq0, neq1, nlt0, nle0, n0le, n0lt, nlt1, n1le, n7m, pk_mul, l2, l3, l4, l5, l6, l7, l8, l9, l10, l13, l16, l20, l26, l27, l48, l57, l58, l60, l62, l70, l80, l90, l128, l140, l160, l420, l2000, l2001, bI_0, bI_1, bI_zz, bI_t, bI_f, zz_0, zz_1, ↓reduceIte, if_true, if_false, decide_true, decide_false, Bool.false_and, Bool.and_false, Bool.true_and, Bool.and_true, Bool.not_true, Bool.not_false, reduceCtorEq, Nat.reduceLeDiff, Nat.reduceEqDiff, Nat.reduceLT, Bool.true_eq_false, Bool.false_eq_true, eq_self, f_X1_isTwoWay_L2, nc_n hr, nc_t hr, nc_f hr, nc_lt hr, nc_lf hr, nc_st hr, nc_sf hr, nc_k hr, nc_p hr, h0, h1, h2, h3, e]
      · have : sTwo n E = false := allN_f hk (decide_eq_false e)
        rw [this]; rfl) (by
    rintro v σ ⟨rfl, rfl, h4⟩
    refine ⟨.inr (), (s, rC g h), ?_, rfl, ?_⟩
    · simp (disch := omega) only [i10, i01, gO_s, bO_s, lt_e, Sum.elim_inl, Sum.elim_inr, nI_1, nI_add, nle, nlt, neq, neq0, neq1, nlt0, nle0, n0le, n0lt, nlt1, n1le, n7m, pk_mul, l2, l3, l4, l5, l6, l7, l8, l9, l10, l13, l16, l20, l26, l27, l48, l57, l58, l60, l62, l70, l80, l90, l128, l140, l160, l420, l2000, l2001, bI_0, bI_1, bI_zz, bI_t, bI_f, zz_0, zz_1, ↓reduceIte, if_true, if_false, decide_true, decide_false, Bool.false_and, Bool.and_false, Bool.true_and, Bool.and_true, Bool.not_true, Bool.not_false, reduceCtorEq, Nat.reduceLeDiff, Nat.reduceEqDiff, Nat.reduceLT, Bool.true_eq_false, Bool.false_eq_true, eq_self, f_X1_isTwoWay_L2, nc_n hr, nc_t hr, nc_f hr, nc_lt hr, nc_lf hr, nc_st hr, nc_sf hr, nc_k hr, nc_p hr, h0, Nat.le_refl]
    · have : sTwo n E = true := h4
      rw [this]; rfl) (k := 0) (v := 0) (σ := (s, rC g h)) (by omega) ⟨rfl, rfl, rfl⟩
  obtain ⟨x, σ', e1, rfl, rfl⟩ := key
  unfold f_X1_isTwoWay
  refine (bO_e e1).trans ?_
  cases sTwo n E <;> rfl
def sMax (f : Nat → Int32) : Nat → Int32
  | 0 => 0
  | k + 1 => imax (sMax f k) (f k)
theorem q_most (hr : isN r) (hN : NetC s r n E) (hS : Sup n E) (hn : n ≤ 7) (b : Bool) : f_X1_most r (bI b) (s, rC g h) = some (sMax (fun a => nI (cI (if b = true then rT E a else rF E a))) n, (s, rC g h)) := by
  obtain ⟨h0, h1, h2⟩ := hN
  have key := wh_pure (f := f_X1_most_L4 r (bI b)) (σ := (s, rC g h)) n (fun k => (sMax (fun a => nI (cI (if b = true then rT E a else rF E a))) k, nI k)) (x := sMax (fun a => nI (cI (if b = true then rT E a else rF E a))) n) (fun k hk => by
    have h3 : ¬ n ≤ k := by omega
    cases b
    · simp (disch := omega) only [i10, i01, gO_s, bO_s, lt_e, Sum.elim_inl, Sum.elim_inr, nI_1, nI_add, nle, nlt, neq, neq0, neq1, nlt0, nle0, n0le, n0lt, nlt1, n1le, n7m, pk_mul, l2, l3, l4, l5, l6, l7, l8, l9, l10, l13, l16, l20, l26, l27, l48, l57, l58, l60, l62, l70, l80, l90, l128, l140, l160, l420, l2000, l2001, bI_0, bI_1, bI_zz, bI_t, bI_f, zz_0, zz_1, ↓reduceIte, if_true, if_false, decide_true, decide_false, Bool.false_and, Bool.and_false, Bool.true_and, Bool.and_true, Bool.not_true, Bool.not_false, reduceCtorEq, Nat.reduceLeDiff, Nat.reduceEqDiff, Nat.reduceLT, Bool.true_eq_false, Bool.false_eq_true, eq_self, f_X1_most_L4, f_X1_most_b32, nc_n hr, nc_t hr, nc_f hr, nc_lt hr, nc_lf hr, nc_st hr, nc_sf hr, nc_k hr, nc_p hr, h0, h1, h2, h3, s_bc (lo_F hS hn), sMax]
    · simp (disch := omega) only [i10, i01, gO_s, bO_s, lt_e, Sum.elim_inl, Sum.elim_inr, nI_1, nI_add, nle, nlt, neq, neq0, neq1, nlt0, nle0, n0le, n0lt, nlt1, n1le, n7m, pk_mul, l2, l3, l4, l5, l6, l7, l8, l9, l10, l13, l16, l20, l26, l27, l48, l57, l58, l60, l62, l70, l80, l90, l128, l140, l160, l420, l2000, l2001, bI_0, bI_1, bI_zz, bI_t, bI_f, zz_0, zz_1, ↓reduceIte, if_true, if_false, decide_true, decide_false, Bool.false_and, Bool.and_false, Bool.true_and, Bool.and_true, Bool.not_true, Bool.not_false, reduceCtorEq, Nat.reduceLeDiff, Nat.reduceEqDiff, Nat.reduceLT, Bool.true_eq_false, Bool.false_eq_true, eq_self, f_X1_most_L4, f_X1_most_b32, nc_n hr, nc_t hr, nc_f hr, nc_lt hr, nc_lf hr, nc_st hr, nc_sf hr, nc_k hr, nc_p hr, h0, h1, h2, h3, s_bc (lo_T hS hn), sMax]) (by
    simp (disch := omega) only [i10, i01, gO_s, bO_s, lt_e, Sum.elim_inl, Sum.elim_inr, nI_1, nI_add, nle, nlt, neq, neq0, neq1, nlt0, nle0, n0le, n0lt, nlt1, n1le, n7m, pk_mul, l2, l3, l4, l5, l6, l7, l8, l9, l10, l13, l16, l20, l26, l27, l48, l57, l58, l60, l62, l70, l80, l90, l128, l140, l160, l420, l2000, l2001, bI_0, bI_1, bI_zz, bI_t, bI_f, zz_0, zz_1, ↓reduceIte, if_true, if_false, decide_true, decide_false, Bool.false_and, Bool.and_false, Bool.true_and, Bool.and_true, Bool.not_true, Bool.not_false, reduceCtorEq, Nat.reduceLeDiff, Nat.reduceEqDiff, Nat.reduceLT, Bool.true_eq_false, Bool.false_eq_true, eq_self, f_X1_most_L4, nc_n hr, nc_t hr, nc_f hr, nc_lt hr, nc_lf hr, nc_st hr, nc_sf hr, nc_k hr, nc_p hr, h0, Nat.le_refl])
  unfold f_X1_most
  exact bO_e key
/-- the sum of rows of some nodes -/
def sOn (R : Nat → Int32) (n : Nat) (x : Int32) : Int32 := orI (fun a => if bt x a = true then R a else 0) n
theorem or_0 (x : Int32) : x ||| 0 = x := b_ext fun i _ => by rw [b_or, b_0, Bool.or_false]
theorem z_or (x : Int32) : 0 ||| x = x := b_ext fun i _ => by rw [b_or, b_0, Bool.false_or]
theorem q_onward (hr : isN r) (hN : NetC s r n E) (hn : n ≤ 27) (x : Int32) : f_X1_onward r x (s, rC g h) = some (sOn (rT E) n x, (s, rC g h)) := by
  obtain ⟨h0, h1, h2⟩ := hN
  have key := wh_pure (f := f_X1_onward_L4 r x) (σ := (s, rC g h)) n (fun k => (sOn (rT E) k x, nI k)) (x := sOn (rT E) n x) (fun k hk => by
    have h3 : ¬ n ≤ k := by omega
    cases e : bt x k
    · simp (disch := omega) only [i10, i01, gO_s, bO_s, lt_e, Sum.elim_inl, Sum.elim_inr, nI_1, nI_add, nle, nlt, neq, neq0, neq1, nlt0, nle0, n0le, n0lt, nlt1, n1le, n7m, pk_mul, l2, l3, l4, l5, l6, l7, l8, l9, l10, l13, l16, l20, l26, l27, l48, l57, l58, l60, l62, l70, l80, l90, l128, l140, l160, l420, l2000, l2001, bI_0, bI_1, bI_zz, bI_t, bI_f, zz_0, zz_1, ↓reduceIte, if_true, if_false, decide_true, decide_false, Bool.false_and, Bool.and_false, Bool.true_and, Bool.and_true, Bool.not_true, Bool.not_false, reduceCtorEq, Nat.reduceLeDiff, Nat.reduceEqDiff, Nat.reduceLT, Bool.true_eq_false, Bool.false_eq_true, eq_self, f_X1_onward_L4, f_X1_onward_b29, nc_n hr, nc_t hr, nc_f hr, nc_lt hr, nc_lf hr, nc_st hr, nc_sf hr, nc_k hr, nc_p hr, h0, h1, h3, q_has, e, sOn, orI_s, or_0]
    · simp (disch := omega) only [i10, i01, gO_s, bO_s, lt_e, Sum.elim_inl, Sum.elim_inr, nI_1, nI_add, nle, nlt, neq, neq0, neq1, nlt0, nle0, n0le, n0lt, nlt1, n1le, n7m, pk_mul, l2, l3, l4, l5, l6, l7, l8, l9, l10, l13, l16, l20, l26, l27, l48, l57, l58, l60, l62, l70, l80, l90, l128, l140, l160, l420, l2000, l2001, bI_0, bI_1, bI_zz, bI_t, bI_f, zz_0, zz_1, ↓reduceIte, if_true, if_false, decide_true, decide_false, Bool.false_and, Bool.and_false, Bool.true_and, Bool.and_true, Bool.not_true, Bool.not_false, reduceCtorEq, Nat.reduceLeDiff, Nat.reduceEqDiff, Nat.reduceLT, Bool.true_eq_false, Bool.false_eq_true, eq_self, f_X1_onward_L4, f_X1_onward_b29, nc_n hr, nc_t hr, nc_f hr, nc_lt hr, nc_lf hr, nc_st hr, nc_sf hr, nc_k hr, nc_p hr, h0, h1, h3, q_has, e, sOn, orI_s]) (by
    simp (disch := omega) only [i10, i01, gO_s, bO_s, lt_e, Sum.elim_inl, Sum.elim_inr, nI_1, nI_add, nle, nlt, neq, neq0, neq1, nlt0, nle0, n0le, n0lt, nlt1, n1le, n7m, pk_mul, l2, l3, l4, l5, l6, l7, l8, l9, l10, l13, l16, l20, l26, l27, l48, l57, l58, l60, l62, l70, l80, l90, l128, l140, l160, l420, l2000, l2001, bI_0, bI_1, bI_zz, bI_t, bI_f, zz_0, zz_1, ↓reduceIte, if_true, if_false, decide_true, decide_false, Bool.false_and, Bool.and_false, Bool.true_and, Bool.and_true, Bool.not_true, Bool.not_false, reduceCtorEq, Nat.reduceLeDiff, Nat.reduceEqDiff, Nat.reduceLT, Bool.true_eq_false, Bool.false_eq_true, eq_self, f_X1_onward_L4, nc_n hr, nc_t hr, nc_f hr, nc_lt hr, nc_lf hr, nc_st hr, nc_sf hr, nc_k hr, nc_p hr, h0, Nat.le_refl])
  unfold f_X1_onward
  exact bO_e key
theorem q_backward (hr : isN r) (hN : NetC s r n E) (hn : n ≤ 27) (x : Int32) : f_X1_backward r x (s, rC g h) = some (sOn (rF E) n x, (s, rC g h)) := by
  obtain ⟨h0, h1, h2⟩ := hN
  have key := wh_pure (f := f_X1_backward_L4 r x) (σ := (s, rC g h)) n (fun k => (sOn (rF E) k x, nI k)) (x := sOn (rF E) n x) (fun k hk => by
    have h3 : ¬ n ≤ k := by omega
    cases e : bt x k
    · simp (disch := omega) only [i10, i01, gO_s, bO_s, lt_e, Sum.elim_inl, Sum.elim_inr, nI_1, nI_add, nle, nlt, neq, neq0, neq1, nlt0, nle0, n0le, n0lt, nlt1, n1le, n7m, pk_mul, l2, l3, l4, l5, l6, l7, l8, l9, l10, l13, l16, l20, l26, l27, l48, l57, l58, l60, l62, l70, l80, l90, l128, l140, l160, l420, l2000, l2001, bI_0, bI_1, bI_zz, bI_t, bI_f, zz_0, zz_1, ↓reduceIte, if_true, if_false, decide_true, decide_false, Bool.false_and, Bool.and_false, Bool.true_and, Bool.and_true, Bool.not_true, Bool.not_false, reduceCtorEq, Nat.reduceLeDiff, Nat.reduceEqDiff, Nat.reduceLT, Bool.true_eq_false, Bool.false_eq_true, eq_self, f_X1_backward_L4, f_X1_backward_b29, nc_n hr, nc_t hr, nc_f hr, nc_lt hr, nc_lf hr, nc_st hr, nc_sf hr, nc_k hr, nc_p hr, h0, h2, h3, q_has, e, sOn, orI_s, or_0]
    · simp (disch := omega) only [i10, i01, gO_s, bO_s, lt_e, Sum.elim_inl, Sum.elim_inr, nI_1, nI_add, nle, nlt, neq, neq0, neq1, nlt0, nle0, n0le, n0lt, nlt1, n1le, n7m, pk_mul, l2, l3, l4, l5, l6, l7, l8, l9, l10, l13, l16, l20, l26, l27, l48, l57, l58, l60, l62, l70, l80, l90, l128, l140, l160, l420, l2000, l2001, bI_0, bI_1, bI_zz, bI_t, bI_f, zz_0, zz_1, ↓reduceIte, if_true, if_false, decide_true, decide_false, Bool.false_and, Bool.and_false, Bool.true_and, Bool.and_true, Bool.not_true, Bool.not_false, reduceCtorEq, Nat.reduceLeDiff, Nat.reduceEqDiff, Nat.reduceLT, Bool.true_eq_false, Bool.false_eq_true, eq_self, f_X1_backward_L4, f_X1_backward_b29, nc_n hr, nc_t hr, nc_f hr, nc_lt hr, nc_lf hr, nc_st hr, nc_sf hr, nc_k hr, nc_p hr, h0, h2, h3, q_has, e, sOn, orI_s]) (by
    simp (disch := omega) only [i10, i01, gO_s, bO_s, lt_e, Sum.elim_inl, Sum.elim_inr, nI_1, nI_add, nle, nlt, neq, neq0, neq1, nlt0, nle0, n0le, n0lt, nlt1, n1le, n7m, pk_mul, l2, l3, l4, l5, l6, l7, l8, l9, l10, l13, l16, l20, l26, l27, l48, l57, l58, l60, l62, l70, l80, l90, l128, l140, l160, l420, l2000, l2001, bI_0, bI_1, bI_zz, bI_t, bI_f, zz_0, zz_1, ↓reduceIte, if_true, if_false, decide_true, decide_false, Bool.false_and, Bool.and_false, Bool.true_and, Bool.and_true, Bool.not_true, Bool.not_false, reduceCtorEq, Nat.reduceLeDiff, Nat.reduceEqDiff, Nat.reduceLT, Bool.true_eq_false, Bool.false_eq_true, eq_self, f_X1_backward_L4, nc_n hr, nc_t hr, nc_f hr, nc_lt hr, nc_lf hr, nc_st hr, nc_sf hr, nc_k hr, nc_p hr, h0, Nat.le_refl])
  unfold f_X1_backward
  exact bO_e key
def itI (f : Int32 → Int32) : Nat → Int32 → Int32
  | 0, x => x
  | k + 1, x => f (itI f k x)
/-- n rounds from 1 on -/
def sAhead (n : Nat) (E : Nat → Nat → Bool) (a : Nat) : Int32 := itI (fun x => x ||| sOn (rT E) n x) (n - 1) (rT E a)
theorem q_ahead (hr : isN r) (hN : NetC s r n E) (hn : n ≤ 27) (h5 : 1 ≤ n) {a : Nat} (ha : a < 27) : f_X1_ahead r (nI a) (s, rC g h) = some (sAhead n E a, (s, rC g h)) := by
  have hN' := hN
  obtain ⟨h0, h1, h2⟩ := hN
  have key := wh_pure (f := f_X1_ahead_L9 r) (σ := (s, rC g h)) (n - 1) (fun k => (itI (fun x => x ||| sOn (rT E) n x) k (rT E a), nI (k + 1))) (x := sAhead n E a) (fun k hk => by
    have h3 : ¬ n ≤ k + 1 := by omega
    simp (disch := omega) only [i10, i01, gO_s, bO_s, lt_e, Sum.elim_inl, Sum.elim_inr, nI_1, nI_add, nle, nlt, neq, neq0, neq1, nlt0, nle0, n0le, n0lt, nlt1, n1le, n7m, pk_mul, l2, l3, l4, l5, l6, l7, l8, l9, l10, l13, l16, l20, l26, l27, l48, l57, l58, l60, l62, l70, l80, l90, l128, l140, l160, l420, l2000, l2001, bI_0, bI_1, bI_zz, bI_t, bI_f, zz_0, zz_1, ↓reduceIte, if_true, if_false, decide_true, decide_false, Bool.false_and, Bool.and_false, Bool.true_and, Bool.and_true, Bool.not_true, Bool.not_false, reduceCtorEq, Nat.reduceLeDiff, Nat.reduceEqDiff, Nat.reduceLT, Bool.true_eq_false, Bool.false_eq_true, eq_self, f_X1_ahead_L9, nc_n hr, nc_t hr, nc_f hr, nc_lt hr, nc_lf hr, nc_st hr, nc_sf hr, nc_k hr, nc_p hr, h0, h3, q_onward hr hN' hn]; rfl) (by
    have h3 : n ≤ n - 1 + 1 := by omega
    simp (disch := omega) only [i10, i01, gO_s, bO_s, lt_e, Sum.elim_inl, Sum.elim_inr, nI_1, nI_add, nle, nlt, neq, neq0, neq1, nlt0, nle0, n0le, n0lt, nlt1, n1le, n7m, pk_mul, l2, l3, l4, l5, l6, l7, l8, l9, l10, l13, l16, l20, l26, l27, l48, l57, l58, l60, l62, l70, l80, l90, l128, l140, l160, l420, l2000, l2001, bI_0, bI_1, bI_zz, bI_t, bI_f, zz_0, zz_1, ↓reduceIte, if_true, if_false, decide_true, decide_false, Bool.false_and, Bool.and_false, Bool.true_and, Bool.and_true, Bool.not_true, Bool.not_false, reduceCtorEq, Nat.reduceLeDiff, Nat.reduceEqDiff, Nat.reduceLT, Bool.true_eq_false, Bool.false_eq_true, eq_self, f_X1_ahead_L9, nc_n hr, nc_t hr, nc_f hr, nc_lt hr, nc_lf hr, nc_st hr, nc_sf hr, nc_k hr, nc_p hr, h0, h3]; rfl)
  simp (disch := omega) only [i10, i01, gO_s, bO_s, lt_e, Sum.elim_inl, Sum.elim_inr, nI_1, nI_add, nle, nlt, neq, neq0, neq1, nlt0, nle0, n0le, n0lt, nlt1, n1le, n7m, pk_mul, l2, l3, l4, l5, l6, l7, l8, l9, l10, l13, l16, l20, l26, l27, l48, l57, l58, l60, l62, l70, l80, l90, l128, l140, l160, l420, l2000, l2001, bI_0, bI_1, bI_zz, bI_t, bI_f, zz_0, zz_1, ↓reduceIte, if_true, if_false, decide_true, decide_false, Bool.false_and, Bool.and_false, Bool.true_and, Bool.and_true, Bool.not_true, Bool.not_false, reduceCtorEq, Nat.reduceLeDiff, Nat.reduceEqDiff, Nat.reduceLT, Bool.true_eq_false, Bool.false_eq_true, eq_self, f_X1_ahead, nc_n hr, nc_t hr, nc_f hr, nc_lt hr, nc_lf hr, nc_st hr, nc_sf hr, nc_k hr, nc_p hr, h1]
  exact bO_e key
def sPiece (n : Nat) (E : Nat → Nat → Bool) (a : Nat) : Int32 := itI (fun x => x ||| (sOn (rT E) n x ||| sOn (rF E) n x)) (n - 1) ((1 : Int32) <<< (nI a &&& 31))
theorem q_piece (hr : isN r) (hN : NetC s r n E) (hn : n ≤ 27) (h5 : 1 ≤ n) {a : Nat} : f_X1_piece r (nI a) (s, rC g h) = some (sPiece n E a, (s, rC g h)) := by
  have hN' := hN
  obtain ⟨h0, h1, h2⟩ := hN
  have key := wh_pure (f := f_X1_piece_L6 r) (σ := (s, rC g h)) (n - 1) (fun k => (itI (fun x => x ||| (sOn (rT E) n x ||| sOn (rF E) n x)) k ((1 : Int32) <<< (nI a &&& 31)), nI (k + 1))) (x := sPiece n E a) (fun k hk => by
    have h3 : ¬ n ≤ k + 1 := by omega
    simp (disch := omega) only [i10, i01, gO_s, bO_s, lt_e, Sum.elim_inl, Sum.elim_inr, nI_1, nI_add, nle, nlt, neq, neq0, neq1, nlt0, nle0, n0le, n0lt, nlt1, n1le, n7m, pk_mul, l2, l3, l4, l5, l6, l7, l8, l9, l10, l13, l16, l20, l26, l27, l48, l57, l58, l60, l62, l70, l80, l90, l128, l140, l160, l420, l2000, l2001, bI_0, bI_1, bI_zz, bI_t, bI_f, zz_0, zz_1, ↓reduceIte, if_true, if_false, decide_true, decide_false, Bool.false_and, Bool.and_false, Bool.true_and, Bool.and_true, Bool.not_true, Bool.not_false, reduceCtorEq, Nat.reduceLeDiff, Nat.reduceEqDiff, Nat.reduceLT, Bool.true_eq_false, Bool.false_eq_true, eq_self, f_X1_piece_L6, nc_n hr, nc_t hr, nc_f hr, nc_lt hr, nc_lf hr, nc_st hr, nc_sf hr, nc_k hr, nc_p hr, h0, h3, q_onward hr hN' hn, q_backward hr hN' hn]; rfl) (by
    have h3 : n ≤ n - 1 + 1 := by omega
    simp (disch := omega) only [i10, i01, gO_s, bO_s, lt_e, Sum.elim_inl, Sum.elim_inr, nI_1, nI_add, nle, nlt, neq, neq0, neq1, nlt0, nle0, n0le, n0lt, nlt1, n1le, n7m, pk_mul, l2, l3, l4, l5, l6, l7, l8, l9, l10, l13, l16, l20, l26, l27, l48, l57, l58, l60, l62, l70, l80, l90, l128, l140, l160, l420, l2000, l2001, bI_0, bI_1, bI_zz, bI_t, bI_f, zz_0, zz_1, ↓reduceIte, if_true, if_false, decide_true, decide_false, Bool.false_and, Bool.and_false, Bool.true_and, Bool.and_true, Bool.not_true, Bool.not_false, reduceCtorEq, Nat.reduceLeDiff, Nat.reduceEqDiff, Nat.reduceLT, Bool.true_eq_false, Bool.false_eq_true, eq_self, f_X1_piece_L6, nc_n hr, nc_t hr, nc_f hr, nc_lt hr, nc_lf hr, nc_st hr, nc_sf hr, nc_k hr, nc_p hr, h0, h3]; rfl)
  simp (disch := omega) only [i10, i01, gO_s, bO_s, lt_e, Sum.elim_inl, Sum.elim_inr, nI_1, nI_add, nle, nlt, neq, neq0, neq1, nlt0, nle0, n0le, n0lt, nlt1, n1le, n7m, pk_mul, l2, l3, l4, l5, l6, l7, l8, l9, l10, l13, l16, l20, l26, l27, l48, l57, l58, l60, l62, l70, l80, l90, l128, l140, l160, l420, l2000, l2001, bI_0, bI_1, bI_zz, bI_t, bI_f, zz_0, zz_1, ↓reduceIte, if_true, if_false, decide_true, decide_false, Bool.false_and, Bool.and_false, Bool.true_and, Bool.and_true, Bool.not_true, Bool.not_false, reduceCtorEq, Nat.reduceLeDiff, Nat.reduceEqDiff, Nat.reduceLT, Bool.true_eq_false, Bool.false_eq_true, eq_self, f_X1_piece]
  exact bO_e key
/-- pieces met so far: nodes seen, their number -/
def sPcs (n : Nat) (E : Nat → Nat → Bool) : Nat → Int32 × Nat
  | 0 => (0, 0)
  | a + 1 => if bt (sPcs n E a).1 a = true then sPcs n E a else ((sPcs n E a).1 ||| sPiece n E a, (sPcs n E a).2 + 1)
theorem q_pieces (hr : isN r) (hN : NetC s r n E) (hn : n ≤ 27) (h5 : 1 ≤ n) : f_X1_pieces r (s, rC g h) = some (nI (sPcs n E n).2, (s, rC g h)) := by
  have hN' := hN
  obtain ⟨h0, h1, h2⟩ := hN
  have key := wh_pure (f := f_X1_pieces_L6 r) (σ := (s, rC g h)) n (fun k => ((sPcs n E k).1, nI (sPcs n E k).2, nI k)) (x := nI (sPcs n E n).2) (fun k hk => by
    have h3 : ¬ n ≤ k := by omega
    cases e : bt (sPcs n E k).1 k
    · simp (disch := omega) only [i10, i01, gO_s, bO_s, lt_e, Sum.elim_inl, Sum.elim_inr, nI_1, nI_add, nle, nlt, neq, neq0, neq1, nlt0, nle0, n0le, n0lt, nlt1, n1le, n7m, pk_mul, l2, l3, l4, l5, l6, l7, l8, l9, l10, l13, l16, l20, l26, l27, l48, l57, l58, l60, l62, l70, l80, l90, l128, l140, l160, l420, l2000, l2001, bI_0, bI_1, bI_zz, bI_t, bI_f, zz_0, zz_1, ↓reduceIte, if_true, if_false, decide_true, decide_false, Bool.false_and, Bool.and_false, Bool.true_and, Bool.and_true, Bool.not_true, Bool.not_false, reduceCtorEq, Nat.reduceLeDiff, Nat.reduceEqDiff, Nat.reduceLT, Bool.true_eq_false, Bool.false_eq_true, eq_self, f_X1_pieces_L6, f_X1_pieces_b33, nc_n hr, nc_t hr, nc_f hr, nc_lt hr, nc_lf hr, nc_st hr, nc_sf hr, nc_k hr, nc_p hr, h0, h3, q_has, e, q_piece hr hN' hn h5, sPcs]
    · simp (disch := omega) only [i10, i01, gO_s, bO_s, lt_e, Sum.elim_inl, Sum.elim_inr, nI_1, nI_add, nle, nlt, neq, neq0, neq1, nlt0, nle0, n0le, n0lt, nlt1, n1le, n7m, pk_mul, l2, l3, l4, l5, l6, l7, l8, l9, l10, l13, l16, l20, l26, l27, l48, l57, l58, l60, l62, l70, l80, l90, l128, l140, l160, l420, l2000, l2001, bI_0, bI_1, bI_zz, bI_t, bI_f, zz_0, zz_1, ↓reduceIte, if_true, if_false, decide_true, decide_false, Bool.false_and, Bool.and_false, Bool.true_and, Bool.and_true, Bool.not_true, Bool.not_false, reduceCtorEq, Nat.reduceLeDiff, Nat.reduceEqDiff, Nat.reduceLT, Bool.true_eq_false, Bool.false_eq_true, eq_self, f_X1_pieces_L6, f_X1_pieces_b33, nc_n hr, nc_t hr, nc_f hr, nc_lt hr, nc_lf hr, nc_st hr, nc_sf hr, nc_k hr, nc_p hr, h0, h3, q_has, e, sPcs]) (by
    simp (disch := omega) only [i10, i01, gO_s, bO_s, lt_e, Sum.elim_inl, Sum.elim_inr, nI_1, nI_add, nle, nlt, neq, neq0, neq1, nlt0, nle0, n0le, n0lt, nlt1, n1le, n7m, pk_mul, l2, l3, l4, l5, l6, l7, l8, l9, l10, l13, l16, l20, l26, l27, l48, l57, l58, l60, l62, l70, l80, l90, l128, l140, l160, l420, l2000, l2001, bI_0, bI_1, bI_zz, bI_t, bI_f, zz_0, zz_1, ↓reduceIte, if_true, if_false, decide_true, decide_false, Bool.false_and, Bool.and_false, Bool.true_and, Bool.and_true, Bool.not_true, Bool.not_false, reduceCtorEq, Nat.reduceLeDiff, Nat.reduceEqDiff, Nat.reduceLT, Bool.true_eq_false, Bool.false_eq_true, eq_self, f_X1_pieces_L6, nc_n hr, nc_t hr, nc_f hr, nc_lt hr, nc_lf hr, nc_st hr, nc_sf hr, nc_k hr, nc_p hr, h0, Nat.le_refl])
  unfold f_X1_pieces
  exact bO_e key
theorem q_onRings (hr : isN r) (hN : NetC s r n E) (hn : n ≤ 27) : f_X1_onRings r (s, rC g h) = some (orI (fun a => sAhead n E a &&& ((1 : Int32) <<< (nI a &&& 31))) n, (s, rC g h)) := by
  have hN' := hN
  obtain ⟨h0, h1, h2⟩ := hN
  have key := wh_pure (f := f_X1_onRings_L4 r) (σ := (s, rC g h)) n (fun k => (orI (fun a => sAhead n E a &&& ((1 : Int32) <<< (nI a &&& 31))) k, nI k)) (x := orI (fun a => sAhead n E a &&& ((1 : Int32) <<< (nI a &&& 31))) n) (fun k hk => by
    have h3 : ¬ n ≤ k := by omega
    simp (disch := omega) only [i10, i01, gO_s, bO_s, lt_e, Sum.elim_inl, Sum.elim_inr, nI_1, nI_add, nle, nlt, neq, neq0, neq1, nlt0, nle0, n0le, n0lt, nlt1, n1le, n7m, pk_mul, l2, l3, l4, l5, l6, l7, l8, l9, l10, l13, l16, l20, l26, l27, l48, l57, l58, l60, l62, l70, l80, l90, l128, l140, l160, l420, l2000, l2001, bI_0, bI_1, bI_zz, bI_t, bI_f, zz_0, zz_1, ↓reduceIte, if_true, if_false, decide_true, decide_false, Bool.false_and, Bool.and_false, Bool.true_and, Bool.and_true, Bool.not_true, Bool.not_false, reduceCtorEq, Nat.reduceLeDiff, Nat.reduceEqDiff, Nat.reduceLT, Bool.true_eq_false, Bool.false_eq_true, eq_self, f_X1_onRings_L4, nc_n hr, nc_t hr, nc_f hr, nc_lt hr, nc_lf hr, nc_st hr, nc_sf hr, nc_k hr, nc_p hr, h0, h3, q_ahead hr hN' hn (by omega), orI_s]) (by
    simp (disch := omega) only [i10, i01, gO_s, bO_s, lt_e, Sum.elim_inl, Sum.elim_inr, nI_1, nI_add, nle, nlt, neq, neq0, neq1, nlt0, nle0, n0le, n0lt, nlt1, n1le, n7m, pk_mul, l2, l3, l4, l5, l6, l7, l8, l9, l10, l13, l16, l20, l26, l27, l48, l57, l58, l60, l62, l70, l80, l90, l128, l140, l160, l420, l2000, l2001, bI_0, bI_1, bI_zz, bI_t, bI_f, zz_0, zz_1, ↓reduceIte, if_true, if_false, decide_true, decide_false, Bool.false_and, Bool.and_false, Bool.true_and, Bool.and_true, Bool.not_true, Bool.not_false, reduceCtorEq, Nat.reduceLeDiff, Nat.reduceEqDiff, Nat.reduceLT, Bool.true_eq_false, Bool.false_eq_true, eq_self, f_X1_onRings_L4, nc_n hr, nc_t hr, nc_f hr, nc_lt hr, nc_lf hr, nc_st hr, nc_sf hr, nc_k hr, nc_p hr, h0, Nat.le_refl])
  unfold f_X1_onRings
  exact bO_e key
/-- the first length at which a round from a node comes back, else 0; lengths from k on, m of them -/
def sRing (n : Nat) (E : Nat → Nat → Bool) (a : Nat) : Nat → Nat → Int32 → Nat
  | 0, _, _ => 0
  | m + 1, k, x => if bt (sOn (rT E) n x) a = true then k else sRing n E a m (k + 1) (sOn (rT E) n x)
theorem q_ringAt (hr : isN r) (hN : NetC s r n E) (hn : n ≤ 27) {a : Nat} (ha : a < 32) : f_X1_ringAt r (nI a) (s, rC g h) = some (nI (sRing n E a n 1 ((1 : Int32) <<< (nI a &&& 31))), (s, rC g h)) := by
  have hN' := hN
  obtain ⟨h0, h1, h2⟩ := hN
  have main : ∀ (m k : Nat) (x : Int32), k + m = n + 1 → ∃ y, wh (f_X1_ringAt_L6 r (nI a)) (x, nI k) (s, rC g h) = some (y, (s, rC g h)) ∧ Sum.elim (fun z => z) (fun _ => 0) y = nI (sRing n E a m k x) := by
    intro m
    induction m with
    | zero =>
      intro k x hk
      have h3 : n < k := by omega
      refine ⟨.inr (), wh_inr ?_, rfl⟩
      simp (disch := omega) only [i10, i01, gO_s, bO_s, lt_e, Sum.elim_inl, Sum.elim_inr, nI_1, nI_add, nle, nlt, neq, neq0, neq1, nlt0, nle0, n0le, n0lt, nlt1, n1le, n7m, pk_mul, l2, l3, l4, l5, l6, l7, l8, l9, l10, l13, l16, l20, l26, l27, l48, l57, l58, l60, l62, l70, l80, l90, l128, l140, l160, l420, l2000, l2001, bI_0, bI_1, bI_zz, bI_t, bI_f, zz_0, zz_1, ↓reduceIte, if_true, if_false, decide_true, decide_false, Bool.false_and, Bool.and_false, Bool.true_and, Bool.and_true, Bool.not_true, Bool.not_false, reduceCtorEq, Nat.reduceLeDiff, Nat.reduceEqDiff, Nat.reduceLT, Bool.true_eq_false, Bool.false_eq_true, eq_self, f_X1_ringAt_L6, nc_n hr, nc_t hr, nc_f hr, nc_lt hr, nc_lf hr, nc_st hr, nc_sf hr, nc_k hr, nc_p hr, h0, h3]
    | succ m ih =>
      intro k x hk
      have h3 : ¬ n < k := by omega
      cases e : bt (sOn (rT E) n x) a
      · obtain ⟨y, h4, h5⟩ := ih (k + 1) (sOn (rT E) n x) (by omega)
        refine ⟨y, (wh_inl ?_).trans h4, ?_⟩
        · simp (disch := omega) only [i10, i01, gO_s, bO_s, lt_e, Sum.elim_inl, Sum.elim_inr, nI_1, nI_add, nle, nlt, neq, neq0, neq1, nlt0, nle0, n0le, n0lt, nlt1, n1le, n7m, pk_mul, l2, l3, l4, l5, l6, l7, l8, l9, l10, l13, l16, l20, l26, l27, l48, l57, l58, l60, l62, l70, l80, l90, l128, l140, l160, l420, l2000, l2001, bI_0, bI_1, bI_zz, bI_t, bI_f, zz_0, zz_1, ↓reduceIte, if_true, if_false, decide_true, decide_false, Bool.false_and, Bool.and_false, Bool.true_and, Bool.and_true, Bool.not_true, Bool.not_false, reduceCtorEq, Nat.reduceLeDiff, Nat.reduceEqDiff, Nat.reduceLT, Bool.true_eq_false, Bool.false_eq_true, eq_self, f_X1_ringAt_L6, nc_n hr, nc_t hr, nc_f hr, nc_lt hr, nc_lf hr, nc_st hr, nc_sf hr, nc_k hr, nc_p hr, h0, h3, q_onward hr hN' hn, q_has, e]
        · rw [h5]; simp only [sRing, e]; rfl
      · refine ⟨.inl (nI k), wh_inr ?_, ?_⟩
        · simp (disch := omega) only [i10, i01, gO_s, bO_s, lt_e, Sum.elim_inl, Sum.elim_inr, nI_1, nI_add, nle, nlt, neq, neq0, neq1, nlt0, nle0, n0le, n0lt, nlt1, n1le, n7m, pk_mul, l2, l3, l4, l5, l6, l7, l8, l9, l10, l13, l16, l20, l26, l27, l48, l57, l58, l60, l62, l70, l80, l90, l128, l140, l160, l420, l2000, l2001, bI_0, bI_1, bI_zz, bI_t, bI_f, zz_0, zz_1, ↓reduceIte, if_true, if_false, decide_true, decide_false, Bool.false_and, Bool.and_false, Bool.true_and, Bool.and_true, Bool.not_true, Bool.not_false, reduceCtorEq, Nat.reduceLeDiff, Nat.reduceEqDiff, Nat.reduceLT, Bool.true_eq_false, Bool.false_eq_true, eq_self, f_X1_ringAt_L6, nc_n hr, nc_t hr, nc_f hr, nc_lt hr, nc_lf hr, nc_st hr, nc_sf hr, nc_k hr, nc_p hr, h0, h3, q_onward hr hN' hn, q_has, e]
        · simp only [sRing, e]; rfl
  obtain ⟨y, h3, h4⟩ := main n 1 ((1 : Int32) <<< (nI a &&& 31)) (by omega)
  simp (disch := omega) only [i10, i01, gO_s, bO_s, lt_e, Sum.elim_inl, Sum.elim_inr, nI_1, nI_add, nle, nlt, neq, neq0, neq1, nlt0, nle0, n0le, n0lt, nlt1, n1le, n7m, pk_mul, l2, l3, l4, l5, l6, l7, l8, l9, l10, l13, l16, l20, l26, l27, l48, l57, l58, l60, l62, l70, l80, l90, l128, l140, l160, l420, l2000, l2001, bI_0, bI_1, bI_zz, bI_t, bI_f, zz_0, zz_1, ↓reduceIte, if_true, if_false, decide_true, decide_false, Bool.false_and, Bool.and_false, Bool.true_and, Bool.and_true, Bool.not_true, Bool.not_false, reduceCtorEq, Nat.reduceLeDiff, Nat.reduceEqDiff, Nat.reduceLT, Bool.true_eq_false, Bool.false_eq_true, eq_self, f_X1_ringAt]
  refine (bO_e h3).trans ?_
  rw [← h4]
  cases y <;> rfl
theorem sRing_le (n : Nat) (E : Nat → Nat → Bool) (a : Nat) : ∀ (m k : Nat) (x : Int32), sRing n E a m k x ≤ k + m := by
  intro m
  induction m with
  | zero => intro k x; exact Nat.zero_le _
  | succ m ih =>
    intro k x
    unfold sRing
    split
    · omega
    · have := ih (k + 1) (sOn (rT E) n x); omega
/-- the less of two, 0 being none -/
def lesser (x y : Nat) : Nat := if y = 0 then x else if x = 0 then y else if x ≤ y then x else y
def sShort (n : Nat) (E : Nat → Nat → Bool) : Nat → Nat
  | 0 => 0
  | a + 1 => lesser (sShort n E a) (sRing n E a n 1 ((1 : Int32) <<< (nI a &&& 31)))
theorem sShort_le (n : Nat) (E : Nat → Nat → Bool) : ∀ k, sShort n E k ≤ n + 1 := by
  intro k
  induction k with
  | zero => exact Nat.zero_le _
  | succ k ih =>
    have := sRing_le n E k n 1 ((1 : Int32) <<< (nI k &&& 31))
    unfold sShort lesser
    split
    · exact ih
    · split
      · omega
      · split <;> omega
theorem q_shortest (hr : isN r) (hN : NetC s r n E) (hn : n ≤ 27) : f_X1_shortestRing r (s, rC g h) = some (nI (sShort n E n), (s, rC g h)) := by
  have hN' := hN
  obtain ⟨h0, h1, h2⟩ := hN
  have key := wh_pure (f := f_X1_shortestRing_L4 r) (σ := (s, rC g h)) n (fun k => (nI (sShort n E k), nI k)) (x := nI (sShort n E n)) (fun k hk => by
    have h3 : ¬ n ≤ k := by omega
    have h4 := sRing_le n E k n 1 ((1 : Int32) <<< (nI k &&& 31))
    have h5 := sShort_le n E k
    have h6 : sShort n E (k + 1) = lesser (sShort n E k) (sRing n E k n 1 ((1 : Int32) <<< (nI k &&& 31))) := rfl
    have h7 := q_ringAt (g := g) (h := h) hr hN' hn (a := k) (by omega)
    show f_X1_shortestRing_L4 r (nI (sShort n E k), nI k) (s, rC g h) = some (Sum.inl (nI (sShort n E (k + 1)), nI (k + 1)), (s, rC g h))
    rw [h6]
    generalize sRing n E k n 1 ((1 : Int32) <<< (nI k &&& 31)) = y at *
    generalize sShort n E k = x at *
    simp (disch := omega) only [i10, i01, gO_s, bO_s, lt_e, Sum.elim_inl, Sum.elim_inr, nI_1, nI_add, nle, nlt, neq, neq0, neq1, nlt0, nle0, n0le, n0lt, nlt1, n1le, n7m, pk_mul, l2, l3, l4, l5, l6, l7, l8, l9, l10, l13, l16, l20, l26, l27, l48, l57, l58, l60, l62, l70, l80, l90, l128, l140, l160, l420, l2000, l2001, bI_0, bI_1, bI_zz, bI_t, bI_f, zz_0, zz_1, ↓reduceIte, if_true, if_false, decide_true, decide_false, Bool.false_and, Bool.and_false, Bool.true_and, Bool.and_true, Bool.not_true, Bool.not_false, reduceCtorEq, Nat.reduceLeDiff, Nat.reduceEqDiff, Nat.reduceLT, Bool.true_eq_false, Bool.false_eq_true, eq_self, f_X1_shortestRing_L4, f_X1_shortestRing_b33, f_X1_shortestRing_b31, nc_n hr, nc_t hr, nc_f hr, nc_lt hr, nc_lf hr, nc_st hr, nc_sf hr, nc_k hr, nc_p hr, h0, h3, h7, lesser]
    by_cases e1 : y = 0
    · simp only [e1, ↓reduceIte]
    · simp only [e1, ↓reduceIte]
      by_cases e2 : x = 0
      · simp only [e2, ↓reduceIte]
      · simp only [e2, ↓reduceIte]
        by_cases e3 : x ≤ y
        · simp only [e3, ↓reduceIte]
        · simp only [e3, ↓reduceIte]) (by
    simp (disch := omega) only [i10, i01, gO_s, bO_s, lt_e, Sum.elim_inl, Sum.elim_inr, nI_1, nI_add, nle, nlt, neq, neq0, neq1, nlt0, nle0, n0le, n0lt, nlt1, n1le, n7m, pk_mul, l2, l3, l4, l5, l6, l7, l8, l9, l10, l13, l16, l20, l26, l27, l48, l57, l58, l60, l62, l70, l80, l90, l128, l140, l160, l420, l2000, l2001, bI_0, bI_1, bI_zz, bI_t, bI_f, zz_0, zz_1, ↓reduceIte, if_true, if_false, decide_true, decide_false, Bool.false_and, Bool.and_false, Bool.true_and, Bool.and_true, Bool.not_true, Bool.not_false, reduceCtorEq, Nat.reduceLeDiff, Nat.reduceEqDiff, Nat.reduceLT, Bool.true_eq_false, Bool.false_eq_true, eq_self, f_X1_shortestRing_L4, nc_n hr, nc_t hr, nc_f hr, nc_lt hr, nc_lf hr, nc_st hr, nc_sf hr, nc_k hr, nc_p hr, h0, Nat.le_refl])
  unfold f_X1_shortestRing
  exact bO_e key
-- changes of a network
def Eset (E : Nat → Nat → Bool) (a b : Nat) (v : Bool) : Nat → Nat → Bool := fun x y => if x = a ∧ y = b then v else E x y
theorem Eset_T {E : Nat → Nat → Bool} {a b x : Nat} : rT (Eset E a b true) x = if x = a then rT E a ||| bs (fun i => decide (i = b)) else rT E x := by
  by_cases h : x = a
  · subst h
    rw [if_pos rfl]
    unfold rT
    rw [bs_or]
    apply bs_congr
    intro i _
    unfold Eset
    by_cases h2 : i = b <;> simp [h2]
  · rw [if_neg h]
    apply bs_congr
    intro i _
    unfold Eset
    simp [h]
theorem Eset_F {E : Nat → Nat → Bool} {a b x : Nat} : rF (Eset E a b true) x = if x = b then rF E b ||| bs (fun i => decide (i = a)) else rF E x := by
  by_cases h : x = b
  · subst h
    rw [if_pos rfl]
    unfold rF
    rw [bs_or]
    apply bs_congr
    intro i _
    unfold Eset
    by_cases h2 : i = a <;> simp [h2]
  · rw [if_neg h]
    apply bs_congr
    intro i _
    unfold Eset
    simp [h]
theorem Eset_Tf {E : Nat → Nat → Bool} {a b x : Nat} : rT (Eset E a b false) x = if x = a then rT E a &&& (bs (fun i => decide (i = b)) ^^^ (-1)) else rT E x := by
  by_cases h : x = a
  · subst h
    rw [if_pos rfl, bs_not]
    unfold rT
    rw [bs_and]
    apply bs_congr
    intro i _
    unfold Eset
    by_cases h2 : i = b <;> simp [h2]
  · rw [if_neg h]
    apply bs_congr
    intro i _
    unfold Eset
    simp [h]
theorem Eset_Ff {E : Nat → Nat → Bool} {a b x : Nat} : rF (Eset E a b false) x = if x = b then rF E b &&& (bs (fun i => decide (i = a)) ^^^ (-1)) else rF E x := by
  by_cases h : x = b
  · subst h
    rw [if_pos rfl, bs_not]
    unfold rF
    rw [bs_and]
    apply bs_congr
    intro i _
    unfold Eset
    by_cases h2 : i = a <;> simp [h2]
  · rw [if_neg h]
    apply bs_congr
    intro i _
    unfold Eset
    simp [h]
theorem n_1 (r : Nat) : ¬ r = r + 1 := by omega
theorem n_2 (r : Nat) : ¬ r = r + 2 := by omega
theorem q_join (hr : isN r) (hN : NetC s r n E) {a b : Nat} (ha : a < 27) (hb : b < 27) : ∃ s', f_X1_join r (nI a) (nI b) (s, rC g h) = some ((), (s', rC g h)) ∧ NetC s' r n (Eset E a b true) ∧ Fr [r + 1, r + 2] s s' := by
  obtain ⟨h0, h1, h2⟩ := hN
  have e0 : ¬ r + 2 = r + 1 := by omega
  have e1 : st2 s (r + 1) a (s (r + 1) a ||| bs (fun i => decide (i = b))) (r + 2) = s (r + 2) := st2_o _ _ e0
  refine ⟨st2 (st2 s (r + 1) a (s (r + 1) a ||| bs (fun i => decide (i = b)))) (r + 2) b (s (r + 2) b ||| bs (fun i => decide (i = a))), ?_, ⟨?_, ?_, ?_⟩, ?_⟩
  · simp (disch := omega) only [i10, i01, gO_s, bO_s, lt_e, Sum.elim_inl, Sum.elim_inr, nI_1, nI_add, nle, nlt, neq, neq0, neq1, nlt0, nle0, n0le, n0lt, nlt1, n1le, n7m, pk_mul, l2, l3, l4, l5, l6, l7, l8, l9, l10, l13, l16, l20, l26, l27, l48, l57, l58, l60, l62, l70, l80, l90, l128, l140, l160, l420, l2000, l2001, bI_0, bI_1, bI_zz, bI_t, bI_f, zz_0, zz_1, ↓reduceIte, if_true, if_false, decide_true, decide_false, Bool.false_and, Bool.and_false, Bool.true_and, Bool.and_true, Bool.not_true, Bool.not_false, reduceCtorEq, Nat.reduceLeDiff, Nat.reduceEqDiff, Nat.reduceLT, Bool.true_eq_false, Bool.false_eq_true, eq_self, f_X1_join, nc_n hr, nc_t hr, nc_f hr, nc_lt hr, nc_lf hr, nc_st hr, nc_sf hr, nc_k hr, nc_p hr, bs_one, e1]
  · rw [st2_o _ _ (by omega), st2_o _ _ (by omega)]; exact h0
  · intro x hx
    rw [st2_o _ _ (by omega), st2_k, Eset_T, h1 a ha, h1 x hx]
  · intro x hx
    rw [st2_k, e1, Eset_F, h2 b hb, h2 x hx]
  · exact Fr_st (Fr_st (Fr_r _ _) (by simp)) (by simp)
theorem q_sever (hr : isN r) (hN : NetC s r n E) {a b : Nat} (ha : a < 27) (hb : b < 27) : ∃ s', f_X1_sever r (nI a) (nI b) (s, rC g h) = some ((), (s', rC g h)) ∧ NetC s' r n (Eset E a b false) ∧ Fr [r + 1, r + 2] s s' := by
  obtain ⟨h0, h1, h2⟩ := hN
  have e0 : ¬ r + 2 = r + 1 := by omega
  have e1 : st2 s (r + 1) a (s (r + 1) a &&& (bs (fun i => decide (i = b)) ^^^ (-1))) (r + 2) = s (r + 2) := st2_o _ _ e0
  refine ⟨st2 (st2 s (r + 1) a (s (r + 1) a &&& (bs (fun i => decide (i = b)) ^^^ (-1)))) (r + 2) b (s (r + 2) b &&& (bs (fun i => decide (i = a)) ^^^ (-1))), ?_, ⟨?_, ?_, ?_⟩, ?_⟩
  · simp (disch := omega) only [i10, i01, gO_s, bO_s, lt_e, Sum.elim_inl, Sum.elim_inr, nI_1, nI_add, nle, nlt, neq, neq0, neq1, nlt0, nle0, n0le, n0lt, nlt1, n1le, n7m, pk_mul, l2, l3, l4, l5, l6, l7, l8, l9, l10, l13, l16, l20, l26, l27, l48, l57, l58, l60, l62, l70, l80, l90, l128, l140, l160, l420, l2000, l2001, bI_0, bI_1, bI_zz, bI_t, bI_f, zz_0, zz_1, ↓reduceIte, if_true, if_false, decide_true, decide_false, Bool.false_and, Bool.and_false, Bool.true_and, Bool.and_true, Bool.not_true, Bool.not_false, reduceCtorEq, Nat.reduceLeDiff, Nat.reduceEqDiff, Nat.reduceLT, Bool.true_eq_false, Bool.false_eq_true, eq_self, f_X1_sever, nc_n hr, nc_t hr, nc_f hr, nc_lt hr, nc_lf hr, nc_st hr, nc_sf hr, nc_k hr, nc_p hr, bs_one, e1]
  · rw [st2_o _ _ (by omega), st2_o _ _ (by omega)]; exact h0
  · intro x hx
    rw [st2_o _ _ (by omega), st2_k, Eset_Tf, h1 a ha, h1 x hx]
  · intro x hx
    rw [st2_k, e1, Eset_Ff, h2 b hb, h2 x hx]
  · exact Fr_st (Fr_st (Fr_r _ _) (by simp)) (by simp)
def E0 : Nat → Nat → Bool := fun _ _ => false
theorem rT_0 (a : Nat) : rT E0 a = 0 := bs_0.symm
theorem rF_0 (a : Nat) : rF E0 a = 0 := bs_0.symm
theorem q_begin (hr : isN r) (n : Nat) : ∃ s', f_X1_begin r (nI n) (s, rC g h) = some ((), (s', rC g h)) ∧ NetC s' r n E0 ∧ Fr [r, r + 1, r + 2] s s' := by
  have key := wh_up (f := f_X1_begin_L7 r) 27 (fun k v σ => v = nI k ∧ ∃ s', σ = (s', rC g h) ∧ Fr [r, r + 1, r + 2] s s' ∧ s' r 0 = nI n ∧ (∀ a, a < k → s' (r + 1) a = 0) ∧ (∀ a, a < k → s' (r + 2) a = 0)) (Q := fun _ σ => ∃ s', σ = (s', rC g h) ∧ NetC s' r n E0 ∧ Fr [r, r + 1, r + 2] s s') (by
    rintro k v σ hk ⟨rfl, s1, rfl, hf, h0, h1, h2⟩
    have h3 : ¬ 27 ≤ k := by omega
    refine ⟨.inl (nI (k + 1)), (st2 (st2 s1 (r + 1) k 0) (r + 2) k 0, rC g h), ?_, rfl, _, rfl, ?_, ?_, ?_, ?_⟩
    · simp (disch := omega) only [i10, i01, gO_s, bO_s, lt_e, Sum.elim_inl, Sum.elim_inr, nI_1, nI_add, nle, nlt, neq, neq0, neq1, nlt0, nle0, n0le, n0lt, nlt1, n1le, n7m, pk_mul, l2, l3, l4, l5, l6, l7, l8, l9, l10, l13, l16, l20, l26, l27, l48, l57, l58, l60, l62, l70, l80, l90, l128, l140, l160, l420, l2000, l2001, bI_0, bI_1, bI_zz, bI_t, bI_f, zz_0, zz_1, ↓reduceIte, if_true, if_false, decide_true, decide_false, Bool.false_and, Bool.and_false, Bool.true_and, Bool.and_true, Bool.not_true, Bool.not_false, reduceCtorEq, Nat.reduceLeDiff, Nat.reduceEqDiff, Nat.reduceLT, Bool.true_eq_false, Bool.false_eq_true, eq_self, f_X1_begin_L7, nc_n hr, nc_t hr, nc_f hr, nc_lt hr, nc_lf hr, nc_st hr, nc_sf hr, nc_k hr, nc_p hr, h3]
    · exact Fr_st (Fr_st hf (by simp)) (by simp)
    · rw [st2_o _ _ (by omega), st2_o _ _ (by omega)]; exact h0
    · intro a ha
      rw [st2_o _ _ (by omega), st2_k]
      split
      · rfl
      · exact h1 a (by omega)
    · intro a ha
      rw [st2_k]
      split
      · rfl
      · rw [st2_o _ _ (by omega)]; exact h2 a (by omega)) (by
    rintro v σ ⟨rfl, s1, rfl, hf, h0, h1, h2⟩
    refine ⟨(), (s1, rC g h), ?_, s1, rfl, ⟨h0, fun a ha => (h1 a ha).trans (rT_0 a).symm, fun a ha => (h2 a ha).trans (rF_0 a).symm⟩, hf⟩
    simp (disch := omega) only [i10, i01, gO_s, bO_s, lt_e, Sum.elim_inl, Sum.elim_inr, nI_1, nI_add, nle, nlt, neq, neq0, neq1, nlt0, nle0, n0le, n0lt, nlt1, n1le, n7m, pk_mul, l2, l3, l4, l5, l6, l7, l8, l9, l10, l13, l16, l20, l26, l27, l48, l57, l58, l60, l62, l70, l80, l90, l128, l140, l160, l420, l2000, l2001, bI_0, bI_1, bI_zz, bI_t, bI_f, zz_0, zz_1, ↓reduceIte, if_true, if_false, decide_true, decide_false, Bool.false_and, Bool.and_false, Bool.true_and, Bool.and_true, Bool.not_true, Bool.not_false, reduceCtorEq, Nat.reduceLeDiff, Nat.reduceEqDiff, Nat.reduceLT, Bool.true_eq_false, Bool.false_eq_true, eq_self, f_X1_begin_L7, Nat.le_refl]) (k := 0) (v := 0) (σ := (st2 s r 0 (nI n), rC g h)) (by omega) ⟨rfl, _, rfl, Fr_st (Fr_r _ _) (by simp), st2_s _ _ _ _, fun _ h => by omega, fun _ h => by omega⟩
  obtain ⟨x, σ', e1, s2, rfl, h3, h4⟩ := key
  refine ⟨s2, ?_, h3, h4⟩
  simp (disch := omega) only [i10, i01, gO_s, bO_s, lt_e, Sum.elim_inl, Sum.elim_inr, nI_1, nI_add, nle, nlt, neq, neq0, neq1, nlt0, nle0, n0le, n0lt, nlt1, n1le, n7m, pk_mul, l2, l3, l4, l5, l6, l7, l8, l9, l10, l13, l16, l20, l26, l27, l48, l57, l58, l60, l62, l70, l80, l90, l128, l140, l160, l420, l2000, l2001, bI_0, bI_1, bI_zz, bI_t, bI_f, zz_0, zz_1, ↓reduceIte, if_true, if_false, decide_true, decide_false, Bool.false_and, Bool.and_false, Bool.true_and, Bool.and_true, Bool.not_true, Bool.not_false, reduceCtorEq, Nat.reduceLeDiff, Nat.reduceEqDiff, Nat.reduceLT, Bool.true_eq_false, Bool.false_eq_true, eq_self, f_X1_begin, nc_n hr, nc_t hr, nc_f hr, nc_lt hr, nc_lf hr, nc_st hr, nc_sf hr, nc_k hr, nc_p hr]
  exact (bO_e e1).trans rfl
theorem q_like {r2 : Nat} (hr : isN r) (hr2 : isN r2) (hN : NetC s r2 n E) (e1 : r2 ≠ r) (e2 : r2 ≠ r + 1) (e3 : r2 ≠ r + 2) (e4 : r2 + 1 ≠ r) (e5 : r2 + 2 ≠ r) : ∃ s', f_X1_like r r2 (s, rC g h) = some ((), (s', rC g h)) ∧ NetC s' r n E ∧ Fr [r, r + 1, r + 2] s s' := by
  obtain ⟨g0, g1, g2⟩ := hN
  have key := wh_up (f := f_X1_like_L10 r r2) 27 (fun k v σ => v = nI k ∧ ∃ s', σ = (s', rC g h) ∧ Fr [r, r + 1, r + 2] s s' ∧ s' r 0 = nI n ∧ (∀ a, a < k → s' (r + 1) a = rT E a) ∧ (∀ a, a < k → s' (r + 2) a = rF E a)) (Q := fun _ σ => ∃ s', σ = (s', rC g h) ∧ NetC s' r n E ∧ Fr [r, r + 1, r + 2] s s') (by
    rintro k v σ hk ⟨rfl, s1, rfl, hf, h0, h1, h2⟩
    have h3 : ¬ 27 ≤ k := by omega
    have f1 : s1 (r2 + 1) k = rT E k := by rw [hf _ (by simp; omega)]; exact g1 k hk
    have f2 : ∀ x, st2 s1 (r + 1) k x (r2 + 2) k = rF E k := by intro x; rw [st2_o _ _ (by omega), hf _ (by simp; omega)]; exact g2 k hk
    refine ⟨.inl (nI (k + 1)), (st2 (st2 s1 (r + 1) k (rT E k)) (r + 2) k (rF E k), rC g h), ?_, rfl, _, rfl, ?_, ?_, ?_, ?_⟩
    · simp (disch := omega) only [i10, i01, gO_s, bO_s, lt_e, Sum.elim_inl, Sum.elim_inr, nI_1, nI_add, nle, nlt, neq, neq0, neq1, nlt0, nle0, n0le, n0lt, nlt1, n1le, n7m, pk_mul, l2, l3, l4, l5, l6, l7, l8, l9, l10, l13, l16, l20, l26, l27, l48, l57, l58, l60, l62, l70, l80, l90, l128, l140, l160, l420, l2000, l2001, bI_0, bI_1, bI_zz, bI_t, bI_f, zz_0, zz_1, ↓reduceIte, if_true, if_false, decide_true, decide_false, Bool.false_and, Bool.and_false, Bool.true_and, Bool.and_true, Bool.not_true, Bool.not_false, reduceCtorEq, Nat.reduceLeDiff, Nat.reduceEqDiff, Nat.reduceLT, Bool.true_eq_false, Bool.false_eq_true, eq_self, f_X1_like_L10, nc_n hr, nc_t hr, nc_f hr, nc_lt hr, nc_lf hr, nc_st hr, nc_sf hr, nc_k hr, nc_p hr, nc_n hr2, nc_t hr2, nc_f hr2, nc_lt hr2, nc_lf hr2, nc_st hr2, nc_sf hr2, nc_k hr2, nc_p hr2, h3, f1, f2]
    · exact Fr_st (Fr_st hf (by simp)) (by simp)
    · rw [st2_o _ _ (by omega), st2_o _ _ (by omega)]; exact h0
    · intro a ha
      rw [st2_o _ _ (by omega), st2_k]
      split
      · rename_i e; rw [e]
      · exact h1 a (by omega)
    · intro a ha
      rw [st2_k]
      split
      · rename_i e; rw [e]
      · rw [st2_o _ _ (by omega)]; exact h2 a (by omega)) (by
    rintro v σ ⟨rfl, s1, rfl, hf, h0, h1, h2⟩
    refine ⟨(), (s1, rC g h), ?_, s1, rfl, ⟨h0, h1, h2⟩, hf⟩
    simp (disch := omega) only [i10, i01, gO_s, bO_s, lt_e, Sum.elim_inl, Sum.elim_inr, nI_1, nI_add, nle, nlt, neq, neq0, neq1, nlt0, nle0, n0le, n0lt, nlt1, n1le, n7m, pk_mul, l2, l3, l4, l5, l6, l7, l8, l9, l10, l13, l16, l20, l26, l27, l48, l57, l58, l60, l62, l70, l80, l90, l128, l140, l160, l420, l2000, l2001, bI_0, bI_1, bI_zz, bI_t, bI_f, zz_0, zz_1, ↓reduceIte, if_true, if_false, decide_true, decide_false, Bool.false_and, Bool.and_false, Bool.true_and, Bool.and_true, Bool.not_true, Bool.not_false, reduceCtorEq, Nat.reduceLeDiff, Nat.reduceEqDiff, Nat.reduceLT, Bool.true_eq_false, Bool.false_eq_true, eq_self, f_X1_like_L10, Nat.le_refl]) (k := 0) (v := 0) (σ := (st2 s r 0 (nI n), rC g h)) (by omega) ⟨rfl, _, rfl, Fr_st (Fr_r _ _) (by simp), st2_s _ _ _ _, fun _ h => by omega, fun _ h => by omega⟩
  obtain ⟨x, σ', e1, s2, rfl, h3, h4⟩ := key
  refine ⟨s2, ?_, h3, h4⟩
  simp (disch := omega) only [i10, i01, gO_s, bO_s, lt_e, Sum.elim_inl, Sum.elim_inr, nI_1, nI_add, nle, nlt, neq, neq0, neq1, nlt0, nle0, n0le, n0lt, nlt1, n1le, n7m, pk_mul, l2, l3, l4, l5, l6, l7, l8, l9, l10, l13, l16, l20, l26, l27, l48, l57, l58, l60, l62, l70, l80, l90, l128, l140, l160, l420, l2000, l2001, bI_0, bI_1, bI_zz, bI_t, bI_f, zz_0, zz_1, ↓reduceIte, if_true, if_false, decide_true, decide_false, Bool.false_and, Bool.and_false, Bool.true_and, Bool.and_true, Bool.not_true, Bool.not_false, reduceCtorEq, Nat.reduceLeDiff, Nat.reduceEqDiff, Nat.reduceLT, Bool.true_eq_false, Bool.false_eq_true, eq_self, f_X1_like, nc_n hr, nc_t hr, nc_f hr, nc_lt hr, nc_lf hr, nc_st hr, nc_sf hr, nc_k hr, nc_p hr, nc_n hr2, nc_t hr2, nc_f hr2, nc_lt hr2, nc_lf hr2, nc_st hr2, nc_sf hr2, nc_k hr2, nc_p hr2, g0]
  exact (bO_e e1).trans rfl
end NETC
