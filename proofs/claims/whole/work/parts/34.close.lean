/-! sets that grow until nothing is added; the reference's reach, pieces, rings -/
theorem itI_c (f : Int32 → Int32) : ∀ (k : Nat) (x : Int32), itI f k (f x) = f (itI f k x) := by
  intro k
  induction k with
  | zero => intro x; rfl
  | succ k ih => intro x; show f (itI f k (f x)) = _; rw [ih]; rfl
theorem itI_fix {f : Int32 → Int32} {x : Int32} (h : f x = x) : ∀ k, itI f k x = x := by
  intro k
  induction k with
  | zero => rfl
  | succ k ih => show f (itI f k x) = x; rw [ih, h]
theorem itI_up {f : Int32 → Int32} {x : Int32} {k : Nat} (h : f (itI f k x) = itI f k x) : ∀ j, itI f (k + j) x = itI f k x := by
  intro j
  induction j with
  | zero => rfl
  | succ j ih => show f (itI f (k + j) x) = _; rw [ih, h]
theorem ct_lt {x y : Int32} {n : Nat} (h1 : ∀ i, i < 32 → bt x i = true → bt y i = true) (hy : lo n y) (hn : n ≤ 32) (hne : y ≠ x) : fb_ct (bt x) n < fb_ct (bt y) n := by
  rcases Nat.lt_or_ge (fb_ct (bt x) n) (fb_ct (bt y) n) with h | h
  · exact h
  · exfalso
    apply hne
    have h2 := fb_ct_sub (n := n) (p := bt x) (q := bt y) (fun k hk => h1 k (by omega))
    apply b_ext
    intro i hi
    cases e : bt y i
    · cases e2 : bt x i
      · rfl
      · rw [h1 i hi e2] at e; cases e
    · cases e2 : bt x i
      · exfalso
        by_cases hin : i < n
        · have h3 := fb_ct_upd (bt x) true hin
          rw [e2] at h3
          have h4 : fb_ct (fun k => if k = i then true else bt x k) n ≤ fb_ct (bt y) n := fb_ct_sub (fun k hk hp => by
            by_cases hki : k = i
            · rw [hki]; exact e
            · simp only [hki] at hp; exact h1 k (by omega) hp)
          simp only [↓reduceIte, Bool.false_eq_true] at h3
          omega
        · rw [hy i (by omega) hi] at e; cases e
      · rfl
theorem itI_stop {f : Int32 → Int32} {n : Nat} (hn : n ≤ 32) (h1 : ∀ x i, i < 32 → bt x i = true → bt (f x) i = true) (h2 : ∀ x, lo n x → lo n (f x)) {x : Int32} (hx : lo n x) (hc : 1 ≤ fb_ct (bt x) n) : f (itI f (n - 1) x) = itI f (n - 1) x := by
  have hlo : ∀ k, lo n (itI f k x) := by
    intro k
    induction k with
    | zero => exact hx
    | succ k ih => exact h2 _ ih
  have main : ∀ k, f (itI f k x) = itI f k x ∨ k + 1 < fb_ct (bt (itI f (k + 1) x)) n := by
    intro k
    induction k with
    | zero =>
      by_cases e : f x = x
      · exact Or.inl e
      · have := ct_lt (h1 x) (h2 _ hx) hn e
        right
        show 0 + 1 < fb_ct (bt (f x)) n
        omega
    | succ k ih =>
      rcases ih with ih | ih
      · left
        show f (f (itI f k x)) = f (itI f k x)
        rw [ih, ih]
      · by_cases e : f (itI f (k + 1) x) = itI f (k + 1) x
        · exact Or.inl e
        · have := ct_lt (h1 _) (h2 _ (hlo (k + 1))) hn e
          right
          show k + 1 + 1 < fb_ct (bt (f (itI f (k + 1) x))) n
          omega
  rcases main (n - 1) with h | h
  · exact h
  · have := fb_ct_le (bt (itI f (n - 1 + 1) x)) n
    have := fb_ct_le (bt x) n
    omega
theorem lo_or {k : Nat} {x y : Int32} (hx : lo k x) (hy : lo k y) : lo k (x ||| y) := fun i h1 h2 => by rw [b_or, hx i h1 h2, hy i h1 h2]; rfl
theorem lo_orI {k : Nat} {f : Nat → Int32} (h : ∀ a, lo k (f a)) : ∀ n, lo k (orI f n) := by
  intro n
  induction n with
  | zero => exact fun i _ _ => b_0 i
  | succ n ih => exact lo_or ih (h n)
theorem lo_On {n k : Nat} {R : Nat → Int32} (h : ∀ a, lo k (R a)) (x : Int32) : lo k (sOn R n x) := lo_orI (fun a => by
  show lo k (if bt x a = true then R a else 0)
  split
  · exact h a
  · exact fun i _ _ => b_0 i) n
theorem sOn_0 (R : Nat → Int32) (n : Nat) : sOn R n 0 = 0 := by
  unfold sOn
  induction n with
  | zero => rfl
  | succ n ih => rw [orI_s, ih, b_0, if_neg (by simp)]; rfl
theorem Int32_or_assoc (x y z : Int32) : (x ||| y) ||| z = x ||| (y ||| z) := b_ext fun i _ => by rw [b_or, b_or, b_or, b_or, Bool.or_assoc]
def fOn (n : Nat) (E : Nat → Nat → Bool) (x : Int32) : Int32 := x ||| sOn (rT E) n x
def fBo (n : Nat) (E : Nat → Nat → Bool) (x : Int32) : Int32 := x ||| (sOn (rT E) n x ||| sOn (rF E) n x)
theorem ct_pos {x : Int32} {n : Nat} (hx : lo n x) (h0 : ¬ x = 0) : 1 ≤ fb_ct (bt x) n := by
  rcases Nat.eq_zero_or_pos (fb_ct (bt x) n) with h | h
  · exfalso
    apply h0
    apply b_z.mpr
    intro i hi
    by_cases hin : i < n
    · exact fb_ct_zero.mp h i hin
    · exact hx i (by omega) hi
  · exact h
theorem sAhead_fix {n : Nat} {E : Nat → Nat → Bool} (hS : Sup n E) (hn : n ≤ 32) (a : Nat) : fOn n E (sAhead n E a) = sAhead n E a := by
  by_cases h0 : rT E a = 0
  · have e : sAhead n E a = 0 := by
      unfold sAhead
      rw [h0]
      exact itI_fix (f := fun x => x ||| sOn (rT E) n x) (by show 0 ||| sOn (rT E) n 0 = 0; rw [sOn_0]; rfl) _
    rw [e]; unfold fOn; rw [sOn_0]; rfl
  · exact itI_stop (f := fOn n E) hn (fun x i hi h => by unfold fOn; rw [b_or, h]; rfl) (fun x hx => lo_or hx (lo_On (fun a => lo_T hS (Nat.le_refl n)) x)) (lo_T hS (Nat.le_refl n)) (ct_pos (lo_T hS (Nat.le_refl n)) h0)
theorem lo_one {a n : Nat} (ha : a < n) (hn : n ≤ 32) : lo n ((1 : Int32) <<< (nI a &&& 31)) := fun i h1 h2 => by
  rw [b_one (by omega) h2]; exact decide_eq_false (by omega)
theorem one_n0 {a : Nat} (ha : a < 32) : ¬ (1 : Int32) <<< (nI a &&& 31) = 0 := fun h => by
  have := b_one ha ha
  rw [h, b_0] at this
  simp at this
theorem sPiece_fix {n : Nat} {E : Nat → Nat → Bool} (hS : Sup n E) (hn : n ≤ 32) {a : Nat} (ha : a < n) : fBo n E (sPiece n E a) = sPiece n E a := itI_stop (f := fBo n E) hn (fun x i hi h => by unfold fBo; rw [b_or, h]; rfl) (fun x hx => lo_or hx (lo_or (lo_On (fun a => lo_T hS (Nat.le_refl n)) x) (lo_On (fun a => lo_F hS (Nat.le_refl n)) x))) (lo_one ha hn) (ct_pos (lo_one ha hn) (one_n0 (by omega)))
theorem lo_it {f : Int32 → Int32} {n : Nat} (h2 : ∀ x, lo n x → lo n (f x)) {x : Int32} (hx : lo n x) : ∀ k, lo n (itI f k x) := by
  intro k
  induction k with
  | zero => exact hx
  | succ k ih => exact h2 _ ih
theorem lo_Piece {n : Nat} {E : Nat → Nat → Bool} (hS : Sup n E) (hn : n ≤ 32) {a : Nat} (ha : a < n) : lo n (sPiece n E a) := lo_it (f := fBo n E) (fun x hx => lo_or hx (lo_or (lo_On (fun a => lo_T hS (Nat.le_refl n)) x) (lo_On (fun a => lo_F hS (Nat.le_refl n)) x))) (lo_one ha hn) _
theorem lo_Ahead {n : Nat} {E : Nat → Nat → Bool} (hS : Sup n E) {a : Nat} : lo n (sAhead n E a) := lo_it (f := fOn n E) (fun x hx => lo_or hx (lo_On (fun a => lo_T hS (Nat.le_refl n)) x)) (lo_T hS (Nat.le_refl n)) _
theorem sPiece_self {n : Nat} {E : Nat → Nat → Bool} {a : Nat} (ha : a < 32) : bt (sPiece n E a) a = true := by
  have main : ∀ k, bt (itI (fBo n E) k ((1 : Int32) <<< (nI a &&& 31))) a = true := by
    intro k
    induction k with
    | zero => show bt ((1 : Int32) <<< (nI a &&& 31)) a = true; rw [b_one ha ha]; simp
    | succ k ih => show bt (fBo n E (itI (fBo n E) k ((1 : Int32) <<< (nI a &&& 31)))) a = true; unfold fBo at *; rw [b_or, ih]; rfl
  exact main _
section NETM
variable {n d : Nat} {s : Nat → Nat → Int32} {E : Nat → Nat → Bool}
theorem m_reach1 (hN : NetM s d n E) (hd : d ≤ 7) (hn : n ≤ 7) (x : Int32) : wh (f_X7_reachOf_L27 0 (nI d) x) (x, 0) (s, rM) = some (fOn n E x, (s, rM)) := by
  obtain ⟨h0, h1, h2⟩ := hN
  have key := wh_pure (f := f_X7_reachOf_L27 0 (nI d) x) (σ := (s, rM)) n (fun k => (x ||| sOn (rT E) k x, nI k)) (x := fOn n E x) (fun k hk => by
    have h3 : ¬ n ≤ k := by omega
    have h4 : sOn (rT E) (k + 1) x = sOn (rT E) k x ||| (if bt x k = true then rT E k else 0) := rfl
    cases e : bt x k
    · simp (disch := omega) only [i10, i01, gO_s, bO_s, lt_e, Sum.elim_inl, Sum.elim_inr, nI_1, nI_add, nle, nlt, neq, neq0, neq1, nlt0, nle0, n0le, n0lt, nlt1, n1le, n7m, pk_mul, l2, l3, l4, l5, l6, l7, l8, l9, l10, l13, l16, l20, l26, l27, l48, l57, l58, l60, l62, l70, l80, l90, l128, l140, l160, l420, l2000, l2001, bI_0, bI_1, bI_zz, bI_t, bI_f, zz_0, zz_1, ↓reduceIte, if_true, if_false, decide_true, decide_false, Bool.false_and, Bool.and_false, Bool.true_and, Bool.and_true, Bool.not_true, Bool.not_false, reduceCtorEq, Nat.reduceLeDiff, Nat.reduceEqDiff, Nat.reduceLT, Bool.true_eq_false, Bool.false_eq_true, eq_self, f_X7_reachOf_L27, f_X7_reachOf_b65, mI, mp, mk, mR0, mR1, mR2, mR3, mR4, mR5, mR9, mR10, mR16, mR17, mR18, mR21, mR22, mR23, mR25, mR26, mR29, mR30, mR35, mR36, mR37, mR38, mR39, ml1, ml2, ml3, ml4, ml5, ml6, ml7, ml8, ml9, ml10, ml11, ml12, ml13, ml14, ml15, ml16, ml17, ml18, ml19, ml20, ml21, ml22, ml23, ms1, ms2, ms3, ms4, ms5, ms6, ms7, ms8, ms9, ms10, ms11, ms12, ms13, ms14, ms15, ms16, ms17, ms18, ms19, ms20, ms21, ms22, ms23, h0, h1, h3, m_has, e, h4, or_0]
    · simp (disch := omega) only [i10, i01, gO_s, bO_s, lt_e, Sum.elim_inl, Sum.elim_inr, nI_1, nI_add, nle, nlt, neq, neq0, neq1, nlt0, nle0, n0le, n0lt, nlt1, n1le, n7m, pk_mul, l2, l3, l4, l5, l6, l7, l8, l9, l10, l13, l16, l20, l26, l27, l48, l57, l58, l60, l62, l70, l80, l90, l128, l140, l160, l420, l2000, l2001, bI_0, bI_1, bI_zz, bI_t, bI_f, zz_0, zz_1, ↓reduceIte, if_true, if_false, decide_true, decide_false, Bool.false_and, Bool.and_false, Bool.true_and, Bool.and_true, Bool.not_true, Bool.not_false, reduceCtorEq, Nat.reduceLeDiff, Nat.reduceEqDiff, Nat.reduceLT, Bool.true_eq_false, Bool.false_eq_true, eq_self, f_X7_reachOf_L27, f_X7_reachOf_b65, mI, mp, mk, mR0, mR1, mR2, mR3, mR4, mR5, mR9, mR10, mR16, mR17, mR18, mR21, mR22, mR23, mR25, mR26, mR29, mR30, mR35, mR36, mR37, mR38, mR39, ml1, ml2, ml3, ml4, ml5, ml6, ml7, ml8, ml9, ml10, ml11, ml12, ml13, ml14, ml15, ml16, ml17, ml18, ml19, ml20, ml21, ml22, ml23, ms1, ms2, ms3, ms4, ms5, ms6, ms7, ms8, ms9, ms10, ms11, ms12, ms13, ms14, ms15, ms16, ms17, ms18, ms19, ms20, ms21, ms22, ms23, h0, h1, h3, m_has, e, h4, Int32_or_assoc]) (by
    simp (disch := omega) only [i10, i01, gO_s, bO_s, lt_e, Sum.elim_inl, Sum.elim_inr, nI_1, nI_add, nle, nlt, neq, neq0, neq1, nlt0, nle0, n0le, n0lt, nlt1, n1le, n7m, pk_mul, l2, l3, l4, l5, l6, l7, l8, l9, l10, l13, l16, l20, l26, l27, l48, l57, l58, l60, l62, l70, l80, l90, l128, l140, l160, l420, l2000, l2001, bI_0, bI_1, bI_zz, bI_t, bI_f, zz_0, zz_1, ↓reduceIte, if_true, if_false, decide_true, decide_false, Bool.false_and, Bool.and_false, Bool.true_and, Bool.and_true, Bool.not_true, Bool.not_false, reduceCtorEq, Nat.reduceLeDiff, Nat.reduceEqDiff, Nat.reduceLT, Bool.true_eq_false, Bool.false_eq_true, eq_self, f_X7_reachOf_L27, mI, mp, mk, mR0, mR1, mR2, mR3, mR4, mR5, mR9, mR10, mR16, mR17, mR18, mR21, mR22, mR23, mR25, mR26, mR29, mR30, mR35, mR36, mR37, mR38, mR39, ml1, ml2, ml3, ml4, ml5, ml6, ml7, ml8, ml9, ml10, ml11, ml12, ml13, ml14, ml15, ml16, ml17, ml18, ml19, ml20, ml21, ml22, ml23, ms1, ms2, ms3, ms4, ms5, ms6, ms7, ms8, ms9, ms10, ms11, ms12, ms13, ms14, ms15, ms16, ms17, ms18, ms19, ms20, ms21, ms22, ms23, h0, Nat.le_refl, fOn])
  have e : (x, (0 : Int32)) = (x ||| sOn (rT E) 0 x, nI 0) := by rw [show sOn (rT E) 0 x = 0 from rfl, or_0]; rfl
  rw [e]
  exact key
theorem m_reach2 (hN : NetM s d n E) (hd : d ≤ 7) (hn : n ≤ 7) : ∀ (m : Nat) (x w : Int32), x ≠ w → fOn n E (itI (fOn n E) m x) = itI (fOn n E) m x → wh (f_X7_reachOf_L15 0 (nI d)) (x, w) (s, rM) = some (itI (fOn n E) m x, (s, rM)) := by
  have e1 : ∀ x w, x ≠ w → wh (f_X7_reachOf_L15 0 (nI d)) (x, w) (s, rM) = wh (f_X7_reachOf_L15 0 (nI d)) (fOn n E x, x) (s, rM) := fun x w h => wh_inl (by
    simp (disch := omega) only [i10, i01, gO_s, bO_s, lt_e, Sum.elim_inl, Sum.elim_inr, nI_1, nI_add, nle, nlt, neq, neq0, neq1, nlt0, nle0, n0le, n0lt, nlt1, n1le, n7m, pk_mul, l2, l3, l4, l5, l6, l7, l8, l9, l10, l13, l16, l20, l26, l27, l48, l57, l58, l60, l62, l70, l80, l90, l128, l140, l160, l420, l2000, l2001, bI_0, bI_1, bI_zz, bI_t, bI_f, zz_0, zz_1, ↓reduceIte, if_true, if_false, decide_true, decide_false, Bool.false_and, Bool.and_false, Bool.true_and, Bool.and_true, Bool.not_true, Bool.not_false, reduceCtorEq, Nat.reduceLeDiff, Nat.reduceEqDiff, Nat.reduceLT, Bool.true_eq_false, Bool.false_eq_true, eq_self, f_X7_reachOf_L15, h, m_reach1 hN hd hn])
  have e2 : ∀ x, wh (f_X7_reachOf_L15 0 (nI d)) (x, x) (s, rM) = some (x, (s, rM)) := fun x => wh_inr (by
    simp (disch := omega) only [i10, i01, gO_s, bO_s, lt_e, Sum.elim_inl, Sum.elim_inr, nI_1, nI_add, nle, nlt, neq, neq0, neq1, nlt0, nle0, n0le, n0lt, nlt1, n1le, n7m, pk_mul, l2, l3, l4, l5, l6, l7, l8, l9, l10, l13, l16, l20, l26, l27, l48, l57, l58, l60, l62, l70, l80, l90, l128, l140, l160, l420, l2000, l2001, bI_0, bI_1, bI_zz, bI_t, bI_f, zz_0, zz_1, ↓reduceIte, if_true, if_false, decide_true, decide_false, Bool.false_and, Bool.and_false, Bool.true_and, Bool.and_true, Bool.not_true, Bool.not_false, reduceCtorEq, Nat.reduceLeDiff, Nat.reduceEqDiff, Nat.reduceLT, Bool.true_eq_false, Bool.false_eq_true, eq_self, f_X7_reachOf_L15])
  intro m
  induction m with
  | zero => intro x w h hf; rw [e1 x w h, show fOn n E x = x from hf, e2]; rfl
  | succ m ih =>
    intro x w h hf
    by_cases e : fOn n E x = x
    · rw [e1 x w h, e, e2, itI_fix e]
    · have e3 : itI (fOn n E) (m + 1) x = itI (fOn n E) m (fOn n E x) := (itI_c _ _ _).symm
      rw [e1 x w h, e3]
      rw [e3] at hf
      exact ih (fOn n E x) x e hf
theorem m_reachOf (hN : NetM s d n E) (hd : d ≤ 7) (hS : Sup n E) (hn : n ≤ 7) {a : Nat} (ha : a < n) : f_X7_reachOf 0 (nI d) (nI a) (s, rM) = some (sAhead n E a, (s, rM)) := by
  have hN' := hN
  obtain ⟨h0, h1, h2⟩ := hN
  simp (disch := omega) only [i10, i01, gO_s, bO_s, lt_e, Sum.elim_inl, Sum.elim_inr, nI_1, nI_add, nle, nlt, neq, neq0, neq1, nlt0, nle0, n0le, n0lt, nlt1, n1le, n7m, pk_mul, l2, l3, l4, l5, l6, l7, l8, l9, l10, l13, l16, l20, l26, l27, l48, l57, l58, l60, l62, l70, l80, l90, l128, l140, l160, l420, l2000, l2001, bI_0, bI_1, bI_zz, bI_t, bI_f, zz_0, zz_1, ↓reduceIte, if_true, if_false, decide_true, decide_false, Bool.false_and, Bool.and_false, Bool.true_and, Bool.and_true, Bool.not_true, Bool.not_false, reduceCtorEq, Nat.reduceLeDiff, Nat.reduceEqDiff, Nat.reduceLT, Bool.true_eq_false, Bool.false_eq_true, eq_self, f_X7_reachOf, mI, mp, mk, mR0, mR1, mR2, mR3, mR4, mR5, mR9, mR10, mR16, mR17, mR18, mR21, mR22, mR23, mR25, mR26, mR29, mR30, mR35, mR36, mR37, mR38, mR39, ml1, ml2, ml3, ml4, ml5, ml6, ml7, ml8, ml9, ml10, ml11, ml12, ml13, ml14, ml15, ml16, ml17, ml18, ml19, ml20, ml21, ml22, ml23, ms1, ms2, ms3, ms4, ms5, ms6, ms7, ms8, ms9, ms10, ms11, ms12, ms13, ms14, ms15, ms16, ms17, ms18, ms19, ms20, ms21, ms22, ms23, h1]
  refine (bO_e ?_).trans rfl
  by_cases e : rT E a = 0
  · have e2 : sAhead n E a = 0 := by
      unfold sAhead
      rw [e]
      exact itI_fix (f := fun x => x ||| sOn (rT E) n x) (by show 0 ||| sOn (rT E) n 0 = 0; rw [sOn_0]; rfl) _
    rw [e, e2]
    exact wh_inr (by simp (disch := omega) only [i10, i01, gO_s, bO_s, lt_e, Sum.elim_inl, Sum.elim_inr, nI_1, nI_add, nle, nlt, neq, neq0, neq1, nlt0, nle0, n0le, n0lt, nlt1, n1le, n7m, pk_mul, l2, l3, l4, l5, l6, l7, l8, l9, l10, l13, l16, l20, l26, l27, l48, l57, l58, l60, l62, l70, l80, l90, l128, l140, l160, l420, l2000, l2001, bI_0, bI_1, bI_zz, bI_t, bI_f, zz_0, zz_1, ↓reduceIte, if_true, if_false, decide_true, decide_false, Bool.false_and, Bool.and_false, Bool.true_and, Bool.and_true, Bool.not_true, Bool.not_false, reduceCtorEq, Nat.reduceLeDiff, Nat.reduceEqDiff, Nat.reduceLT, Bool.true_eq_false, Bool.false_eq_true, eq_self, f_X7_reachOf_L15])
  · exact m_reach2 hN' hd hn (n - 1) _ _ e (sAhead_fix hS (by omega) a)
theorem m_pc1 (hN : NetM s d n E) (hd : d ≤ 7) (hn : n ≤ 7) (y z x : Int32) : wh (f_X7_pieces_L40 0 (nI d) y z x) (x, 0) (s, rM) = some (fBo n E x, (s, rM)) := by
  obtain ⟨h0, h1, h2⟩ := hN
  have key := wh_pure (f := f_X7_pieces_L40 0 (nI d) y z x) (σ := (s, rM)) n (fun k => (x ||| (sOn (rT E) k x ||| sOn (rF E) k x), nI k)) (x := fBo n E x) (fun k hk => by
    have h3 : ¬ n ≤ k := by omega
    have h4 : sOn (rT E) (k + 1) x = sOn (rT E) k x ||| (if bt x k = true then rT E k else 0) := rfl
    have h5 : sOn (rF E) (k + 1) x = sOn (rF E) k x ||| (if bt x k = true then rF E k else 0) := rfl
    cases e : bt x k
    · simp (disch := omega) only [i10, i01, gO_s, bO_s, lt_e, Sum.elim_inl, Sum.elim_inr, nI_1, nI_add, nle, nlt, neq, neq0, neq1, nlt0, nle0, n0le, n0lt, nlt1, n1le, n7m, pk_mul, l2, l3, l4, l5, l6, l7, l8, l9, l10, l13, l16, l20, l26, l27, l48, l57, l58, l60, l62, l70, l80, l90, l128, l140, l160, l420, l2000, l2001, bI_0, bI_1, bI_zz, bI_t, bI_f, zz_0, zz_1, ↓reduceIte, if_true, if_false, decide_true, decide_false, Bool.false_and, Bool.and_false, Bool.true_and, Bool.and_true, Bool.not_true, Bool.not_false, reduceCtorEq, Nat.reduceLeDiff, Nat.reduceEqDiff, Nat.reduceLT, Bool.true_eq_false, Bool.false_eq_true, eq_self, f_X7_pieces_L40, f_X7_pieces_b92, mI, mp, mk, mR0, mR1, mR2, mR3, mR4, mR5, mR9, mR10, mR16, mR17, mR18, mR21, mR22, mR23, mR25, mR26, mR29, mR30, mR35, mR36, mR37, mR38, mR39, ml1, ml2, ml3, ml4, ml5, ml6, ml7, ml8, ml9, ml10, ml11, ml12, ml13, ml14, ml15, ml16, ml17, ml18, ml19, ml20, ml21, ml22, ml23, ms1, ms2, ms3, ms4, ms5, ms6, ms7, ms8, ms9, ms10, ms11, ms12, ms13, ms14, ms15, ms16, ms17, ms18, ms19, ms20, ms21, ms22, ms23, h0, h1, h3, m_has, e, h4, h5, or_0]
    · simp (disch := omega) only [i10, i01, gO_s, bO_s, lt_e, Sum.elim_inl, Sum.elim_inr, nI_1, nI_add, nle, nlt, neq, neq0, neq1, nlt0, nle0, n0le, n0lt, nlt1, n1le, n7m, pk_mul, l2, l3, l4, l5, l6, l7, l8, l9, l10, l13, l16, l20, l26, l27, l48, l57, l58, l60, l62, l70, l80, l90, l128, l140, l160, l420, l2000, l2001, bI_0, bI_1, bI_zz, bI_t, bI_f, zz_0, zz_1, ↓reduceIte, if_true, if_false, decide_true, decide_false, Bool.false_and, Bool.and_false, Bool.true_and, Bool.and_true, Bool.not_true, Bool.not_false, reduceCtorEq, Nat.reduceLeDiff, Nat.reduceEqDiff, Nat.reduceLT, Bool.true_eq_false, Bool.false_eq_true, eq_self, f_X7_pieces_L40, f_X7_pieces_b92, mI, mp, mk, mR0, mR1, mR2, mR3, mR4, mR5, mR9, mR10, mR16, mR17, mR18, mR21, mR22, mR23, mR25, mR26, mR29, mR30, mR35, mR36, mR37, mR38, mR39, ml1, ml2, ml3, ml4, ml5, ml6, ml7, ml8, ml9, ml10, ml11, ml12, ml13, ml14, ml15, ml16, ml17, ml18, ml19, ml20, ml21, ml22, ml23, ms1, ms2, ms3, ms4, ms5, ms6, ms7, ms8, ms9, ms10, ms11, ms12, ms13, ms14, ms15, ms16, ms17, ms18, ms19, ms20, ms21, ms22, ms23, h0, h1, h2, h3, m_has, e, h4, h5]
      have : x ||| (sOn (rT E) k x ||| sOn (rF E) k x) ||| (rT E k ||| rF E k) = x ||| (sOn (rT E) k x ||| rT E k ||| (sOn (rF E) k x ||| rF E k)) := b_ext fun i _ => by
        simp only [b_or]
        cases bt x i <;> cases bt (sOn (rT E) k x) i <;> cases bt (sOn (rF E) k x) i <;> cases bt (rT E k) i <;> rfl
      rw [this]) (by
    simp (disch := omega) only [i10, i01, gO_s, bO_s, lt_e, Sum.elim_inl, Sum.elim_inr, nI_1, nI_add, nle, nlt, neq, neq0, neq1, nlt0, nle0, n0le, n0lt, nlt1, n1le, n7m, pk_mul, l2, l3, l4, l5, l6, l7, l8, l9, l10, l13, l16, l20, l26, l27, l48, l57, l58, l60, l62, l70, l80, l90, l128, l140, l160, l420, l2000, l2001, bI_0, bI_1, bI_zz, bI_t, bI_f, zz_0, zz_1, ↓reduceIte, if_true, if_false, decide_true, decide_false, Bool.false_and, Bool.and_false, Bool.true_and, Bool.and_true, Bool.not_true, Bool.not_false, reduceCtorEq, Nat.reduceLeDiff, Nat.reduceEqDiff, Nat.reduceLT, Bool.true_eq_false, Bool.false_eq_true, eq_self, f_X7_pieces_L40, mI, mp, mk, mR0, mR1, mR2, mR3, mR4, mR5, mR9, mR10, mR16, mR17, mR18, mR21, mR22, mR23, mR25, mR26, mR29, mR30, mR35, mR36, mR37, mR38, mR39, ml1, ml2, ml3, ml4, ml5, ml6, ml7, ml8, ml9, ml10, ml11, ml12, ml13, ml14, ml15, ml16, ml17, ml18, ml19, ml20, ml21, ml22, ml23, ms1, ms2, ms3, ms4, ms5, ms6, ms7, ms8, ms9, ms10, ms11, ms12, ms13, ms14, ms15, ms16, ms17, ms18, ms19, ms20, ms21, ms22, ms23, h0, Nat.le_refl, fBo])
  have e : (x, (0 : Int32)) = (x ||| (sOn (rT E) 0 x ||| sOn (rF E) 0 x), nI 0) := by rw [show sOn (rT E) 0 x = 0 from rfl, show sOn (rF E) 0 x = 0 from rfl, or_0, or_0]; rfl
  rw [e]
  exact key
theorem m_pc2 (hN : NetM s d n E) (hd : d ≤ 7) (hn : n ≤ 7) (y z : Int32) : ∀ (m : Nat) (x w : Int32), x ≠ w → fBo n E (itI (fBo n E) m x) = itI (fBo n E) m x → wh (f_X7_pieces_L26 0 (nI d) y z) (x, w) (s, rM) = some (itI (fBo n E) m x, (s, rM)) := by
  have e1 : ∀ x w, x ≠ w → wh (f_X7_pieces_L26 0 (nI d) y z) (x, w) (s, rM) = wh (f_X7_pieces_L26 0 (nI d) y z) (fBo n E x, x) (s, rM) := fun x w h => wh_inl (by
    simp (disch := omega) only [i10, i01, gO_s, bO_s, lt_e, Sum.elim_inl, Sum.elim_inr, nI_1, nI_add, nle, nlt, neq, neq0, neq1, nlt0, nle0, n0le, n0lt, nlt1, n1le, n7m, pk_mul, l2, l3, l4, l5, l6, l7, l8, l9, l10, l13, l16, l20, l26, l27, l48, l57, l58, l60, l62, l70, l80, l90, l128, l140, l160, l420, l2000, l2001, bI_0, bI_1, bI_zz, bI_t, bI_f, zz_0, zz_1, ↓reduceIte, if_true, if_false, decide_true, decide_false, Bool.false_and, Bool.and_false, Bool.true_and, Bool.and_true, Bool.not_true, Bool.not_false, reduceCtorEq, Nat.reduceLeDiff, Nat.reduceEqDiff, Nat.reduceLT, Bool.true_eq_false, Bool.false_eq_true, eq_self, f_X7_pieces_L26, h, m_pc1 hN hd hn])
  have e2 : ∀ x, wh (f_X7_pieces_L26 0 (nI d) y z) (x, x) (s, rM) = some (x, (s, rM)) := fun x => wh_inr (by
    simp (disch := omega) only [i10, i01, gO_s, bO_s, lt_e, Sum.elim_inl, Sum.elim_inr, nI_1, nI_add, nle, nlt, neq, neq0, neq1, nlt0, nle0, n0le, n0lt, nlt1, n1le, n7m, pk_mul, l2, l3, l4, l5, l6, l7, l8, l9, l10, l13, l16, l20, l26, l27, l48, l57, l58, l60, l62, l70, l80, l90, l128, l140, l160, l420, l2000, l2001, bI_0, bI_1, bI_zz, bI_t, bI_f, zz_0, zz_1, ↓reduceIte, if_true, if_false, decide_true, decide_false, Bool.false_and, Bool.and_false, Bool.true_and, Bool.and_true, Bool.not_true, Bool.not_false, reduceCtorEq, Nat.reduceLeDiff, Nat.reduceEqDiff, Nat.reduceLT, Bool.true_eq_false, Bool.false_eq_true, eq_self, f_X7_pieces_L26])
  intro m
  induction m with
  | zero => intro x w h hf; rw [e1 x w h, show fBo n E x = x from hf, e2]; rfl
  | succ m ih =>
    intro x w h hf
    by_cases e : fBo n E x = x
    · rw [e1 x w h, e, e2, itI_fix e]
    · have e3 : itI (fBo n E) (m + 1) x = itI (fBo n E) m (fBo n E x) := (itI_c _ _ _).symm
      rw [e1 x w h, e3]
      rw [e3] at hf
      exact ih (fBo n E x) x e hf
theorem sPcs_seen (n : Nat) (E : Nat → Nat → Bool) : ∀ k, k ≤ 32 → ∀ i, i < k → bt (sPcs n E k).1 i = true := by
  intro k
  induction k with
  | zero => intro _ i hi; omega
  | succ k ih =>
    intro hk i hi
    unfold sPcs
    split
    · rename_i e
      by_cases h : i = k
      · rw [h]; exact e
      · exact ih (by omega) i (by omega)
    · rw [b_or]
      by_cases h : i = k
      · rw [h, sPiece_self (by omega)]; simp
      · rw [ih (by omega) i (by omega)]; rfl
theorem m_pieces (hN : NetM s d n E) (hd : d ≤ 7) (hS : Sup n E) (hn : n ≤ 7) : f_X7_pieces 0 (nI d) (s, rM) = some (nI (sPcs n E n).2, (s, rM)) := by
  have hN' := hN
  obtain ⟨h0, h1, h2⟩ := hN
  have main : ∀ m k, k + m = n → wh (f_X7_pieces_L13 0 (nI d)) (bs (fun i => decide (i < n)) &&& ((sPcs n E k).1 ^^^ (-1)), nI (sPcs n E k).2) (s, rM) = some (nI (sPcs n E n).2, (s, rM)) := by
    intro m
    induction m with
    | zero =>
      intro k hk
      have ek : k = n := by omega
      subst ek
      have e : bs (fun i => decide (i < k)) &&& ((sPcs k E k).1 ^^^ (-1)) = 0 := b_z.mpr fun i hi => by
        rw [b_and, bt_bs _ hi, b_not _ hi]
        by_cases h : i < k
        · rw [sPcs_seen k E k (by omega) i h]; simp
        · simp [h]
      rw [e]
      exact wh_inr (by simp (disch := omega) only [i10, i01, gO_s, bO_s, lt_e, Sum.elim_inl, Sum.elim_inr, nI_1, nI_add, nle, nlt, neq, neq0, neq1, nlt0, nle0, n0le, n0lt, nlt1, n1le, n7m, pk_mul, l2, l3, l4, l5, l6, l7, l8, l9, l10, l13, l16, l20, l26, l27, l48, l57, l58, l60, l62, l70, l80, l90, l128, l140, l160, l420, l2000, l2001, bI_0, bI_1, bI_zz, bI_t, bI_f, zz_0, zz_1, ↓reduceIte, if_true, if_false, decide_true, decide_false, Bool.false_and, Bool.and_false, Bool.true_and, Bool.and_true, Bool.not_true, Bool.not_false, reduceCtorEq, Nat.reduceLeDiff, Nat.reduceEqDiff, Nat.reduceLT, Bool.true_eq_false, Bool.false_eq_true, eq_self, f_X7_pieces_L13])
    | succ m ih =>
      intro k hk
      have h3 := ih (k + 1) (by omega)
      cases e : bt (sPcs n E k).1 k
      · have e2 : sPcs n E (k + 1) = ((sPcs n E k).1 ||| sPiece n E k, (sPcs n E k).2 + 1) := by rw [sPcs, e]; rfl
        rw [e2] at h3
        rw [← h3]
        generalize hz : bs (fun i => decide (i < n)) &&& ((sPcs n E k).1 ^^^ (-1)) = z
        have hb : ∀ i, i < 32 → bt z i = (decide (i < n) && !(bt (sPcs n E k).1 i)) := fun i hi => by rw [← hz, b_and, bt_bs _ hi, b_not _ hi]
        have hlo : lo 7 z := fun i h1 h2 => by rw [hb i h2, decide_eq_false (by omega)]; rfl
        have hk1 : bt z k = true := by rw [hb k (by omega), e]; simp; omega
        have hz0 : ¬ z = 0 := fun h => by rw [h, b_0] at hk1; cases hk1
        obtain ⟨l1, l2, l3⟩ := lw_at hlo hz0
        have hlw : lw z = k := by
          rcases Nat.lt_trichotomy (lw z) k with h | h | h
          · rw [hb _ (by omega), sPcs_seen n E k (by omega) _ h] at l2; simp at l2
          · exact h
          · rw [l3 k h] at hk1; cases hk1
        have hlow : z &&& (-z) = (1 : Int32) <<< (nI k &&& 31) := b_ext fun i hi => by rw [b_low hlo hz0 i hi, b_one (by omega) hi, hlw]
        have hp := m_pc2 hN' hd hn z (nI (sPcs n E k).2) (n - 1) _ 0 (one_n0 (a := k) (by omega)) (sPiece_fix hS (by omega) (a := k) (by omega))
        have e4 : z &&& (sPiece n E k ^^^ (-1)) = bs (fun i => decide (i < n)) &&& (((sPcs n E k).1 ||| sPiece n E k) ^^^ (-1)) := b_ext fun i hi => by
          rw [b_and, hb i hi, b_not _ hi, b_and, b_not _ hi, b_or, bt_bs _ hi]
          cases decide (i < n) <;> cases bt (sPcs n E k).1 i <;> cases bt (sPiece n E k) i <;> rfl
        refine wh_inl ?_
        simp (disch := omega) only [i10, i01, gO_s, bO_s, lt_e, Sum.elim_inl, Sum.elim_inr, nI_1, nI_add, nle, nlt, neq, neq0, neq1, nlt0, nle0, n0le, n0lt, nlt1, n1le, n7m, pk_mul, l2, l3, l4, l5, l6, l7, l8, l9, l10, l13, l16, l20, l26, l27, l48, l57, l58, l60, l62, l70, l80, l90, l128, l140, l160, l420, l2000, l2001, bI_0, bI_1, bI_zz, bI_t, bI_f, zz_0, zz_1, ↓reduceIte, if_true, if_false, decide_true, decide_false, Bool.false_and, Bool.and_false, Bool.true_and, Bool.and_true, Bool.not_true, Bool.not_false, reduceCtorEq, Nat.reduceLeDiff, Nat.reduceEqDiff, Nat.reduceLT, Bool.true_eq_false, Bool.false_eq_true, eq_self, f_X7_pieces_L13, hz0, hlow]
        refine (bO_e hp).trans ?_
        rw [← e4]
        rfl
      · have e2 : sPcs n E (k + 1) = sPcs n E k := by rw [sPcs, e]; rfl
        rw [e2] at h3
        exact h3
  have h3 := main n 0 (by omega)
  have e3 : bs (fun i => decide (i < n)) &&& ((sPcs n E 0).1 ^^^ (-1)) = bs (fun i => decide (i < n)) := b_ext fun i hi => by
    rw [b_and, b_not _ hi]
    show (bt (bs fun i => decide (i < n)) i && !(bt 0 i)) = _
    rw [b_0]; simp
  rw [e3] at h3
  simp (disch := omega) only [i10, i01, gO_s, bO_s, lt_e, Sum.elim_inl, Sum.elim_inr, nI_1, nI_add, nle, nlt, neq, neq0, neq1, nlt0, nle0, n0le, n0lt, nlt1, n1le, n7m, pk_mul, l2, l3, l4, l5, l6, l7, l8, l9, l10, l13, l16, l20, l26, l27, l48, l57, l58, l60, l62, l70, l80, l90, l128, l140, l160, l420, l2000, l2001, bI_0, bI_1, bI_zz, bI_t, bI_f, zz_0, zz_1, ↓reduceIte, if_true, if_false, decide_true, decide_false, Bool.false_and, Bool.and_false, Bool.true_and, Bool.and_true, Bool.not_true, Bool.not_false, reduceCtorEq, Nat.reduceLeDiff, Nat.reduceEqDiff, Nat.reduceLT, Bool.true_eq_false, Bool.false_eq_true, eq_self, f_X7_pieces, mI, mp, mk, mR0, mR1, mR2, mR3, mR4, mR5, mR9, mR10, mR16, mR17, mR18, mR21, mR22, mR23, mR25, mR26, mR29, mR30, mR35, mR36, mR37, mR38, mR39, ml1, ml2, ml3, ml4, ml5, ml6, ml7, ml8, ml9, ml10, ml11, ml12, ml13, ml14, ml15, ml16, ml17, ml18, ml19, ml20, ml21, ml22, ml23, ms1, ms2, ms3, ms4, ms5, ms6, ms7, ms8, ms9, ms10, ms11, ms12, ms13, ms14, ms15, ms16, ms17, ms18, ms19, ms20, ms21, ms22, ms23, h0, bs_all]
  exact (bO_e h3).trans rfl
theorem m_onRings (hN : NetM s d n E) (hd : d ≤ 7) (hS : Sup n E) (hn : n ≤ 7) : f_X7_onRings 0 (nI d) (s, rM) = some (orI (fun a => sAhead n E a &&& ((1 : Int32) <<< (nI a &&& 31))) n, (s, rM)) := by
  have hN' := hN
  obtain ⟨h0, h1, h2⟩ := hN
  have key := wh_pure (f := f_X7_onRings_L4 0 (nI d)) (σ := (s, rM)) n (fun k => (orI (fun a => sAhead n E a &&& ((1 : Int32) <<< (nI a &&& 31))) k, nI k)) (x := orI (fun a => sAhead n E a &&& ((1 : Int32) <<< (nI a &&& 31))) n) (fun k hk => by
    have h3 : ¬ n ≤ k := by omega
    simp (disch := omega) only [i10, i01, gO_s, bO_s, lt_e, Sum.elim_inl, Sum.elim_inr, nI_1, nI_add, nle, nlt, neq, neq0, neq1, nlt0, nle0, n0le, n0lt, nlt1, n1le, n7m, pk_mul, l2, l3, l4, l5, l6, l7, l8, l9, l10, l13, l16, l20, l26, l27, l48, l57, l58, l60, l62, l70, l80, l90, l128, l140, l160, l420, l2000, l2001, bI_0, bI_1, bI_zz, bI_t, bI_f, zz_0, zz_1, ↓reduceIte, if_true, if_false, decide_true, decide_false, Bool.false_and, Bool.and_false, Bool.true_and, Bool.and_true, Bool.not_true, Bool.not_false, reduceCtorEq, Nat.reduceLeDiff, Nat.reduceEqDiff, Nat.reduceLT, Bool.true_eq_false, Bool.false_eq_true, eq_self, f_X7_onRings_L4, mI, mp, mk, mR0, mR1, mR2, mR3, mR4, mR5, mR9, mR10, mR16, mR17, mR18, mR21, mR22, mR23, mR25, mR26, mR29, mR30, mR35, mR36, mR37, mR38, mR39, ml1, ml2, ml3, ml4, ml5, ml6, ml7, ml8, ml9, ml10, ml11, ml12, ml13, ml14, ml15, ml16, ml17, ml18, ml19, ml20, ml21, ml22, ml23, ms1, ms2, ms3, ms4, ms5, ms6, ms7, ms8, ms9, ms10, ms11, ms12, ms13, ms14, ms15, ms16, ms17, ms18, ms19, ms20, ms21, ms22, ms23, h0, h3, m_reachOf hN' hd hS hn hk, orI_s]) (by
    simp (disch := omega) only [i10, i01, gO_s, bO_s, lt_e, Sum.elim_inl, Sum.elim_inr, nI_1, nI_add, nle, nlt, neq, neq0, neq1, nlt0, nle0, n0le, n0lt, nlt1, n1le, n7m, pk_mul, l2, l3, l4, l5, l6, l7, l8, l9, l10, l13, l16, l20, l26, l27, l48, l57, l58, l60, l62, l70, l80, l90, l128, l140, l160, l420, l2000, l2001, bI_0, bI_1, bI_zz, bI_t, bI_f, zz_0, zz_1, ↓reduceIte, if_true, if_false, decide_true, decide_false, Bool.false_and, Bool.and_false, Bool.true_and, Bool.and_true, Bool.not_true, Bool.not_false, reduceCtorEq, Nat.reduceLeDiff, Nat.reduceEqDiff, Nat.reduceLT, Bool.true_eq_false, Bool.false_eq_true, eq_self, f_X7_onRings_L4, mI, mp, mk, mR0, mR1, mR2, mR3, mR4, mR5, mR9, mR10, mR16, mR17, mR18, mR21, mR22, mR23, mR25, mR26, mR29, mR30, mR35, mR36, mR37, mR38, mR39, ml1, ml2, ml3, ml4, ml5, ml6, ml7, ml8, ml9, ml10, ml11, ml12, ml13, ml14, ml15, ml16, ml17, ml18, ml19, ml20, ml21, ml22, ml23, ms1, ms2, ms3, ms4, ms5, ms6, ms7, ms8, ms9, ms10, ms11, ms12, ms13, ms14, ms15, ms16, ms17, ms18, ms19, ms20, ms21, ms22, ms23, h0, Nat.le_refl])
  unfold f_X7_onRings
  exact bO_e key
theorem m_sh1 (hN : NetM s d n E) (hd : d ≤ 7) (hn : n ≤ 7) (y1 y2 y3 x : Int32) : wh (f_X7_shortest_L39 0 (nI d) y1 y2 x y3) (0, 0) (s, rM) = some (sOn (rT E) n x, (s, rM)) := by
  obtain ⟨h0, h1, h2⟩ := hN
  exact wh_pure (f := f_X7_shortest_L39 0 (nI d) y1 y2 x y3) (σ := (s, rM)) n (fun k => (sOn (rT E) k x, nI k)) (x := sOn (rT E) n x) (fun k hk => by
    have h3 : ¬ n ≤ k := by omega
    have h4 : sOn (rT E) (k + 1) x = sOn (rT E) k x ||| (if bt x k = true then rT E k else 0) := rfl
    cases e : bt x k
    · simp (disch := omega) only [i10, i01, gO_s, bO_s, lt_e, Sum.elim_inl, Sum.elim_inr, nI_1, nI_add, nle, nlt, neq, neq0, neq1, nlt0, nle0, n0le, n0lt, nlt1, n1le, n7m, pk_mul, l2, l3, l4, l5, l6, l7, l8, l9, l10, l13, l16, l20, l26, l27, l48, l57, l58, l60, l62, l70, l80, l90, l128, l140, l160, l420, l2000, l2001, bI_0, bI_1, bI_zz, bI_t, bI_f, zz_0, zz_1, ↓reduceIte, if_true, if_false, decide_true, decide_false, Bool.false_and, Bool.and_false, Bool.true_and, Bool.and_true, Bool.not_true, Bool.not_false, reduceCtorEq, Nat.reduceLeDiff, Nat.reduceEqDiff, Nat.reduceLT, Bool.true_eq_false, Bool.false_eq_true, eq_self, f_X7_shortest_L39, f_X7_shortest_b78, mI, mp, mk, mR0, mR1, mR2, mR3, mR4, mR5, mR9, mR10, mR16, mR17, mR18, mR21, mR22, mR23, mR25, mR26, mR29, mR30, mR35, mR36, mR37, mR38, mR39, ml1, ml2, ml3, ml4, ml5, ml6, ml7, ml8, ml9, ml10, ml11, ml12, ml13, ml14, ml15, ml16, ml17, ml18, ml19, ml20, ml21, ml22, ml23, ms1, ms2, ms3, ms4, ms5, ms6, ms7, ms8, ms9, ms10, ms11, ms12, ms13, ms14, ms15, ms16, ms17, ms18, ms19, ms20, ms21, ms22, ms23, h0, h1, h3, m_has, e, h4]
    · simp (disch := omega) only [i10, i01, gO_s, bO_s, lt_e, Sum.elim_inl, Sum.elim_inr, nI_1, nI_add, nle, nlt, neq, neq0, neq1, nlt0, nle0, n0le, n0lt, nlt1, n1le, n7m, pk_mul, l2, l3, l4, l5, l6, l7, l8, l9, l10, l13, l16, l20, l26, l27, l48, l57, l58, l60, l62, l70, l80, l90, l128, l140, l160, l420, l2000, l2001, bI_0, bI_1, bI_zz, bI_t, bI_f, zz_0, zz_1, ↓reduceIte, if_true, if_false, decide_true, decide_false, Bool.false_and, Bool.and_false, Bool.true_and, Bool.and_true, Bool.not_true, Bool.not_false, reduceCtorEq, Nat.reduceLeDiff, Nat.reduceEqDiff, Nat.reduceLT, Bool.true_eq_false, Bool.false_eq_true, eq_self, f_X7_shortest_L39, f_X7_shortest_b78, mI, mp, mk, mR0, mR1, mR2, mR3, mR4, mR5, mR9, mR10, mR16, mR17, mR18, mR21, mR22, mR23, mR25, mR26, mR29, mR30, mR35, mR36, mR37, mR38, mR39, ml1, ml2, ml3, ml4, ml5, ml6, ml7, ml8, ml9, ml10, ml11, ml12, ml13, ml14, ml15, ml16, ml17, ml18, ml19, ml20, ml21, ml22, ml23, ms1, ms2, ms3, ms4, ms5, ms6, ms7, ms8, ms9, ms10, ms11, ms12, ms13, ms14, ms15, ms16, ms17, ms18, ms19, ms20, ms21, ms22, ms23, h0, h1, h3, m_has, e, h4]) (by
    simp (disch := omega) only [i10, i01, gO_s, bO_s, lt_e, Sum.elim_inl, Sum.elim_inr, nI_1, nI_add, nle, nlt, neq, neq0, neq1, nlt0, nle0, n0le, n0lt, nlt1, n1le, n7m, pk_mul, l2, l3, l4, l5, l6, l7, l8, l9, l10, l13, l16, l20, l26, l27, l48, l57, l58, l60, l62, l70, l80, l90, l128, l140, l160, l420, l2000, l2001, bI_0, bI_1, bI_zz, bI_t, bI_f, zz_0, zz_1, ↓reduceIte, if_true, if_false, decide_true, decide_false, Bool.false_and, Bool.and_false, Bool.true_and, Bool.and_true, Bool.not_true, Bool.not_false, reduceCtorEq, Nat.reduceLeDiff, Nat.reduceEqDiff, Nat.reduceLT, Bool.true_eq_false, Bool.false_eq_true, eq_self, f_X7_shortest_L39, mI, mp, mk, mR0, mR1, mR2, mR3, mR4, mR5, mR9, mR10, mR16, mR17, mR18, mR21, mR22, mR23, mR25, mR26, mR29, mR30, mR35, mR36, mR37, mR38, mR39, ml1, ml2, ml3, ml4, ml5, ml6, ml7, ml8, ml9, ml10, ml11, ml12, ml13, ml14, ml15, ml16, ml17, ml18, ml19, ml20, ml21, ml22, ml23, ms1, ms2, ms3, ms4, ms5, ms6, ms7, ms8, ms9, ms10, ms11, ms12, ms13, ms14, ms15, ms16, ms17, ms18, ms19, ms20, ms21, ms22, ms23, h0, Nat.le_refl])
theorem lesser_0 (x : Nat) : lesser x 0 = x := if_pos rfl
theorem lesser_a {l k z : Nat} (hk : 0 < k) (hz : z = 0 ∨ k < z) : lesser (lesser l k) z = lesser l k := by
  unfold lesser
  repeat' split
  all_goals omega
theorem sRing_ge (n : Nat) (E : Nat → Nat → Bool) (a : Nat) : ∀ (m k : Nat) (x : Int32), sRing n E a m k x = 0 ∨ k ≤ sRing n E a m k x := by
  intro m
  induction m with
  | zero => intro k x; exact Or.inl rfl
  | succ m ih =>
    intro k x
    unfold sRing
    split
    · exact Or.inr (Nat.le_refl _)
    · rcases ih (k + 1) (sOn (rT E) n x) with h | h
      · exact Or.inl h
      · exact Or.inr (by omega)
theorem m_sh2 (hN : NetM s d n E) (hd : d ≤ 7) (hn : n ≤ 7) {a : Nat} (ha : a < n) : ∀ (m k l : Nat) (x : Int32), k + m = n + 1 → 0 < k → l < 100 → wh (f_X7_shortest_L22 0 (nI d) (nI a)) (nI l, x, nI k) (s, rM) = some (nI (lesser l (sRing n E a m k x)), (s, rM)) := by
  have hN' := hN
  obtain ⟨h0, h1, h2⟩ := hN
  intro m
  induction m with
  | zero =>
    intro k l x hk _ hl
    have h3 : n < k := by omega
    refine wh_inr ?_
    simp (disch := omega) only [i10, i01, gO_s, bO_s, lt_e, Sum.elim_inl, Sum.elim_inr, nI_1, nI_add, nle, nlt, neq, neq0, neq1, nlt0, nle0, n0le, n0lt, nlt1, n1le, n7m, pk_mul, l2, l3, l4, l5, l6, l7, l8, l9, l10, l13, l16, l20, l26, l27, l48, l57, l58, l60, l62, l70, l80, l90, l128, l140, l160, l420, l2000, l2001, bI_0, bI_1, bI_zz, bI_t, bI_f, zz_0, zz_1, ↓reduceIte, if_true, if_false, decide_true, decide_false, Bool.false_and, Bool.and_false, Bool.true_and, Bool.and_true, Bool.not_true, Bool.not_false, reduceCtorEq, Nat.reduceLeDiff, Nat.reduceEqDiff, Nat.reduceLT, Bool.true_eq_false, Bool.false_eq_true, eq_self, f_X7_shortest_L22, mI, mp, mk, mR0, mR1, mR2, mR3, mR4, mR5, mR9, mR10, mR16, mR17, mR18, mR21, mR22, mR23, mR25, mR26, mR29, mR30, mR35, mR36, mR37, mR38, mR39, ml1, ml2, ml3, ml4, ml5, ml6, ml7, ml8, ml9, ml10, ml11, ml12, ml13, ml14, ml15, ml16, ml17, ml18, ml19, ml20, ml21, ml22, ml23, ms1, ms2, ms3, ms4, ms5, ms6, ms7, ms8, ms9, ms10, ms11, ms12, ms13, ms14, ms15, ms16, ms17, ms18, ms19, ms20, ms21, ms22, ms23, h0, h3, sRing, lesser_0]
  | succ m ih =>
    intro k l x hk hk0 hl
    have h3 : ¬ n < k := by omega
    have h5 := m_sh1 hN' hd hn (nI l) (nI a) (nI k) x
    cases e : bt (sOn (rT E) n x) a
    · have h4 := ih (k + 1) l (sOn (rT E) n x) (by omega) (by omega) hl
      have e2 : sRing n E a (m + 1) k x = sRing n E a m (k + 1) (sOn (rT E) n x) := by rw [sRing, e]; rfl
      rw [e2, ← h4]
      refine wh_inl ?_
      simp (disch := omega) only [i10, i01, gO_s, bO_s, lt_e, Sum.elim_inl, Sum.elim_inr, nI_1, nI_add, nle, nlt, neq, neq0, neq1, nlt0, nle0, n0le, n0lt, nlt1, n1le, n7m, pk_mul, l2, l3, l4, l5, l6, l7, l8, l9, l10, l13, l16, l20, l26, l27, l48, l57, l58, l60, l62, l70, l80, l90, l128, l140, l160, l420, l2000, l2001, bI_0, bI_1, bI_zz, bI_t, bI_f, zz_0, zz_1, ↓reduceIte, if_true, if_false, decide_true, decide_false, Bool.false_and, Bool.and_false, Bool.true_and, Bool.and_true, Bool.not_true, Bool.not_false, reduceCtorEq, Nat.reduceLeDiff, Nat.reduceEqDiff, Nat.reduceLT, Bool.true_eq_false, Bool.false_eq_true, eq_self, f_X7_shortest_L22, f_X7_shortest_b113, mI, mp, mk, mR0, mR1, mR2, mR3, mR4, mR5, mR9, mR10, mR16, mR17, mR18, mR21, mR22, mR23, mR25, mR26, mR29, mR30, mR35, mR36, mR37, mR38, mR39, ml1, ml2, ml3, ml4, ml5, ml6, ml7, ml8, ml9, ml10, ml11, ml12, ml13, ml14, ml15, ml16, ml17, ml18, ml19, ml20, ml21, ml22, ml23, ms1, ms2, ms3, ms4, ms5, ms6, ms7, ms8, ms9, ms10, ms11, ms12, ms13, ms14, ms15, ms16, ms17, ms18, ms19, ms20, ms21, ms22, ms23, h0, h3, h5, m_has, e]
    · have e2 : sRing n E a (m + 1) k x = k := by rw [sRing, e]; rfl
      have hl2 : lesser l k < 100 := by unfold lesser; repeat' split
                                        all_goals omega
      have h4 := ih (k + 1) (lesser l k) (sOn (rT E) n x) (by omega) (by omega) hl2
      have h6 := sRing_ge n E a m (k + 1) (sOn (rT E) n x)
      rw [lesser_a hk0 (by omega)] at h4
      rw [e2, ← h4]
      refine wh_inl ?_
      have hk1 : ¬ k = 0 := by omega
      simp (disch := omega) only [i10, i01, gO_s, bO_s, lt_e, Sum.elim_inl, Sum.elim_inr, nI_1, nI_add, nle, nlt, neq, neq0, neq1, nlt0, nle0, n0le, n0lt, nlt1, n1le, n7m, pk_mul, l2, l3, l4, l5, l6, l7, l8, l9, l10, l13, l16, l20, l26, l27, l48, l57, l58, l60, l62, l70, l80, l90, l128, l140, l160, l420, l2000, l2001, bI_0, bI_1, bI_zz, bI_t, bI_f, zz_0, zz_1, ↓reduceIte, if_true, if_false, decide_true, decide_false, Bool.false_and, Bool.and_false, Bool.true_and, Bool.and_true, Bool.not_true, Bool.not_false, reduceCtorEq, Nat.reduceLeDiff, Nat.reduceEqDiff, Nat.reduceLT, Bool.true_eq_false, Bool.false_eq_true, eq_self, f_X7_shortest_L22, f_X7_shortest_b113, f_X7_shortest_b110, mI, mp, mk, mR0, mR1, mR2, mR3, mR4, mR5, mR9, mR10, mR16, mR17, mR18, mR21, mR22, mR23, mR25, mR26, mR29, mR30, mR35, mR36, mR37, mR38, mR39, ml1, ml2, ml3, ml4, ml5, ml6, ml7, ml8, ml9, ml10, ml11, ml12, ml13, ml14, ml15, ml16, ml17, ml18, ml19, ml20, ml21, ml22, ml23, ms1, ms2, ms3, ms4, ms5, ms6, ms7, ms8, ms9, ms10, ms11, ms12, ms13, ms14, ms15, ms16, ms17, ms18, ms19, ms20, ms21, ms22, ms23, h0, h3, h5, m_has, e, lesser, hk1]
      by_cases e7 : l = 0
      · simp only [e7, ↓reduceIte]
      · simp only [e7, ↓reduceIte]
        by_cases e8 : l ≤ k
        · simp only [e8, ↓reduceIte]
        · simp only [e8, ↓reduceIte]
theorem m_shortest (hN : NetM s d n E) (hd : d ≤ 7) (hn : n ≤ 7) : f_X7_shortest 0 (nI d) (s, rM) = some (nI (sShort n E n), (s, rM)) := by
  have hN' := hN
  obtain ⟨h0, h1, h2⟩ := hN
  have key := wh_pure (f := f_X7_shortest_L4 0 (nI d)) (σ := (s, rM)) n (fun k => (nI (sShort n E k), nI k)) (x := nI (sShort n E n)) (fun k hk => by
    have h3 : ¬ n ≤ k := by omega
    have h5 := sShort_le n E k
    have h6 := m_sh2 hN' hd hn hk n 1 (sShort n E k) ((1 : Int32) <<< (nI k &&& 31)) (by omega) (by omega) (by omega)
    simp (disch := omega) only [i10, i01, gO_s, bO_s, lt_e, Sum.elim_inl, Sum.elim_inr, nI_1, nI_add, nle, nlt, neq, neq0, neq1, nlt0, nle0, n0le, n0lt, nlt1, n1le, n7m, pk_mul, l2, l3, l4, l5, l6, l7, l8, l9, l10, l13, l16, l20, l26, l27, l48, l57, l58, l60, l62, l70, l80, l90, l128, l140, l160, l420, l2000, l2001, bI_0, bI_1, bI_zz, bI_t, bI_f, zz_0, zz_1, ↓reduceIte, if_true, if_false, decide_true, decide_false, Bool.false_and, Bool.and_false, Bool.true_and, Bool.and_true, Bool.not_true, Bool.not_false, reduceCtorEq, Nat.reduceLeDiff, Nat.reduceEqDiff, Nat.reduceLT, Bool.true_eq_false, Bool.false_eq_true, eq_self, f_X7_shortest_L4, mI, mp, mk, mR0, mR1, mR2, mR3, mR4, mR5, mR9, mR10, mR16, mR17, mR18, mR21, mR22, mR23, mR25, mR26, mR29, mR30, mR35, mR36, mR37, mR38, mR39, ml1, ml2, ml3, ml4, ml5, ml6, ml7, ml8, ml9, ml10, ml11, ml12, ml13, ml14, ml15, ml16, ml17, ml18, ml19, ml20, ml21, ml22, ml23, ms1, ms2, ms3, ms4, ms5, ms6, ms7, ms8, ms9, ms10, ms11, ms12, ms13, ms14, ms15, ms16, ms17, ms18, ms19, ms20, ms21, ms22, ms23, h0, h3]
    refine (bO_e h6).trans ?_
    rfl) (by
    simp (disch := omega) only [i10, i01, gO_s, bO_s, lt_e, Sum.elim_inl, Sum.elim_inr, nI_1, nI_add, nle, nlt, neq, neq0, neq1, nlt0, nle0, n0le, n0lt, nlt1, n1le, n7m, pk_mul, l2, l3, l4, l5, l6, l7, l8, l9, l10, l13, l16, l20, l26, l27, l48, l57, l58, l60, l62, l70, l80, l90, l128, l140, l160, l420, l2000, l2001, bI_0, bI_1, bI_zz, bI_t, bI_f, zz_0, zz_1, ↓reduceIte, if_true, if_false, decide_true, decide_false, Bool.false_and, Bool.and_false, Bool.true_and, Bool.and_true, Bool.not_true, Bool.not_false, reduceCtorEq, Nat.reduceLeDiff, Nat.reduceEqDiff, Nat.reduceLT, Bool.true_eq_false, Bool.false_eq_true, eq_self, f_X7_shortest_L4, mI, mp, mk, mR0, mR1, mR2, mR3, mR4, mR5, mR9, mR10, mR16, mR17, mR18, mR21, mR22, mR23, mR25, mR26, mR29, mR30, mR35, mR36, mR37, mR38, mR39, ml1, ml2, ml3, ml4, ml5, ml6, ml7, ml8, ml9, ml10, ml11, ml12, ml13, ml14, ml15, ml16, ml17, ml18, ml19, ml20, ml21, ml22, ml23, ms1, ms2, ms3, ms4, ms5, ms6, ms7, ms8, ms9, ms10, ms11, ms12, ms13, ms14, ms15, ms16, ms17, ms18, ms19, ms20, ms21, ms22, ms23, h0, Nat.le_refl])
  unfold f_X7_shortest
  exact bO_e key
end NETM
