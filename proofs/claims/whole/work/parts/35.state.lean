/-! what both sides hold -/
abbrev St : Type := (Nat → Nat) × (Nat → Nat → Nat → Bool) × (Nat → Int32) × (Nat → Int32)
abbrev Ab : Type := St × (Nat → St) × Nat × (Nat → Nat) × Nat
def SC (s : Nat → Nat → Int32) (b l w : Nat) (S : St) : Prop := (∀ d, d < 6 → NetC s (b + 3 * d) (S.1 d) (S.2.1 d)) ∧ (∀ a, a < 7 → s l a = S.2.2.1 a) ∧ (∀ a, a < 7 → s w a = S.2.2.2 a)
def CC (s : Nat → Nat → Int32) (A : Ab) : Prop := SC s 5 3 4 A.1 ∧ (∀ i, i < A.2.2.1 → SC s (28 + 22 * i) (26 + 22 * i) (27 + 22 * i) (A.2.1 i)) ∧ s 0 2 = nI A.2.2.1 ∧ s 0 4 = nI A.2.2.2.2 ∧ (∀ i, i < A.2.2.2.2 → s 244 i = nI (A.2.2.2.1 i))
def SM (s : Nat → Nat → Int32) (S : St) : Prop := (∀ d, d < 6 → NetM s d (S.1 d) (S.2.1 d)) ∧ (∀ a, a < 7 → s 4 a = S.2.2.1 a) ∧ (∀ a, a < 7 → s 5 a = S.2.2.2 a)
def KM (s : Nat → Nat → Int32) (i : Nat) (S : St) : Prop := (∀ d, d < 6 → s 19 (6 * i + d) = nI (S.1 d)) ∧ (∀ d a, d < 6 → a < S.1 d → s 20 (42 * i + (7 * d + a)) = rT (S.2.1 d) a ∧ s 21 (42 * i + (7 * d + a)) = rF (S.2.1 d) a) ∧ (∀ a, a < 7 → s 22 (7 * i + a) = S.2.2.1 a) ∧ (∀ a, a < 7 → s 23 (7 * i + a) = S.2.2.2 a)
def MM (s : Nat → Nat → Int32) (A : Ab) : Prop := SM s A.1 ∧ (∀ i, i < A.2.2.1 → KM s i (A.2.1 i)) ∧ s 0 34 = nI A.2.2.1 ∧ s 0 6 = nI A.2.2.2.2 ∧ (∀ i, i < A.2.2.2.2 → s 6 i = i2b' (nI (A.2.2.2.1 i)))
def OKs (S : St) : Prop := (∀ d, d < 6 → S.1 d ≤ 7 ∧ Sup (S.1 d) (S.2.1 d)) ∧ (∀ a, a < 7 → lo 7 (S.2.2.1 a)) ∧ (∀ a, a < 7 → ∃ w, w ≤ 9 ∧ S.2.2.2 a = nI w)
def OK (A : Ab) : Prop := OKs A.1 ∧ (∀ i, i < A.2.2.1 → OKs (A.2.1 i)) ∧ A.2.2.1 ≤ 10 ∧ A.2.2.2.2 ≤ 160 ∧ (∀ i, A.2.2.2.1 i < 256)
def Both (x y : Hp → Option (Int32 × Hp)) : Prop := ∀ (A : Ab) (s t : Nat → Nat → Int32) (g h : Nat), OK A → CC s A → MM t A → ∃ (r : Int32) (s' t' : Nat → Nat → Int32) (g' h' : Nat) (A' : Ab), x (s, rC g h) = some (r, (s', rC g' h')) ∧ y (t, rM) = some (r, (t', rM)) ∧ OK A' ∧ CC s' A' ∧ MM t' A'
-- what changes nothing that lasts
def UpC (s s' : Nat → Nat → Int32) : Prop := ∀ k, k < 245 → s' k = s k
def UpM (d : Nat) (s s' : Nat → Nat → Int32) : Prop := (∀ e, e < 6 → e ≠ d → s' 1 e = s 1 e) ∧ (∀ i, i < 42 → (i < 7 * d ∨ 7 * d + 7 ≤ i) → s' 2 i = s 2 i) ∧ (∀ i, i < 42 → (i < 7 * d ∨ 7 * d + 7 ≤ i) → s' 3 i = s 3 i) ∧ (∀ k, (4 ≤ k ∧ k ≤ 6) ∨ 19 ≤ k → s' k = s k) ∧ s' 0 6 = s 0 6 ∧ s' 0 34 = s 0 34
section ST
variable {s s' s2 t t' : Nat → Nat → Int32} {A : Ab} {d n : Nat} {E : Nat → Nat → Bool}
theorem UpC_r : UpC s s := fun _ _ => rfl
theorem UpC_t (h1 : UpC s s2) (h2 : UpC s2 s') : UpC s s' := fun k hk => (h2 k hk).trans (h1 k hk)
theorem UpC_fr {L : List Nat} (h : Fr L s s') (hL : ∀ k, k ∈ L → 245 ≤ k) : UpC s s' := fun k hk => h k (fun e => by have := hL k e; omega)
theorem UpM_r : UpM d s s := ⟨fun _ _ _ => rfl, fun _ _ _ => rfl, fun _ _ _ => rfl, fun _ _ => rfl, rfl, rfl⟩
theorem UpM_t (h1 : UpM d s s2) (h2 : UpM d s2 s') : UpM d s s' := ⟨fun e a b => (h2.1 e a b).trans (h1.1 e a b), fun i a b => (h2.2.1 i a b).trans (h1.2.1 i a b), fun i a b => (h2.2.2.1 i a b).trans (h1.2.2.1 i a b), fun k a => (h2.2.2.2.1 k a).trans (h1.2.2.2.1 k a), h2.2.2.2.2.1.trans h1.2.2.2.2.1, h2.2.2.2.2.2.trans h1.2.2.2.2.2⟩
theorem UpM_w {e : Nat} (h : UpM e s s') (he : 6 ≤ e) : UpM d s s' := ⟨fun x a _ => h.1 x a (by omega), fun i a _ => h.2.1 i a (by omega), fun i a _ => h.2.2.1 i a (by omega), h.2.2.2.1, h.2.2.2.2.1, h.2.2.2.2.2⟩
theorem UpM_f (h : FrM d s s') : UpM d s s' := ⟨fun e _ b => h.2.1 e b, fun i _ b => h.2.2.1 i b, fun i _ b => h.2.2.2 i b, fun k hk => h.1 k (by simp; omega), by rw [h.1 0 (by simp)], by rw [h.1 0 (by simp)]⟩
theorem SC_up {b l w : Nat} {S : St} (h : SC s b l w S) (hu : ∀ k, (b ≤ k ∧ k < b + 18) ∨ k = l ∨ k = w → s' k = s k) : SC s' b l w S := by
  obtain ⟨h1, h2, h3⟩ := h
  refine ⟨fun d hd => ?_, fun a ha => ?_, fun a ha => ?_⟩
  · have := h1 d hd
    unfold NetC at *
    rw [hu _ (by omega), hu _ (by omega), hu _ (by omega)]
    exact this
  · rw [hu _ (by omega)]; exact h2 a ha
  · rw [hu _ (by omega)]; exact h3 a ha
theorem CC_up (hA : OK A) (h : CC s A) (hu : UpC s s') : CC s' A := by
  obtain ⟨h1, h2, h3, h4, h5⟩ := h
  obtain ⟨-, -, a3, -, -⟩ := hA
  refine ⟨SC_up h1 (fun k hk => hu k (by omega)), fun i hi => SC_up (h2 i hi) (fun k hk => hu k (by omega)), ?_, ?_, ?_⟩
  · rw [hu 0 (by omega)]; exact h3
  · rw [hu 0 (by omega)]; exact h4
  · rw [hu 244 (by omega)]; exact h5
theorem MM_up (hA : OK A) (h : MM s A) (hu : UpM 7 s s') : MM s' A := by
  obtain ⟨⟨h1, h2, h3⟩, h4, h5, h6, h7⟩ := h
  obtain ⟨⟨a1, -, -⟩, -, -, -, -⟩ := hA
  obtain ⟨u1, u2, u3, u4, u5, u6⟩ := hu
  refine ⟨⟨fun d hd => ?_, ?_, ?_⟩, ?_, ?_, ?_, ?_⟩
  · obtain ⟨i0, i1, i2⟩ := h1 d hd
    have := (a1 d hd).1
    refine ⟨(u1 d hd (by omega)).trans i0, fun a ha => (u2 _ (by omega) (by omega)).trans (i1 a ha), fun a ha => (u3 _ (by omega) (by omega)).trans (i2 a ha)⟩
  · rw [u4 4 (by omega)]; exact h2
  · rw [u4 5 (by omega)]; exact h3
  · unfold KM at *; rw [u4 19 (by omega), u4 20 (by omega), u4 21 (by omega), u4 22 (by omega), u4 23 (by omega)]; exact h4
  · rw [u6]; exact h5
  · rw [u5]; exact h6
  · rw [u4 6 (by omega)]; exact h7
/-- a drawer changed -/
def setD (A : Ab) (d n : Nat) (E : Nat → Nat → Bool) : Ab := ((fun x => if x = d then n else A.1.1 x, fun x => if x = d then E else A.1.2.1 x, A.1.2.2), A.2)
theorem OK_set (hA : OK A) (hn : n ≤ 7) (hS : Sup n E) : OK (setD A d n E) := by
  obtain ⟨⟨a1, a2, a3⟩, a4⟩ := hA
  refine ⟨⟨fun e he => ?_, a2, a3⟩, a4⟩
  show (if e = d then n else A.1.1 e) ≤ 7 ∧ Sup (if e = d then n else A.1.1 e) (if e = d then E else A.1.2.1 e)
  by_cases h : e = d
  · rw [if_pos h, if_pos h]; exact ⟨hn, hS⟩
  · rw [if_neg h, if_neg h]; exact a1 e he
theorem CC_set (hA : OK A) (h : CC s A) (hd : d < 6) (hN : NetC s' (5 + 3 * d) n E) (hu : ∀ k, k < 245 → k ≠ 5 + 3 * d → k ≠ 6 + 3 * d → k ≠ 7 + 3 * d → s' k = s k) : CC s' (setD A d n E) := by
  obtain ⟨⟨h0, h1, h1'⟩, h2, h3, h4, h5⟩ := h
  obtain ⟨-, -, a3, -, -⟩ := hA
  refine ⟨⟨fun e he => ?_, ?_, ?_⟩, fun i hi => SC_up (h2 i hi) (fun k hk => hu k (by have : i < A.2.2.1 := hi; omega) (by omega) (by omega) (by omega)), ?_, ?_, ?_⟩
  · show NetC s' (5 + 3 * e) (if e = d then n else A.1.1 e) (if e = d then E else A.1.2.1 e)
    by_cases h : e = d
    · rw [if_pos h, if_pos h, h]; exact hN
    · rw [if_neg h, if_neg h]
      have := h0 e he
      unfold NetC at *
      rw [hu _ (by omega) (by omega) (by omega) (by omega), hu _ (by omega) (by omega) (by omega) (by omega), hu _ (by omega) (by omega) (by omega) (by omega)]
      exact this
  · rw [hu 3 (by omega) (by omega) (by omega) (by omega)]; exact h1
  · rw [hu 4 (by omega) (by omega) (by omega) (by omega)]; exact h1'
  · rw [hu 0 (by omega) (by omega) (by omega) (by omega)]; exact h3
  · rw [hu 0 (by omega) (by omega) (by omega) (by omega)]; exact h4
  · rw [hu 244 (by omega) (by omega) (by omega) (by omega)]; exact h5
theorem MM_set (hA : OK A) (h : MM s A) (hd : d < 6) (hN : NetM s' d n E) (hu : UpM d s s') : MM s' (setD A d n E) := by
  obtain ⟨⟨h1, h2, h3⟩, h4, h5, h6, h7⟩ := h
  obtain ⟨⟨a1, -, -⟩, -, -, -, -⟩ := hA
  obtain ⟨u1, u2, u3, u4, u5, u6⟩ := hu
  refine ⟨⟨fun e he => ?_, ?_, ?_⟩, ?_, ?_, ?_, ?_⟩
  · show NetM s' e (if e = d then n else A.1.1 e) (if e = d then E else A.1.2.1 e)
    by_cases h : e = d
    · rw [if_pos h, if_pos h, h]; exact hN
    · rw [if_neg h, if_neg h]
      obtain ⟨i0, i1, i2⟩ := h1 e he
      have := (a1 e he).1
      refine ⟨(u1 e he h).trans i0, fun a ha => (u2 _ (by omega) (by omega)).trans (i1 a ha), fun a ha => (u3 _ (by omega) (by omega)).trans (i2 a ha)⟩
  · rw [u4 4 (by omega)]; exact h2
  · rw [u4 5 (by omega)]; exact h3
  · show ∀ i, i < A.2.2.1 → KM s' i (A.2.1 i)
    unfold KM at *; rw [u4 19 (by omega), u4 20 (by omega), u4 21 (by omega), u4 22 (by omega), u4 23 (by omega)]; exact h4
  · rw [u6]; exact h5
  · rw [u5]; exact h6
  · rw [u4 6 (by omega)]; exact h7
end ST
-- arguments
def dD (x : Int32) : Bool := decide (0 ≤ x) && decide (x ≤ nI 5)
def lim (n : Nat) : Nat := if n = 0 then 7 else n
def dN (n : Nat) (x : Int32) : Bool := decide (0 ≤ x) && decide (x ≤ nI (lim n - 1))
theorem in_t {u : Nat} {x : Int32} (hu : u < 2147483648) (h : (decide (0 ≤ x) && decide (x ≤ nI u)) = true) : ∃ k, k ≤ u ∧ x = nI k := by
  rw [Bool.and_eq_true] at h
  have h1 := of_decide_eq_true h.1
  have h2 := of_decide_eq_true h.2
  obtain ⟨j, hj, rfl⟩ := nI_of (Int32.not_lt.mpr h1)
  rw [nle hj hu] at h2
  exact ⟨j, h2, rfl⟩
theorem dD_t {x : Int32} (h : dD x = true) : ∃ k, k < 6 ∧ x = nI k := by
  obtain ⟨k, h1, h2⟩ := in_t (by omega) h
  exact ⟨k, by omega, h2⟩
theorem dD_n {k : Nat} (h : k < 6) : dD (nI k) = true := by
  unfold dD
  have e1 : k ≤ 5 := by omega
  simp (disch := omega) only [i10, i01, gO_s, bO_s, lt_e, Sum.elim_inl, Sum.elim_inr, nI_1, nI_add, nle, nlt, neq, neq0, neq1, nlt0, nle0, n0le, n0lt, nlt1, n1le, n7m, pk_mul, l2, l3, l4, l5, l6, l7, l8, l9, l10, l13, l16, l20, l26, l27, l48, l57, l58, l60, l62, l70, l80, l90, l128, l140, l160, l420, l2000, l2001, bI_0, bI_1, bI_zz, bI_t, bI_f, zz_0, zz_1, ↓reduceIte, if_true, if_false, decide_true, decide_false, Bool.false_and, Bool.and_false, Bool.true_and, Bool.and_true, Bool.not_true, Bool.not_false, reduceCtorEq, Nat.reduceLeDiff, Nat.reduceEqDiff, Nat.reduceLT, Bool.true_eq_false, Bool.false_eq_true, eq_self, e1]
theorem lim_le {n : Nat} (h : n ≤ 7) : 0 < lim n ∧ lim n ≤ 7 := by unfold lim; split <;> omega
theorem dN_t {n : Nat} {x : Int32} (hn : n ≤ 7) (h : dN n x = true) : ∃ k, k < lim n ∧ x = nI k := by
  have := lim_le hn
  obtain ⟨k, h1, h2⟩ := in_t (by omega) h
  exact ⟨k, by omega, h2⟩
theorem rng0 (u : Nat) (hu : u < 2147483648) (x : Int32) : (∃ k, k ≤ u ∧ x = nI k) ∨ (x < 0 ∧ ¬ 0 ≤ x) ∨ (¬ x < 0 ∧ 0 ≤ x ∧ nI u < x ∧ ¬ x ≤ nI u) := by
  by_cases h : x < 0
  · exact Or.inr (Or.inl ⟨h, Int32.not_le.mpr h⟩)
  · obtain ⟨j, hj, rfl⟩ := nI_of h
    by_cases h2 : j ≤ u
    · exact Or.inl ⟨j, h2, rfl⟩
    · exact Or.inr (Or.inr ⟨h, Int32.not_lt.mp h, by rw [nlt hu hj]; omega, by rw [nle hj hu]; omega⟩)
theorem rng1 (u : Nat) (hu : u < 2147483648) (x : Int32) : (∃ k, 1 ≤ k ∧ k ≤ u ∧ x = nI k) ∨ (x < 1 ∧ ¬ 1 ≤ x) ∨ (¬ x < 1 ∧ 1 ≤ x ∧ nI u < x ∧ ¬ x ≤ nI u) := by
  by_cases h : x < 1
  · exact Or.inr (Or.inl ⟨h, Int32.not_le.mpr h⟩)
  · have h0 : ¬ x < 0 := fun h' => h (by
      rw [Int32.lt_iff_toInt_lt] at h' ⊢
      have e0 : (0 : Int32).toInt = 0 := rfl
      have e1 : (1 : Int32).toInt = 1 := rfl
      omega)
    obtain ⟨j, hj, rfl⟩ := nI_of h0
    have h1 : 1 ≤ j := by rw [nlt1 hj] at h; omega
    by_cases h2 : j ≤ u
    · exact Or.inl ⟨j, h1, h2, rfl⟩
    · exact Or.inr (Or.inr ⟨h, Int32.not_lt.mp h, by rw [nlt hu hj]; omega, by rw [nle hj hu]; omega⟩)
theorem isN_d {k : Nat} (hk : k < 6) : isN (5 + 3 * k) := (by decide +kernel : ∀ k, k < 6 → shC[5 + 3 * k]? = some (.inl 1)) k hk
theorem isN_k {i k : Nat} (hi : i < 10) (hk : k < 6) : isN (28 + 22 * i + 3 * k) := (by decide +kernel : ∀ i, i < 10 → ∀ k, k < 6 → shC[28 + 22 * i + 3 * k]? = some (.inl 1)) i hi k hk
theorem isN_s : isN 249 := (by decide +kernel : shC[249]? = some (.inl 1))
theorem isN_r : isN 246 := (by decide +kernel : shC[246]? = some (.inl 1))
section QS
variable {s t : Nat → Nat → Int32} {g h : Nat} {n : Nat} {E : Nat → Nat → Bool}
theorem q_noD (x : Int32) (σ : Hp) : f_X6_noDrawer x σ = some (bI (!(dD x)), σ) := by
  unfold f_X6_noDrawer f_X6_noDrawer_b10 f_X6_noDrawer_b15 dD
  by_cases h : x < 0
  · rw [if_pos h, decide_eq_false (Int32.not_le.mpr h)]; rfl
  · rw [if_neg h, decide_eq_true (Int32.not_lt.mp h)]
    obtain ⟨j, hj, rfl⟩ := nI_of h
    by_cases h2 : j < 6
    · have h3 : j ≤ 5 := by omega
      simp (disch := omega) only [i10, i01, gO_s, bO_s, lt_e, Sum.elim_inl, Sum.elim_inr, nI_1, nI_add, nle, nlt, neq, neq0, neq1, nlt0, nle0, n0le, n0lt, nlt1, n1le, n7m, pk_mul, l2, l3, l4, l5, l6, l7, l8, l9, l10, l13, l16, l20, l26, l27, l48, l57, l58, l60, l62, l70, l80, l90, l128, l140, l160, l420, l2000, l2001, bI_0, bI_1, bI_zz, bI_t, bI_f, zz_0, zz_1, ↓reduceIte, if_true, if_false, decide_true, decide_false, Bool.false_and, Bool.and_false, Bool.true_and, Bool.and_true, Bool.not_true, Bool.not_false, reduceCtorEq, Nat.reduceLeDiff, Nat.reduceEqDiff, Nat.reduceLT, Bool.true_eq_false, Bool.false_eq_true, eq_self, h2, h3]
    · have h3 : ¬ j ≤ 5 := by omega
      simp (disch := omega) only [i10, i01, gO_s, bO_s, lt_e, Sum.elim_inl, Sum.elim_inr, nI_1, nI_add, nle, nlt, neq, neq0, neq1, nlt0, nle0, n0le, n0lt, nlt1, n1le, n7m, pk_mul, l2, l3, l4, l5, l6, l7, l8, l9, l10, l13, l16, l20, l26, l27, l48, l57, l58, l60, l62, l70, l80, l90, l128, l140, l160, l420, l2000, l2001, bI_0, bI_1, bI_zz, bI_t, bI_f, zz_0, zz_1, ↓reduceIte, if_true, if_false, decide_true, decide_false, Bool.false_and, Bool.and_false, Bool.true_and, Bool.and_true, Bool.not_true, Bool.not_false, reduceCtorEq, Nat.reduceLeDiff, Nat.reduceEqDiff, Nat.reduceLT, Bool.true_eq_false, Bool.false_eq_true, eq_self, h2, h3]
theorem m_isD (x : Int32) (σ : Hp) : f_X7_isDrawer x σ = some (bI (dD x), σ) := by
  unfold f_X7_isDrawer
  rw [m_in]
  simp (disch := omega) only [i10, i01, gO_s, bO_s, lt_e, Sum.elim_inl, Sum.elim_inr, nI_1, nI_add, nle, nlt, neq, neq0, neq1, nlt0, nle0, n0le, n0lt, nlt1, n1le, n7m, pk_mul, l2, l3, l4, l5, l6, l7, l8, l9, l10, l13, l16, l20, l26, l27, l48, l57, l58, l60, l62, l70, l80, l90, l128, l140, l160, l420, l2000, l2001, bI_0, bI_1, bI_zz, bI_t, bI_f, zz_0, zz_1, ↓reduceIte, if_true, if_false, decide_true, decide_false, Bool.false_and, Bool.and_false, Bool.true_and, Bool.and_true, Bool.not_true, Bool.not_false, reduceCtorEq, Nat.reduceLeDiff, Nat.reduceEqDiff, Nat.reduceLT, Bool.true_eq_false, Bool.false_eq_true, eq_self, ]
  rfl
theorem ck6 : chk shC 0 6 = some () := pk_ok (by decide)
theorem ck2 : chk shC 245 2 = some () := pk_ok (by decide)
theorem ck4 : chk shC 252 4 = some () := pk_ok (by decide)
theorem ck3 : chk shC 258 3 = some () := pk_ok (by decide)
theorem ck0 : chk shC 263 0 = some () := pk_ok (by decide)
theorem cI6 (j : Nat) : getI shC 6 0 j (s, rC g h) = some (s 0 j) := gI_ok (by decide)
theorem cp6 (j : Nat) (x : Int32) : putI shC 6 0 j x (s, rC g h) = some (st2 s 0 j x, rC g h) := pI_ok (by decide)
theorem cr0 : getR shC 6 0 0 (s, rC g h) = some 1 := gR_ok (by decide) rfl
theorem cr1 : getR shC 6 0 1 (s, rC g h) = some 23 := gR_ok (by decide) rfl
theorem cr3 : getR shC 6 0 3 (s, rC g h) = some 244 := gR_ok (by decide) rfl
theorem cr5 : getR shC 6 0 5 (s, rC g h) = some 245 := gR_ok (by decide) rfl
theorem cr6 : getR shC 6 0 6 (s, rC g h) = some 249 := gR_ok (by decide) rfl
theorem cr7 : getR shC 6 0 7 (s, rC g h) = some 252 := gR_ok (by decide) rfl
theorem cr8 : getR shC 6 0 8 (s, rC g h) = some 258 := gR_ok (by decide) rfl
theorem cr9 : getR shC 6 0 9 (s, rC g h) = some 263 := gR_ok (by decide) rfl
theorem cr10 : getR shC 6 0 10 (s, rC g h) = some 267 := gR_ok (by decide) rfl
theorem cr11 : getR shC 6 0 11 (s, rC g h) = some 268 := gR_ok (by decide) rfl
theorem cr12 : getR shC 6 0 12 (s, rC g h) = some 269 := gR_ok (by decide) rfl
theorem cs0 : getR shC 5 1 0 (s, rC g h) = some 2 := gR_ok (by decide) rfl
theorem cs1 : getR shC 5 1 1 (s, rC g h) = some 3 := gR_ok (by decide) rfl
theorem cs2 : getR shC 5 1 2 (s, rC g h) = some 4 := gR_ok (by decide) rfl
theorem cd2 {k : Nat} (hk : k < 6) : aldR shC 3 2 (nI k) (s, rC g h) = some (5 + 3 * k) := lR_ok (n := 6) (by decide) hk (by omega)
theorem ca3 {i : Nat} (hi : i < 7) : aldI shC 0 3 (nI i) (s, rC g h) = some (s 3 i) := ld_ok (n := 7) (by decide) hi (by omega)
theorem ca4 {i : Nat} (hi : i < 7) : aldI shC 0 4 (nI i) (s, rC g h) = some (s 4 i) := ld_ok (n := 7) (by decide) hi (by omega)
theorem cw3 {i : Nat} {x : Int32} (hi : i < 7) : astI shC 0 3 (nI i) x (s, rC g h) = some (st2 s 3 i x, rC g h) := st_ok0 (n := 7) (by decide) hi (by omega)
theorem cw4 {i : Nat} {x : Int32} (hi : i < 7) : astI shC 0 4 (nI i) x (s, rC g h) = some (st2 s 4 i x, rC g h) := st_ok0 (n := 7) (by decide) hi (by omega)
theorem q_in {k : Nat} (hk : k < 6) : f_X6_in 0 (nI k) (s, rC g h) = some (5 + 3 * k, (s, rC g h)) := by
  simp (disch := omega) only [i10, i01, gO_s, bO_s, lt_e, Sum.elim_inl, Sum.elim_inr, nI_1, nI_add, nle, nlt, neq, neq0, neq1, nlt0, nle0, n0le, n0lt, nlt1, n1le, n7m, pk_mul, l2, l3, l4, l5, l6, l7, l8, l9, l10, l13, l16, l20, l26, l27, l48, l57, l58, l60, l62, l70, l80, l90, l128, l140, l160, l420, l2000, l2001, bI_0, bI_1, bI_zz, bI_t, bI_f, zz_0, zz_1, ↓reduceIte, if_true, if_false, decide_true, decide_false, Bool.false_and, Bool.and_false, Bool.true_and, Bool.and_true, Bool.not_true, Bool.not_false, reduceCtorEq, Nat.reduceLeDiff, Nat.reduceEqDiff, Nat.reduceLT, Bool.true_eq_false, Bool.false_eq_true, eq_self, f_X6_in, cr0, cs0, cd2]
theorem q_noN {k : Nat} (hk : k < 6) (hN : NetC s (5 + 3 * k) n E) (hn : n ≤ 7) (x : Int32) : f_X6_noNode 0 (nI k) x (s, rC g h) = some (bI (!(dN n x)), (s, rC g h)) := by
  have hN' := hN
  have hr := isN_d hk
  have hk2 := dD_n hk
  obtain ⟨h0, h1, h2⟩ := hN
  unfold dN lim
  by_cases hx : x < 0
  · have hx2 := Int32.not_le.mpr hx
    simp (disch := omega) only [i10, i01, gO_s, bO_s, lt_e, Sum.elim_inl, Sum.elim_inr, nI_1, nI_add, nle, nlt, neq, neq0, neq1, nlt0, nle0, n0le, n0lt, nlt1, n1le, n7m, pk_mul, l2, l3, l4, l5, l6, l7, l8, l9, l10, l13, l16, l20, l26, l27, l48, l57, l58, l60, l62, l70, l80, l90, l128, l140, l160, l420, l2000, l2001, bI_0, bI_1, bI_zz, bI_t, bI_f, zz_0, zz_1, ↓reduceIte, if_true, if_false, decide_true, decide_false, Bool.false_and, Bool.and_false, Bool.true_and, Bool.and_true, Bool.not_true, Bool.not_false, reduceCtorEq, Nat.reduceLeDiff, Nat.reduceEqDiff, Nat.reduceLT, Bool.true_eq_false, Bool.false_eq_true, eq_self, f_X6_noNode, f_X6_noNode_b11, q_noD, hk2, hx2]
  · obtain ⟨j, hj, rfl⟩ := nI_of hx
    by_cases e : n = 0
    · subst e
      by_cases h5 : j < 7
      · have h6 : j ≤ 6 := by omega
        simp (disch := omega) only [i10, i01, gO_s, bO_s, lt_e, Sum.elim_inl, Sum.elim_inr, nI_1, nI_add, nle, nlt, neq, neq0, neq1, nlt0, nle0, n0le, n0lt, nlt1, n1le, n7m, pk_mul, l2, l3, l4, l5, l6, l7, l8, l9, l10, l13, l16, l20, l26, l27, l48, l57, l58, l60, l62, l70, l80, l90, l128, l140, l160, l420, l2000, l2001, bI_0, bI_1, bI_zz, bI_t, bI_f, zz_0, zz_1, ↓reduceIte, if_true, if_false, decide_true, decide_false, Bool.false_and, Bool.and_false, Bool.true_and, Bool.and_true, Bool.not_true, Bool.not_false, reduceCtorEq, Nat.reduceLeDiff, Nat.reduceEqDiff, Nat.reduceLT, Bool.true_eq_false, Bool.false_eq_true, eq_self, f_X6_noNode, f_X6_noNode_b38, f_X6_noNode_b46, q_noD, hk2, ck6, q_in hk, nc_n hr, nc_t hr, nc_f hr, nc_lt hr, nc_lf hr, nc_st hr, nc_sf hr, nc_k hr, nc_p hr, q_isEmpty hr hN', h5, h6]
      · have h6 : ¬ j ≤ 6 := by omega
        simp (disch := omega) only [i10, i01, gO_s, bO_s, lt_e, Sum.elim_inl, Sum.elim_inr, nI_1, nI_add, nle, nlt, neq, neq0, neq1, nlt0, nle0, n0le, n0lt, nlt1, n1le, n7m, pk_mul, l2, l3, l4, l5, l6, l7, l8, l9, l10, l13, l16, l20, l26, l27, l48, l57, l58, l60, l62, l70, l80, l90, l128, l140, l160, l420, l2000, l2001, bI_0, bI_1, bI_zz, bI_t, bI_f, zz_0, zz_1, ↓reduceIte, if_true, if_false, decide_true, decide_false, Bool.false_and, Bool.and_false, Bool.true_and, Bool.and_true, Bool.not_true, Bool.not_false, reduceCtorEq, Nat.reduceLeDiff, Nat.reduceEqDiff, Nat.reduceLT, Bool.true_eq_false, Bool.false_eq_true, eq_self, f_X6_noNode, f_X6_noNode_b38, f_X6_noNode_b46, q_noD, hk2, ck6, q_in hk, nc_n hr, nc_t hr, nc_f hr, nc_lt hr, nc_lf hr, nc_st hr, nc_sf hr, nc_k hr, nc_p hr, q_isEmpty hr hN', h5, h6]
    · by_cases h5 : j < n
      · have h6 : j ≤ n - 1 := by omega
        simp (disch := omega) only [i10, i01, gO_s, bO_s, lt_e, Sum.elim_inl, Sum.elim_inr, nI_1, nI_add, nle, nlt, neq, neq0, neq1, nlt0, nle0, n0le, n0lt, nlt1, n1le, n7m, pk_mul, l2, l3, l4, l5, l6, l7, l8, l9, l10, l13, l16, l20, l26, l27, l48, l57, l58, l60, l62, l70, l80, l90, l128, l140, l160, l420, l2000, l2001, bI_0, bI_1, bI_zz, bI_t, bI_f, zz_0, zz_1, ↓reduceIte, if_true, if_false, decide_true, decide_false, Bool.false_and, Bool.and_false, Bool.true_and, Bool.and_true, Bool.not_true, Bool.not_false, reduceCtorEq, Nat.reduceLeDiff, Nat.reduceEqDiff, Nat.reduceLT, Bool.true_eq_false, Bool.false_eq_true, eq_self, f_X6_noNode, f_X6_noNode_b38, f_X6_noNode_b46, q_noD, hk2, ck6, q_in hk, nc_n hr, nc_t hr, nc_f hr, nc_lt hr, nc_lf hr, nc_st hr, nc_sf hr, nc_k hr, nc_p hr, q_isEmpty hr hN', h0, e, h5, h6]
      · have h6 : ¬ j ≤ n - 1 := by omega
        simp (disch := omega) only [i10, i01, gO_s, bO_s, lt_e, Sum.elim_inl, Sum.elim_inr, nI_1, nI_add, nle, nlt, neq, neq0, neq1, nlt0, nle0, n0le, n0lt, nlt1, n1le, n7m, pk_mul, l2, l3, l4, l5, l6, l7, l8, l9, l10, l13, l16, l20, l26, l27, l48, l57, l58, l60, l62, l70, l80, l90, l128, l140, l160, l420, l2000, l2001, bI_0, bI_1, bI_zz, bI_t, bI_f, zz_0, zz_1, ↓reduceIte, if_true, if_false, decide_true, decide_false, Bool.false_and, Bool.and_false, Bool.true_and, Bool.and_true, Bool.not_true, Bool.not_false, reduceCtorEq, Nat.reduceLeDiff, Nat.reduceEqDiff, Nat.reduceLT, Bool.true_eq_false, Bool.false_eq_true, eq_self, f_X6_noNode, f_X6_noNode_b38, f_X6_noNode_b46, q_noD, hk2, ck6, q_in hk, nc_n hr, nc_t hr, nc_f hr, nc_lt hr, nc_lf hr, nc_st hr, nc_sf hr, nc_k hr, nc_p hr, q_isEmpty hr hN', h0, e, h5, h6]
theorem q_noN2 {x : Int32} (hx : dD x = false) (y : Int32) (σ : Hp) : f_X6_noNode 0 x y σ = some (1, σ) := by
  simp (disch := omega) only [i10, i01, gO_s, bO_s, lt_e, Sum.elim_inl, Sum.elim_inr, nI_1, nI_add, nle, nlt, neq, neq0, neq1, nlt0, nle0, n0le, n0lt, nlt1, n1le, n7m, pk_mul, l2, l3, l4, l5, l6, l7, l8, l9, l10, l13, l16, l20, l26, l27, l48, l57, l58, l60, l62, l70, l80, l90, l128, l140, l160, l420, l2000, l2001, bI_0, bI_1, bI_zz, bI_t, bI_f, zz_0, zz_1, ↓reduceIte, if_true, if_false, decide_true, decide_false, Bool.false_and, Bool.and_false, Bool.true_and, Bool.and_true, Bool.not_true, Bool.not_false, reduceCtorEq, Nat.reduceLeDiff, Nat.reduceEqDiff, Nat.reduceLT, Bool.true_eq_false, Bool.false_eq_true, eq_self, f_X6_noNode, f_X6_noNode_b11, q_noD, hx]
theorem m_isNode {k : Nat} (hk : k < 6) (hN : NetM t k n E) (hn : n ≤ 7) (x : Int32) : f_X7_isNode 0 (nI k) x (t, rM) = some (bI (dN n x), (t, rM)) := by
  have hN' := hN
  obtain ⟨h0, h1, h2⟩ := hN
  unfold dN lim
  by_cases e : n = 0
  · simp (disch := omega) only [i10, i01, gO_s, bO_s, lt_e, Sum.elim_inl, Sum.elim_inr, nI_1, nI_add, nle, nlt, neq, neq0, neq1, nlt0, nle0, n0le, n0lt, nlt1, n1le, n7m, pk_mul, l2, l3, l4, l5, l6, l7, l8, l9, l10, l13, l16, l20, l26, l27, l48, l57, l58, l60, l62, l70, l80, l90, l128, l140, l160, l420, l2000, l2001, bI_0, bI_1, bI_zz, bI_t, bI_f, zz_0, zz_1, ↓reduceIte, if_true, if_false, decide_true, decide_false, Bool.false_and, Bool.and_false, Bool.true_and, Bool.and_true, Bool.not_true, Bool.not_false, reduceCtorEq, Nat.reduceLeDiff, Nat.reduceEqDiff, Nat.reduceLT, Bool.true_eq_false, Bool.false_eq_true, eq_self, f_X7_isNode, f_X7_isNode_b21, mI, mp, mk, mR0, mR1, mR2, mR3, mR4, mR5, mR9, mR10, mR16, mR17, mR18, mR21, mR22, mR23, mR25, mR26, mR29, mR30, mR35, mR36, mR37, mR38, mR39, ml1, ml2, ml3, ml4, ml5, ml6, ml7, ml8, ml9, ml10, ml11, ml12, ml13, ml14, ml15, ml16, ml17, ml18, ml19, ml20, ml21, ml22, ml23, ms1, ms2, ms3, ms4, ms5, ms6, ms7, ms8, ms9, ms10, ms11, ms12, ms13, ms14, ms15, ms16, ms17, ms18, ms19, ms20, ms21, ms22, ms23, m_in, m_isEmpty hN', e]
    rfl
  · have e1 : nI n - 1 = nI (n - 1) := pk_sub (a := n) (b := 1) (by omega)
    simp (disch := omega) only [i10, i01, gO_s, bO_s, lt_e, Sum.elim_inl, Sum.elim_inr, nI_1, nI_add, nle, nlt, neq, neq0, neq1, nlt0, nle0, n0le, n0lt, nlt1, n1le, n7m, pk_mul, l2, l3, l4, l5, l6, l7, l8, l9, l10, l13, l16, l20, l26, l27, l48, l57, l58, l60, l62, l70, l80, l90, l128, l140, l160, l420, l2000, l2001, bI_0, bI_1, bI_zz, bI_t, bI_f, zz_0, zz_1, ↓reduceIte, if_true, if_false, decide_true, decide_false, Bool.false_and, Bool.and_false, Bool.true_and, Bool.and_true, Bool.not_true, Bool.not_false, reduceCtorEq, Nat.reduceLeDiff, Nat.reduceEqDiff, Nat.reduceLT, Bool.true_eq_false, Bool.false_eq_true, eq_self, f_X7_isNode, f_X7_isNode_b21, mI, mp, mk, mR0, mR1, mR2, mR3, mR4, mR5, mR9, mR10, mR16, mR17, mR18, mR21, mR22, mR23, mR25, mR26, mR29, mR30, mR35, mR36, mR37, mR38, mR39, ml1, ml2, ml3, ml4, ml5, ml6, ml7, ml8, ml9, ml10, ml11, ml12, ml13, ml14, ml15, ml16, ml17, ml18, ml19, ml20, ml21, ml22, ml23, ms1, ms2, ms3, ms4, ms5, ms6, ms7, ms8, ms9, ms10, ms11, ms12, ms13, ms14, ms15, ms16, ms17, ms18, ms19, ms20, ms21, ms22, ms23, m_in, m_isEmpty hN', e, h0, e1]
end QS
