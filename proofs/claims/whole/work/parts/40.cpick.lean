/-! the k-th map, the number of one; the order of maps -/
/-- the first place at which they differ decides -/
def lexL (f g : Nat → Nat) : Prop := ∃ a, (∀ b, b < a → f b = g b) ∧ f a < g a
theorem lex_irr (f : Nat → Nat) : ¬ lexL f f := fun ⟨_, _, h⟩ => Nat.lt_irrefl _ h
theorem lex_tr {f g h : Nat → Nat} (h1 : lexL f g) (h2 : lexL g h) : lexL f h := by
  obtain ⟨a, a1, a2⟩ := h1
  obtain ⟨b, b1, b2⟩ := h2
  rcases Nat.lt_trichotomy a b with e | e | e
  · exact ⟨a, fun c hc => (a1 c hc).trans (b1 c (by omega)), by rw [← b1 a e]; exact a2⟩
  · subst e
    exact ⟨a, fun c hc => (a1 c hc).trans (b1 c hc), by omega⟩
  · exact ⟨b, fun c hc => (a1 c (by omega)).trans (b1 c hc), by rw [a1 b e]; exact b2⟩
theorem LL_lex {ch : Ch} {m : Nat} (hl : Loc ch) : ∀ {k a : Nat} {f : Nat → Nat}, (LL ch m k a f).Pairwise lexL := by
  intro k
  induction k with
  | zero => intro a f; exact List.pairwise_singleton _ _
  | succ k ih =>
    intro a f
    have main : ∀ x, (LX ch m k a f x).Pairwise lexL ∧ ∀ g, g ∈ LX ch m k a f x → (∀ b, b < a → g b = f b) ∧ g a < x := by
      intro x
      induction x with
      | zero => exact ⟨List.Pairwise.nil, fun g hg => by cases hg⟩
      | succ x ihx =>
        obtain ⟨h1, h2⟩ := ihx
        rw [LX_s]
        have h3 : ∀ g, g ∈ (if ch a f x = true then LL ch m k (a + 1) (up f a x) else []) → (∀ b, b < a → g b = f b) ∧ g a = x := by
          intro g hg
          by_cases e : ch a f x = true
          · rw [if_pos e] at hg
            obtain ⟨g1, _, _⟩ := (LL_mem hl up_can).mp hg
            exact ⟨fun b hb => by rw [g1 b (by omega), up_lt hb], by rw [g1 a (by omega), up_at]⟩
          · rw [if_neg e] at hg; cases hg
        refine ⟨List.pairwise_append.mpr ⟨h1, ?_, ?_⟩, ?_⟩
        · by_cases e : ch a f x = true
          · rw [if_pos e]; exact ih
          · rw [if_neg e]; exact List.Pairwise.nil
        · intro g hg g' hg'
          obtain ⟨p1, p2⟩ := h2 g hg
          obtain ⟨q1, q2⟩ := h3 g' hg'
          exact ⟨a, fun b hb => (p1 b hb).trans (q1 b hb).symm, by omega⟩
        · intro g hg
          rcases List.mem_append.mp hg with hg | hg
          · have := h2 g hg
            exact ⟨this.1, by omega⟩
          · have := h3 g hg
            exact ⟨this.1, by omega⟩
    exact (main m).1
/-- two lists in strict order with the same members are the same -/
theorem ord_ext {α : Type} {R : α → α → Prop} (irr : ∀ x, ¬ R x x) (tr : ∀ x y z, R x y → R y z → R x z) : ∀ (l l' : List α), l.Pairwise R → l'.Pairwise R → (∀ x, x ∈ l ↔ x ∈ l') → l = l' := by
  intro l
  induction l with
  | nil =>
    intro l' _ _ h
    cases l' with
    | nil => rfl
    | cons y l' => exact absurd ((h y).mpr List.mem_cons_self) List.not_mem_nil
  | cons x l ih =>
    intro l' h1 h2 h
    cases l' with
    | nil => exact absurd ((h x).mp List.mem_cons_self) List.not_mem_nil
    | cons y l' =>
      rw [List.pairwise_cons] at h1 h2
      have e : x = y := by
        rcases List.mem_cons.mp ((h x).mp List.mem_cons_self) with e | e
        · exact e
        · rcases List.mem_cons.mp ((h y).mpr List.mem_cons_self) with e2 | e2
          · exact e2.symm
          · exact absurd (tr _ _ _ (h1.1 y e2) (h2.1 x e)) (irr x)
      subst e
      congr 1
      apply ih l' h1.2 h2.2
      intro z
      constructor
      · intro hz
        rcases List.mem_cons.mp ((h z).mp (List.mem_cons_of_mem _ hz)) with e | e
        · subst e; exact absurd (h1.1 z hz) (irr z)
        · exact e
      · intro hz
        rcases List.mem_cons.mp ((h z).mpr (List.mem_cons_of_mem _ hz)) with e | e
        · subst e; exact absurd (h2.1 z hz) (irr z)
        · exact e
/-- the number of one, place by place -/
def IX (ch : Ch) (m : Nat) : Nat → Nat → (Nat → Nat) → Nat
  | 0, _, _ => 0
  | k + 1, a, g => (LX ch m k a g (g a)).length + IX ch m k (a + 1) g
theorem LX_cong {ch : Ch} {m k a x : Nat} {f g : Nat → Nat} (hl : Loc ch) (h : ∀ b, b < a → f b = g b) : LX ch m k a f x = LX ch m k a g x := by
  unfold LX
  congr 1
  funext y
  rw [hl a f g y h, up_cong h]
theorem LX_pre {ch : Ch} {m k a x : Nat} {f : Nat → Nat} : ∀ j, ∃ l, LX ch m k a f (x + j) = LX ch m k a f x ++ l := by
  intro j
  induction j with
  | zero => exact ⟨[], by rw [List.append_nil]; rfl⟩
  | succ j ih =>
    obtain ⟨l, h⟩ := ih
    rw [← Nat.add_assoc, LX_s, h, List.append_assoc]
    exact ⟨_, rfl⟩
theorem IX_at {ch : Ch} {m : Nat} (hl : Loc ch) {g : Nat → Nat} : ∀ {k a : Nat} {f : Nat → Nat}, Can a f → g ∈ LL ch m k a f → (LL ch m k a f)[IX ch m k a g]? = some g := by
  intro k
  induction k with
  | zero =>
    intro a f _ h
    have : g = f := List.mem_singleton.mp h
    rw [this]
    rfl
  | succ k ih =>
    intro a f hc h
    obtain ⟨h1, h2, h3⟩ := (LL_mem hl hc).mp h
    obtain ⟨h4, h5⟩ := h2 a (by omega) (by omega)
    have h6 : ch a f (g a) = true := by rw [hl a f g (g a) (fun b hb => (h1 b hb).symm)]; exact h5
    have h7 : g ∈ LL ch m k (a + 1) (up f a (g a)) := (LL_mem hl up_can).mpr ⟨fun b hb => by
      by_cases e : b = a
      · rw [e, up_at]
      · rw [up_lt (by omega)]; exact h1 b (by omega), fun b hb hb2 => h2 b (by omega) (by omega), fun b hb => h3 b (by omega)⟩
    obtain ⟨l, e⟩ := LX_pre (ch := ch) (m := m) (k := k) (a := a) (x := g a + 1) (f := f) (m - g a - 1)
    rw [show g a + 1 + (m - g a - 1) = m by omega, ← LL_s, LX_t h6] at e
    have h8 := ih up_can h7
    obtain ⟨h9, _⟩ := List.getElem?_eq_some_iff.mp h8
    rw [e]
    unfold IX
    rw [LX_cong hl (fun b hb => h1 b hb), List.append_assoc, List.getElem?_append_right (by omega), Nat.add_sub_cancel_left, List.getElem?_append_left h9]
    exact h8
section PICK
variable {s t s' : Nat → Nat → Int32} {g h n m lb ub : Nat} {E F M : Nat → Nat → Bool} {bnd ret : Bool}
/-- at one node: which it becomes -/
theorem q_pick34 (hn : n ≤ 27) {k a : Nat} (hak : a + (k + 1) = n) {f : Nat → Nat} {r : Nat} (hr : r < 2147483648) (hB : (LL (chC E F M lb ub n false ret) m (k + 1) a f).length < 2147483648) (hF : FS s g h n m E F M lb ub false ret) (hf : ∀ b, b < a → f b < m) (hA : ∀ b, b < a → s 257 b = nI (f b)) : ∃ y s', wh (f_X4_pick_L34 252 (imI f a) (nI a) (bs (chR E F M ret a f))) (nI r, 0, 0) (s, rC g h) = some (y, (s', rC g h)) ∧ FrS a s s' ∧ ((∃ x l, x < m ∧ chC E F M lb ub n false ret a f x = true ∧ (LX (chC E F M lb ub n false ret) m k a f x).length ≤ r ∧ r < (LX (chC E F M lb ub n false ret) m k a f x).length + (LL (chC E F M lb ub n false ret) m k (a + 1) (up f a x)).length ∧ y = (nI (r - (LX (chC E F M lb ub n false ret) m k a f x).length), 1) ∧ s' 257 a = nI x ∧ LL (chC E F M lb ub n false ret) m (k + 1) a f = LX (chC E F M lb ub n false ret) m k a f x ++ LL (chC E F M lb ub n false ret) m k (a + 1) (up f a x) ++ l) ∨ ((LL (chC E F M lb ub n false ret) m (k + 1) a f).length ≤ r ∧ y.2 = 0)) := by
  have hF' := hF
  obtain ⟨⟨g1, g2, ⟨k4, k5, k6⟩, ⟨g4, g5, g6⟩⟩, ⟨h1, h2, h3', h3, h4, h5⟩, _⟩ := hF
  have ha : a < n := by omega
  have hCR : ∀ x, chC E F M lb ub n false ret a f x = chR E F M ret a f x := fun x => by rw [chC_R]; exact Bool.and_true _
  generalize hCH : chC E F M lb ub n false ret = CH at *
  have hle : ∀ x, x ≤ m → (LX CH m k a f x).length ≤ (LL CH m (k + 1) a f).length := by
    intro x hx
    obtain ⟨l, e⟩ := LX_pre (ch := CH) (m := m) (k := k) (a := a) (x := x) (f := f) (m - x)
    rw [show x + (m - x) = m by omega, ← LL_s] at e
    rw [e, List.length_append]
    omega
  have key := wh_up (f := f_X4_pick_L34 252 (imI f a) (nI a) (bs (chR E F M ret a f))) (m + 1) (fun x v σ => ∃ s1, σ = (s1, rC g h) ∧ FrS a s s1 ∧ ((x ≤ m ∧ (LX CH m k a f x).length ≤ r ∧ v = (nI (r - (LX CH m k a f x).length), 0, nI x)) ∨ (∃ x', x' < m ∧ CH a f x' = true ∧ (LX CH m k a f x').length ≤ r ∧ r < (LX CH m k a f x').length + (LL CH m k (a + 1) (up f a x')).length ∧ v = (nI (r - (LX CH m k a f x').length), 1, nI (x' + 1)) ∧ s1 257 a = nI x'))) (Q := fun y σ => ∃ s1, σ = (s1, rC g h) ∧ FrS a s s1 ∧ (((LL CH m (k + 1) a f).length ≤ r ∧ y.2 = 0) ∨ (∃ x', x' < m ∧ CH a f x' = true ∧ (LX CH m k a f x').length ≤ r ∧ r < (LX CH m k a f x').length + (LL CH m k (a + 1) (up f a x')).length ∧ y = (nI (r - (LX CH m k a f x').length), 1) ∧ s1 257 a = nI x'))) (by
    rintro x v σ hx ⟨s1, rfl, hf1, hcase⟩
    have hF1 := FrS_FS hf1 hF'
    obtain ⟨⟨j1, j2, ⟨i4, i5, i6⟩, ⟨j4, j5, j6⟩⟩, _⟩ := hF1
    have hF1 := FrS_FS hf1 hF'
    rcases hcase with ⟨hxm, hlr, rfl⟩ | ⟨x', hx', hc', hl1, hl2, rfl, hs⟩
    · by_cases hxe : x = m
      · subst hxe
        refine ⟨.inr (nI (r - (LX CH x k a f x).length), 0), (s1, rC g h), ?_, s1, rfl, hf1, Or.inl ⟨by rw [LL_s]; exact hlr, rfl⟩⟩
        simp (disch := omega) only [i10, i01, gO_s, bO_s, lt_e, Sum.elim_inl, Sum.elim_inr, nI_1, nI_add, nle, nlt, neq, neq0, neq1, nlt0, nle0, n0le, n0lt, nlt1, n1le, n7m, pk_mul, l2, l3, l4, l5, l6, l7, l8, l9, l10, l13, l16, l20, l26, l27, l48, l57, l58, l60, l62, l70, l80, l90, l128, l140, l160, l420, l2000, l2001, bI_0, bI_1, bI_zz, bI_t, bI_f, zz_0, zz_1, ↓reduceIte, if_true, if_false, decide_true, decide_false, Bool.false_and, Bool.and_false, Bool.true_and, Bool.and_true, Bool.not_true, Bool.not_false, Bool.true_or, Bool.or_true, Bool.false_or, Bool.or_false, reduceCtorEq, Nat.reduceLeDiff, Nat.reduceEqDiff, Nat.reduceLT, Bool.true_eq_false, Bool.false_eq_true, eq_self, f_X4_pick_L34, fg1, nc_n g2, nc_t g2, nc_f g2, nc_lt g2, nc_lf g2, nc_st g2, nc_sf g2, nc_k g2, nc_p g2, j4, Nat.le_refl]
      · have hx3 : ¬ m ≤ x := by omega
        have hxlt : x < m := by omega
        cases e1 : chR E F M ret a f x
        · have e2 : CH a f x = false := by rw [hCR, e1]
          refine ⟨.inl (nI (r - (LX CH m k a f x).length), 0, nI (x + 1)), (s1, rC g h), ?_, s1, rfl, hf1, Or.inl ⟨by omega, by rw [LX_f e2]; exact hlr, by rw [LX_f e2]⟩⟩
          simp (disch := omega) only [i10, i01, gO_s, bO_s, lt_e, Sum.elim_inl, Sum.elim_inr, nI_1, nI_add, nle, nlt, neq, neq0, neq1, nlt0, nle0, n0le, n0lt, nlt1, n1le, n7m, pk_mul, l2, l3, l4, l5, l6, l7, l8, l9, l10, l13, l16, l20, l26, l27, l48, l57, l58, l60, l62, l70, l80, l90, l128, l140, l160, l420, l2000, l2001, bI_0, bI_1, bI_zz, bI_t, bI_f, zz_0, zz_1, ↓reduceIte, if_true, if_false, decide_true, decide_false, Bool.false_and, Bool.and_false, Bool.true_and, Bool.and_true, Bool.not_true, Bool.not_false, Bool.true_or, Bool.or_true, Bool.false_or, Bool.or_false, reduceCtorEq, Nat.reduceLeDiff, Nat.reduceEqDiff, Nat.reduceLT, Bool.true_eq_false, Bool.false_eq_true, eq_self, f_X4_pick_L34, f_X4_pick_b113, fg1, nc_n g2, nc_t g2, nc_f g2, nc_lt g2, nc_lf g2, nc_st g2, nc_sf g2, nc_k g2, nc_p g2, j4, hx3, q_has, bt_bs, e1]
        · have e2 : CH a f x = true := by rw [hCR, e1]
          have hf2 : FrS a s1 (st2 s1 257 a (nI x)) := FrS_7 (Nat.le_refl a)
          obtain ⟨s2, r1, r2⟩ := q_many (bnd := false) (ret := ret) hn k (a + 1) (by omega) 30 (by omega) (st2 s1 257 a (nI x)) (up f a x) (imI f a ||| ((1 : Int32) <<< (nI x &&& 31))) (FrS_FS hf2 hF1) (up_m hf hxlt) (fun b hb _ => by
            by_cases e : b = a
            · rw [e, up_at, st2_s]
            · rw [st2_n _ _ e, up_lt (by omega), hf1.2.2 b (by omega)]; exact hA b (by omega)) (fun _ => imI_up.symm)
          rw [hCH] at r1
          have hfin : FrS a s s2 := FrS_t hf1 (FrS_t hf2 (FrS_w r2 (by omega)))
          have hsx : s2 257 a = nI x := by rw [r2.2.2 a (by omega), st2_s]
          have hLs : (LX CH m k a f (x + 1)).length = (LX CH m k a f x).length + (LL CH m k (a + 1) (up f a x)).length := by rw [LX_t e2, List.length_append]
          have hb2 := hle (x + 1) (by omega)
          by_cases e5 : r < (LX CH m k a f x).length + (LL CH m k (a + 1) (up f a x)).length
          · have e6 : ¬ (LL CH m k (a + 1) (up f a x)).length ≤ r - (LX CH m k a f x).length := by omega
            refine ⟨.inl (nI (r - (LX CH m k a f x).length), 1, nI (x + 1)), (s2, rC g h), ?_, s2, rfl, hfin, Or.inr ⟨x, hxlt, e2, hlr, e5, rfl, hsx⟩⟩
            simp (disch := omega) only [i10, i01, gO_s, bO_s, lt_e, Sum.elim_inl, Sum.elim_inr, nI_1, nI_add, nle, nlt, neq, neq0, neq1, nlt0, nle0, n0le, n0lt, nlt1, n1le, n7m, pk_mul, l2, l3, l4, l5, l6, l7, l8, l9, l10, l13, l16, l20, l26, l27, l48, l57, l58, l60, l62, l70, l80, l90, l128, l140, l160, l420, l2000, l2001, bI_0, bI_1, bI_zz, bI_t, bI_f, zz_0, zz_1, ↓reduceIte, if_true, if_false, decide_true, decide_false, Bool.false_and, Bool.and_false, Bool.true_and, Bool.and_true, Bool.not_true, Bool.not_false, Bool.true_or, Bool.or_true, Bool.false_or, Bool.or_false, reduceCtorEq, Nat.reduceLeDiff, Nat.reduceEqDiff, Nat.reduceLT, Bool.true_eq_false, Bool.false_eq_true, eq_self, f_X4_pick_L34, f_X4_pick_b113, f_X4_pick_b111, f_X4_pick_b97, fg1, nc_n g2, nc_t g2, nc_f g2, nc_lt g2, nc_lf g2, nc_st g2, nc_sf g2, nc_k g2, nc_p g2, j4, hx3, q_has, bt_bs, e1, fg3, fs7, r1, e6, Int32.sub_zero]
          · have e6 : (LL CH m k (a + 1) (up f a x)).length ≤ r - (LX CH m k a f x).length := by omega
            refine ⟨.inl (nI (r - (LX CH m k a f (x + 1)).length), 0, nI (x + 1)), (s2, rC g h), ?_, s2, rfl, hfin, Or.inl ⟨by omega, by omega, rfl⟩⟩
            rw [hLs, show r - ((LX CH m k a f x).length + (LL CH m k (a + 1) (up f a x)).length) = r - (LX CH m k a f x).length - (LL CH m k (a + 1) (up f a x)).length by omega]
            simp (disch := omega) only [i10, i01, gO_s, bO_s, lt_e, Sum.elim_inl, Sum.elim_inr, nI_1, nI_add, nle, nlt, neq, neq0, neq1, nlt0, nle0, n0le, n0lt, nlt1, n1le, n7m, pk_mul, l2, l3, l4, l5, l6, l7, l8, l9, l10, l13, l16, l20, l26, l27, l48, l57, l58, l60, l62, l70, l80, l90, l128, l140, l160, l420, l2000, l2001, bI_0, bI_1, bI_zz, bI_t, bI_f, zz_0, zz_1, ↓reduceIte, if_true, if_false, decide_true, decide_false, Bool.false_and, Bool.and_false, Bool.true_and, Bool.and_true, Bool.not_true, Bool.not_false, Bool.true_or, Bool.or_true, Bool.false_or, Bool.or_false, reduceCtorEq, Nat.reduceLeDiff, Nat.reduceEqDiff, Nat.reduceLT, Bool.true_eq_false, Bool.false_eq_true, eq_self, f_X4_pick_L34, f_X4_pick_b113, f_X4_pick_b111, f_X4_pick_b97, fg1, nc_n g2, nc_t g2, nc_f g2, nc_lt g2, nc_lf g2, nc_st g2, nc_sf g2, nc_k g2, nc_p g2, j4, hx3, q_has, bt_bs, e1, fg3, fs7, r1, e6, pk_sub]
    · refine ⟨.inr (nI (r - (LX CH m k a f x').length), 1), (s1, rC g h), ?_, s1, rfl, hf1, Or.inr ⟨x', hx', hc', hl1, hl2, rfl, hs⟩⟩
      by_cases hx4 : m ≤ x' + 1
      · simp (disch := omega) only [i10, i01, gO_s, bO_s, lt_e, Sum.elim_inl, Sum.elim_inr, nI_1, nI_add, nle, nlt, neq, neq0, neq1, nlt0, nle0, n0le, n0lt, nlt1, n1le, n7m, pk_mul, l2, l3, l4, l5, l6, l7, l8, l9, l10, l13, l16, l20, l26, l27, l48, l57, l58, l60, l62, l70, l80, l90, l128, l140, l160, l420, l2000, l2001, bI_0, bI_1, bI_zz, bI_t, bI_f, zz_0, zz_1, ↓reduceIte, if_true, if_false, decide_true, decide_false, Bool.false_and, Bool.and_false, Bool.true_and, Bool.and_true, Bool.not_true, Bool.not_false, Bool.true_or, Bool.or_true, Bool.false_or, Bool.or_false, reduceCtorEq, Nat.reduceLeDiff, Nat.reduceEqDiff, Nat.reduceLT, Bool.true_eq_false, Bool.false_eq_true, eq_self, f_X4_pick_L34, fg1, nc_n g2, nc_t g2, nc_f g2, nc_lt g2, nc_lf g2, nc_st g2, nc_sf g2, nc_k g2, nc_p g2, j4, hx4]
      · simp (disch := omega) only [i10, i01, gO_s, bO_s, lt_e, Sum.elim_inl, Sum.elim_inr, nI_1, nI_add, nle, nlt, neq, neq0, neq1, nlt0, nle0, n0le, n0lt, nlt1, n1le, n7m, pk_mul, l2, l3, l4, l5, l6, l7, l8, l9, l10, l13, l16, l20, l26, l27, l48, l57, l58, l60, l62, l70, l80, l90, l128, l140, l160, l420, l2000, l2001, bI_0, bI_1, bI_zz, bI_t, bI_f, zz_0, zz_1, ↓reduceIte, if_true, if_false, decide_true, decide_false, Bool.false_and, Bool.and_false, Bool.true_and, Bool.and_true, Bool.not_true, Bool.not_false, Bool.true_or, Bool.or_true, Bool.false_or, Bool.or_false, reduceCtorEq, Nat.reduceLeDiff, Nat.reduceEqDiff, Nat.reduceLT, Bool.true_eq_false, Bool.false_eq_true, eq_self, f_X4_pick_L34, fg1, nc_n g2, nc_t g2, nc_f g2, nc_lt g2, nc_lf g2, nc_st g2, nc_sf g2, nc_k g2, nc_p g2, j4, hx4]) (by
    rintro v σ ⟨s1, rfl, hf1, hcase⟩
    have hF1 := FrS_FS hf1 hF'
    obtain ⟨⟨j1, j2, ⟨i4, i5, i6⟩, ⟨j4, j5, j6⟩⟩, _⟩ := hF1
    rcases hcase with ⟨hxm, hlr, rfl⟩ | ⟨x', hx', hc', hl1, hl2, rfl, hs⟩
    · omega
    · refine ⟨(nI (r - (LX CH m k a f x').length), 1), (s1, rC g h), ?_, s1, rfl, hf1, Or.inr ⟨x', hx', hc', hl1, hl2, rfl, hs⟩⟩
      by_cases hx4 : m ≤ x' + 1
      · simp (disch := omega) only [i10, i01, gO_s, bO_s, lt_e, Sum.elim_inl, Sum.elim_inr, nI_1, nI_add, nle, nlt, neq, neq0, neq1, nlt0, nle0, n0le, n0lt, nlt1, n1le, n7m, pk_mul, l2, l3, l4, l5, l6, l7, l8, l9, l10, l13, l16, l20, l26, l27, l48, l57, l58, l60, l62, l70, l80, l90, l128, l140, l160, l420, l2000, l2001, bI_0, bI_1, bI_zz, bI_t, bI_f, zz_0, zz_1, ↓reduceIte, if_true, if_false, decide_true, decide_false, Bool.false_and, Bool.and_false, Bool.true_and, Bool.and_true, Bool.not_true, Bool.not_false, Bool.true_or, Bool.or_true, Bool.false_or, Bool.or_false, reduceCtorEq, Nat.reduceLeDiff, Nat.reduceEqDiff, Nat.reduceLT, Bool.true_eq_false, Bool.false_eq_true, eq_self, f_X4_pick_L34, fg1, nc_n g2, nc_t g2, nc_f g2, nc_lt g2, nc_lf g2, nc_st g2, nc_sf g2, nc_k g2, nc_p g2, j4, hx4]
      · simp (disch := omega) only [i10, i01, gO_s, bO_s, lt_e, Sum.elim_inl, Sum.elim_inr, nI_1, nI_add, nle, nlt, neq, neq0, neq1, nlt0, nle0, n0le, n0lt, nlt1, n1le, n7m, pk_mul, l2, l3, l4, l5, l6, l7, l8, l9, l10, l13, l16, l20, l26, l27, l48, l57, l58, l60, l62, l70, l80, l90, l128, l140, l160, l420, l2000, l2001, bI_0, bI_1, bI_zz, bI_t, bI_f, zz_0, zz_1, ↓reduceIte, if_true, if_false, decide_true, decide_false, Bool.false_and, Bool.and_false, Bool.true_and, Bool.and_true, Bool.not_true, Bool.not_false, Bool.true_or, Bool.or_true, Bool.false_or, Bool.or_false, reduceCtorEq, Nat.reduceLeDiff, Nat.reduceEqDiff, Nat.reduceLT, Bool.true_eq_false, Bool.false_eq_true, eq_self, f_X4_pick_L34, fg1, nc_n g2, nc_t g2, nc_f g2, nc_lt g2, nc_lf g2, nc_st g2, nc_sf g2, nc_k g2, nc_p g2, j4, hx4]) (k := 0) (v := (nI r, 0, 0)) (σ := (s, rC g h)) (by omega) ⟨s, rfl, FrS_r _, Or.inl ⟨by omega, by rw [LX_0]; exact Nat.zero_le _, rfl⟩⟩
  obtain ⟨y, σ', r1, s1, rfl, hf1, hcase⟩ := key
  refine ⟨y, s1, r1, hf1, ?_⟩
  rcases hcase with h | ⟨x', hx', hc', hl1, hl2, hy, hs⟩
  · exact Or.inr h
  · left
    obtain ⟨l, e⟩ := LX_pre (ch := CH) (m := m) (k := k) (a := a) (x := x' + 1) (f := f) (m - x' - 1)
    rw [show x' + 1 + (m - x' - 1) = m by omega, ← LL_s, LX_t hc'] at e
    exact ⟨x', l, hx', hc', hl1, hl2, hy, hs, e⟩
theorem q_pick7 (hn : n ≤ 27) : ∀ (k a : Nat), a + k = n → ∀ (s : Nat → Nat → Int32) (f : Nat → Nat) (r : Nat), r < 2147483648 → (LL (chC E F M lb ub n false ret) m k a f).length < 2147483648 → r < (LL (chC E F M lb ub n false ret) m k a f).length → FS s g h n m E F M lb ub false ret → (∀ b, b < a → f b < m) → (∀ b, b < a → s 257 b = nI (f b)) → ∃ z s', wh (f_X4_pick_L7 252) (nI r, imI f a, nI a) (s, rC g h) = some (.inr (), (s', rC g h)) ∧ FrS 0 s s' ∧ (LL (chC E F M lb ub n false ret) m k a f)[r]? = some z ∧ ∀ b, b < n → s' 257 b = nI (z b) := by
  intro k
  induction k with
  | zero =>
    intro a hak s f r hr hB hlt hF hf hA
    obtain ⟨⟨g1, g2, ⟨k4, k5, k6⟩, ⟨g4, g5, g6⟩⟩, ⟨h1, h2, h3', h3, h4, h5⟩, _⟩ := hF
    have e : n ≤ a := by omega
    have e0 : r = 0 := by
      have : r < 1 := hlt
      omega
    subst e0
    exact ⟨f, s, wh_inr (by simp (disch := omega) only [i10, i01, gO_s, bO_s, lt_e, Sum.elim_inl, Sum.elim_inr, nI_1, nI_add, nle, nlt, neq, neq0, neq1, nlt0, nle0, n0le, n0lt, nlt1, n1le, n7m, pk_mul, l2, l3, l4, l5, l6, l7, l8, l9, l10, l13, l16, l20, l26, l27, l48, l57, l58, l60, l62, l70, l80, l90, l128, l140, l160, l420, l2000, l2001, bI_0, bI_1, bI_zz, bI_t, bI_f, zz_0, zz_1, ↓reduceIte, if_true, if_false, decide_true, decide_false, Bool.false_and, Bool.and_false, Bool.true_and, Bool.and_true, Bool.not_true, Bool.not_false, Bool.true_or, Bool.or_true, Bool.false_or, Bool.or_false, reduceCtorEq, Nat.reduceLeDiff, Nat.reduceEqDiff, Nat.reduceLT, Bool.true_eq_false, Bool.false_eq_true, eq_self, f_X4_pick_L7, fg0, nc_n g1, nc_t g1, nc_f g1, nc_lt g1, nc_lf g1, nc_st g1, nc_sf g1, nc_k g1, nc_p g1, k4, e]), FrS_r _, rfl, fun b hb => hA b (by omega)⟩
  | succ k ih =>
    intro a hak s f r hr hB hlt hF hf hA
    obtain ⟨y, s1, r1, hf1, hcase⟩ := q_pick34 hn hak hr hB hF hf hA
    rcases hcase with ⟨x, l, hx, hc, hl1, hl2, rfl, hs, hL⟩ | ⟨h1, _⟩
    · have hF' := hF
      obtain ⟨⟨g1, g2, ⟨k4, k5, k6⟩, ⟨g4, g5, g6⟩⟩, ⟨h1, h2, h3', h3, h4, h5⟩, _⟩ := hF
      have e : ¬ n ≤ a := by omega
      have ha : a < n := by omega
      have hch := q_choices (x2 := imI f a) hF' ha hf (fun b hb _ => hA b hb) (fun _ => rfl)
      have hA1 : ∀ b, b < a + 1 → s1 257 b = nI (up f a x b) := by
        intro b hb
        by_cases e : b = a
        · rw [e, up_at]; exact hs
        · rw [up_lt (by omega), hf1.2.2 b (by omega)]; exact hA b (by omega)
      obtain ⟨z, s2, r2, hf2, hz, hzb⟩ := ih (a + 1) (by omega) s1 (up f a x) (r - (LX (chC E F M lb ub n false ret) m k a f x).length) (by omega) (by rw [hL, List.length_append, List.length_append] at hB; omega) (by omega) (FrS_FS hf1 hF') (up_m hf hx) hA1
      refine ⟨z, s2, ?_, FrS_t (FrS_w hf1 (by omega)) hf2, ?_, hzb⟩
      · rw [← r2, imI_up]
        refine wh_inl ?_
        simp (disch := omega) only [i10, i01, gO_s, bO_s, lt_e, Sum.elim_inl, Sum.elim_inr, nI_1, nI_add, nle, nlt, neq, neq0, neq1, nlt0, nle0, n0le, n0lt, nlt1, n1le, n7m, pk_mul, l2, l3, l4, l5, l6, l7, l8, l9, l10, l13, l16, l20, l26, l27, l48, l57, l58, l60, l62, l70, l80, l90, l128, l140, l160, l420, l2000, l2001, bI_0, bI_1, bI_zz, bI_t, bI_f, zz_0, zz_1, ↓reduceIte, if_true, if_false, decide_true, decide_false, Bool.false_and, Bool.and_false, Bool.true_and, Bool.and_true, Bool.not_true, Bool.not_false, Bool.true_or, Bool.or_true, Bool.false_or, Bool.or_false, reduceCtorEq, Nat.reduceLeDiff, Nat.reduceEqDiff, Nat.reduceLT, Bool.true_eq_false, Bool.false_eq_true, eq_self, f_X4_pick_L7, fg0, nc_n g1, nc_t g1, nc_f g1, nc_lt g1, nc_lf g1, nc_st g1, nc_sf g1, nc_k g1, nc_p g1, k4, e, fK, hch]
        refine (bO_e r1).trans ?_
        have hx7 : x < 32 := by omega
        simp (disch := omega) only [i10, i01, gO_s, bO_s, lt_e, Sum.elim_inl, Sum.elim_inr, nI_1, nI_add, nle, nlt, neq, neq0, neq1, nlt0, nle0, n0le, n0lt, nlt1, n1le, n7m, pk_mul, l2, l3, l4, l5, l6, l7, l8, l9, l10, l13, l16, l20, l26, l27, l48, l57, l58, l60, l62, l70, l80, l90, l128, l140, l160, l420, l2000, l2001, bI_0, bI_1, bI_zz, bI_t, bI_f, zz_0, zz_1, ↓reduceIte, if_true, if_false, decide_true, decide_false, Bool.false_and, Bool.and_false, Bool.true_and, Bool.and_true, Bool.not_true, Bool.not_false, Bool.true_or, Bool.or_true, Bool.false_or, Bool.or_false, reduceCtorEq, Nat.reduceLeDiff, Nat.reduceEqDiff, Nat.reduceLT, Bool.true_eq_false, Bool.false_eq_true, eq_self, f_X4_pick_b119, i10, fg3, fl7, hs]
      · rw [hL, List.append_assoc, List.getElem?_append_right hl1, List.getElem?_append_left (by omega)]
        exact hz
    · omega
theorem q_pick (hF : FS s g h n m E F M lb ub false ret) (hB : (Ms E F M n m lb ub false ret).length < 2147483648) {r : Nat} (hr : r < 2147483648) : ∃ s', FrS 0 s s' ∧ ((∃ z, (Ms E F M n m lb ub false ret)[r]? = some z ∧ f_X4_pick 252 (nI r) (s, rC g h) = some (1, (s', rC g h)) ∧ ∀ b, b < n → s' 257 b = nI (z b)) ∨ ((Ms E F M n m lb ub false ret).length ≤ r ∧ f_X4_pick 252 (nI r) (s, rC g h) = some (0, (s', rC g h)))) := by
  have hF' := hF
  obtain ⟨⟨g1, g2, ⟨k4, k5, k6⟩, ⟨g4, g5, g6⟩⟩, ⟨h1, h2, h3', h3, h4, h5⟩, _⟩ := hF
  rcases Nat.lt_or_ge r (Ms E F M n m lb ub false ret).length with hlt | hge
  · obtain ⟨z, s', r1, r2, r3, r4⟩ := q_pick7 h3 n 0 (by omega) s f00 r hr hB hlt hF' (fun b hb => by omega) (fun b hb => by omega)
    refine ⟨s', r2, Or.inl ⟨z, r3, ?_, r4⟩⟩
    unfold f_X4_pick
    exact (bO_e r1).trans rfl
  · obtain ⟨k, rfl⟩ : ∃ k, n = k + 1 := ⟨n - 1, by omega⟩
    obtain ⟨y, s1, r1, hf1, hcase⟩ := q_pick34 (f := f00) h3 (a := 0) (k := k) (by omega) hr hB hF' (fun b hb => by omega) (fun b hb => by omega)
    rcases hcase with ⟨x, l, hx, hc, hl1, hl2, rfl, hs, hL⟩ | ⟨_, hy⟩
    · exfalso
      have : (Ms E F M (k + 1) m lb ub false ret).length = (LX (chC E F M lb ub (k + 1) false ret) m k 0 f00 x).length + (LL (chC E F M lb ub (k + 1) false ret) m k (0 + 1) (up f00 0 x)).length + l.length := by
        show (LL (chC E F M lb ub (k + 1) false ret) m (k + 1) 0 f00).length = _
        rw [hL, List.length_append, List.length_append]
      omega
    · refine ⟨s1, hf1, Or.inr ⟨hge, ?_⟩⟩
      have hch := q_choices (x2 := imI f00 0) (f := f00) (a := 0) hF' (by omega) (fun b hb => by omega) (fun b hb => by omega) (fun _ => rfl)
      have hw : wh (f_X4_pick_L7 252) (nI r, 0, 0) (s, rC g h) = some (.inl (), (s1, rC g h)) → f_X4_pick 252 (nI r) (s, rC g h) = some (0, (s1, rC g h)) := fun h => by
        unfold f_X4_pick
        exact (bO_e h).trans rfl
      apply hw
      refine wh_inr ?_
      have e : ¬ k + 1 ≤ 0 := by omega
      have hch' : f_X4_choices 252 0 0 (s, rC g h) = some (bs (chR E F M ret 0 f00), (s, rC g h)) := hch
      have r1' : wh (f_X4_pick_L34 252 0 0 (bs (chR E F M ret 0 f00))) (nI r, 0, 0) (s, rC g h) = some (y, (s1, rC g h)) := r1
      have k4' : ¬ nI (k + 1) ≤ 0 := by rw [nle0 (by omega)]; omega
      simp (disch := omega) only [i10, i01, gO_s, bO_s, lt_e, Sum.elim_inl, Sum.elim_inr, nI_1, nI_add, nle, nlt, neq, neq0, neq1, nlt0, nle0, n0le, n0lt, nlt1, n1le, n7m, pk_mul, l2, l3, l4, l5, l6, l7, l8, l9, l10, l13, l16, l20, l26, l27, l48, l57, l58, l60, l62, l70, l80, l90, l128, l140, l160, l420, l2000, l2001, bI_0, bI_1, bI_zz, bI_t, bI_f, zz_0, zz_1, ↓reduceIte, if_true, if_false, decide_true, decide_false, Bool.false_and, Bool.and_false, Bool.true_and, Bool.and_true, Bool.not_true, Bool.not_false, Bool.true_or, Bool.or_true, Bool.false_or, Bool.or_false, reduceCtorEq, Nat.reduceLeDiff, Nat.reduceEqDiff, Nat.reduceLT, Bool.true_eq_false, Bool.false_eq_true, eq_self, f_X4_pick_L7, fg0, nc_n g1, nc_t g1, nc_f g1, nc_lt g1, nc_lf g1, nc_st g1, nc_sf g1, nc_k g1, nc_p g1, k4, k4', fK, hch']
      refine (bO_e r1').trans ?_
      rw [f_X4_pick_b119, if_pos hy]
end PICK
