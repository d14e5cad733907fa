/-! the seeker: choices, bounds, how many -/
def imI (f : Nat → Nat) (j : Nat) : Int32 := orI (fun b => (1 : Int32) <<< (nI (f b) &&& 31)) j
def retx (a : Nat) (f : Nat → Nat) (x : Nat) : Bool := allN (fun b => decide (f b = b) || !(decide (x = b))) a && (!(anyN (fun b => decide (f b = a)) a) || decide (x = a))
def bndx (lb ub n a : Nat) (f : Nat → Nat) (x : Nat) : Bool := decide (cI (imI f a ||| ((1 : Int32) <<< (nI x &&& 31))) ≤ ub) && decide (lb ≤ cI (imI f a ||| ((1 : Int32) <<< (nI x &&& 31))) + (n - 1 - a))
def cC (lb ub n : Nat) (bnd ret : Bool) (a : Nat) (g : Nat → Nat) : Bool := (!ret || retx a g (g a)) && (!bnd || bndx lb ub n a g (g a))
def chC (E F M : Nat → Nat → Bool) (lb ub n : Nat) (bnd ret : Bool) : Ch := fun a f x => chB E F M a f x && cC lb ub n bnd ret a (up f a x)
def chR (E F M : Nat → Nat → Bool) (ret : Bool) (a : Nat) (f : Nat → Nat) (x : Nat) : Bool := chB E F M a f x && (!ret || retx a f x)
theorem imI_c {f g : Nat → Nat} {j : Nat} (h : ∀ b, b < j → f b = g b) : imI f j = imI g j := orI_c fun b hb => by rw [h b hb]
theorem imI_s (f : Nat → Nat) (j : Nat) : imI f (j + 1) = imI f j ||| ((1 : Int32) <<< (nI (f j) &&& 31)) := rfl
theorem b_imI {f : Nat → Nat} {j i m : Nat} (h : ∀ b, b < j → f b < m) (hm : m ≤ 32) (ub : i < 32) : bt (imI f j) i = anyN (fun b => decide (f b = i)) j := by
  unfold imI
  rw [b_orI]
  apply anyN_c
  intro b hb
  rw [b_one (by have := h b hb; omega) ub]
  apply decide_eq_decide.mpr
  omega
theorem lo_imI {f : Nat → Nat} {j m : Nat} (h : ∀ b, b < j → f b < m) (hm : m ≤ 7) : lo 7 (imI f j) := fun i h1 h2 => by
  rw [b_imI h (by omega) h2]
  cases e : anyN (fun b => decide (f b = i)) j
  · rfl
  · obtain ⟨b, hb, e2⟩ := anyN_t.mp e
    have := h b hb
    have := of_decide_eq_true e2
    omega
theorem retx_c {a x : Nat} {f g : Nat → Nat} (h : ∀ b, b < a → f b = g b) : retx a f x = retx a g x := by
  unfold retx
  congr 1
  · exact allN_c fun b hb => by rw [h b hb]
  · congr 2
    exact anyN_c fun b hb => by rw [h b hb]
theorem bndx_c {lb ub n a x : Nat} {f g : Nat → Nat} (h : ∀ b, b < a → f b = g b) : bndx lb ub n a f x = bndx lb ub n a g x := by
  unfold bndx
  rw [imI_c h]
theorem cC_up {lb ub n a x : Nat} {bnd ret : Bool} {f : Nat → Nat} : cC lb ub n bnd ret a (up f a x) = ((!ret || retx a f x) && (!bnd || bndx lb ub n a f x)) := by
  unfold cC
  rw [up_at, retx_c (g := f) (fun b hb => up_lt hb), bndx_c (g := f) (fun b hb => up_lt hb)]
theorem cC_loc (lb ub n : Nat) (bnd ret : Bool) : LocC (cC lb ub n bnd ret) := by
  intro a f g h
  unfold cC
  rw [h a (Nat.le_refl a), retx_c (g := g) (fun b hb => h b (by omega)), bndx_c (g := g) (fun b hb => h b (by omega))]
theorem chC_loc (E F M : Nat → Nat → Bool) (lb ub n : Nat) (bnd ret : Bool) : Loc (chC E F M lb ub n bnd ret) := Loc_and (chB_loc E F M) (cC_loc lb ub n bnd ret)
theorem chC_R {E F M : Nat → Nat → Bool} {lb ub n a x : Nat} {bnd ret : Bool} {f : Nat → Nat} : chC E F M lb ub n bnd ret a f x = (chR E F M ret a f x && (!bnd || bndx lb ub n a f x)) := by
  unfold chC chR
  rw [cC_up, Bool.and_assoc]
theorem isN_far {r : Nat} (h : isN r) : r ≤ 249 ∨ r = 253 := (by decide +kernel : ∀ r, r < 270 → shC[r]? = some (.inl 1) → r ≤ 249 ∨ r = 253) r (isN_lt h) h
section FIND
variable {s t s' : Nat → Nat → Int32} {g h n m lb ub : Nat} {E F M : Nat → Nat → Bool} {bnd ret : Bool}
theorem fg0 : getR shC 4 252 0 (s, rC g h) = some g := gR_ok (by decide +kernel) rfl
theorem fg1 : getR shC 4 252 1 (s, rC g h) = some h := gR_ok (by decide +kernel) rfl
theorem fg2 : getR shC 4 252 2 (s, rC g h) = some 256 := gR_ok (by decide +kernel) rfl
theorem fg3 : getR shC 4 252 3 (s, rC g h) = some 257 := gR_ok (by decide +kernel) rfl
theorem fI (j : Nat) : getI shC 4 252 j (s, rC g h) = some (s 252 j) := gI_ok (by decide +kernel)
theorem fP (j : Nat) (x : Int32) : putI shC 4 252 j x (s, rC g h) = some (st2 s 252 j x, rC g h) := pI_ok (by decide +kernel)
theorem fZ (j : Nat) (b : Bool) : putZ shC 4 252 j (bI b) (s, rC g h) = some (st2 s 252 j (bI b), rC g h) := pZ_ok (by decide +kernel) (bI_01 b)
theorem fZ0 (j : Nat) : putZ shC 4 252 j 0 (s, rC g h) = some (st2 s 252 j 0, rC g h) := pZ_ok (by decide +kernel) (Or.inl rfl)
theorem fZ1 (j : Nat) : putZ shC 4 252 j 1 (s, rC g h) = some (st2 s 252 j 1, rC g h) := pZ_ok (by decide +kernel) (Or.inr rfl)
theorem fl6 {i : Nat} (ub : i < 27) : aldI shC 0 256 (nI i) (s, rC g h) = some (s 256 i) := ld_ok (n := 27) (by decide +kernel) ub (by omega)
theorem fl7 {i : Nat} (ub : i < 27) : aldI shC 0 257 (nI i) (s, rC g h) = some (s 257 i) := ld_ok (n := 27) (by decide +kernel) ub (by omega)
theorem fs6 {i : Nat} {x : Int32} (ub : i < 27) : astI shC 0 256 (nI i) x (s, rC g h) = some (st2 s 256 i x, rC g h) := st_ok0 (n := 27) (by decide +kernel) ub (by omega)
theorem fs7 {i : Nat} {x : Int32} (ub : i < 27) : astI shC 0 257 (nI i) x (s, rC g h) = some (st2 s 257 i x, rC g h) := st_ok0 (n := 27) (by decide +kernel) ub (by omega)
theorem fR0 (x : Nat) : putR shC 4 252 0 x (s, rC g h) = some (s, rC x h) := by
  unfold putR
  rw [if_pos (by decide +kernel)]
  unfold setR
  congr 2
  funext a b
  dsimp only
  by_cases e : a = 252
  · subst e
    rw [if_pos rfl]
    have e2 : shC[252]? = some (.inl 4) := by decide +kernel
    unfold rC
    rw [e2]
    match b with
    | 0 => rfl
    | b + 1 => rfl
  · rw [if_neg e]
    unfold rC
    cases e3 : shC[a]? with
    | none => rfl
    | some q =>
      have e4 : ∀ a, a < 270 → shC[a]? = some (.inl 4) → a = 252 := by decide +kernel
      have e5 : a < 270 := by
        obtain ⟨h1, _⟩ := List.getElem?_eq_some_iff.mp e3
        rw [shC_len] at h1
        exact h1
      match q, e3 with
      | .inl 0, _ => rfl
      | .inl 1, _ => rfl
      | .inl 2, _ => rfl
      | .inl 3, _ => rfl
      | .inl 4, e3 => exact absurd (e4 a e5 e3) e
      | .inl 5, _ => rfl
      | .inl 6, _ => rfl
      | .inl (_ + 7), _ => rfl
      | .inr (0, _), _ => rfl
      | .inr (1, _), _ => rfl
      | .inr (2, _), _ => rfl
      | .inr (3, _), _ => rfl
      | .inr (4, _), _ => rfl
      | .inr (_ + 5, _), _ => rfl
theorem fR1 (x : Nat) : putR shC 4 252 1 x (s, rC g h) = some (s, rC g x) := by
  unfold putR
  rw [if_pos (by decide +kernel)]
  unfold setR
  congr 2
  funext a b
  dsimp only
  by_cases e : a = 252
  · subst e
    rw [if_pos rfl]
    have e2 : shC[252]? = some (.inl 4) := by decide +kernel
    unfold rC
    rw [e2]
    match b with
    | 0 => rfl
    | 1 => rfl
    | b + 2 => rfl
  · rw [if_neg e]
    unfold rC
    cases e3 : shC[a]? with
    | none => rfl
    | some q =>
      have e4 : ∀ a, a < 270 → shC[a]? = some (.inl 4) → a = 252 := by decide +kernel
      have e5 : a < 270 := by
        obtain ⟨h1, _⟩ := List.getElem?_eq_some_iff.mp e3
        rw [shC_len] at h1
        exact h1
      match q, e3 with
      | .inl 0, _ => rfl
      | .inl 1, _ => rfl
      | .inl 2, _ => rfl
      | .inl 3, _ => rfl
      | .inl 4, e3 => exact absurd (e4 a e5 e3) e
      | .inl 5, _ => rfl
      | .inl 6, _ => rfl
      | .inl (_ + 7), _ => rfl
      | .inr (0, _), _ => rfl
      | .inr (1, _), _ => rfl
      | .inr (2, _), _ => rfl
      | .inr (3, _), _ => rfl
      | .inr (4, _), _ => rfl
      | .inr (_ + 5, _), _ => rfl
theorem fK : chk shC 252 4 = some () := pk_ok (by decide +kernel)
def FS (s : Nat → Nat → Int32) (g h n m : Nat) (E F M : Nat → Nat → Bool) (lb ub : Nat) (bnd ret : Bool) : Prop := (isN g ∧ isN h ∧ NetC s g n E ∧ NetC s h m F) ∧ (Sup n E ∧ Sup m F ∧ 1 ≤ n ∧ n ≤ 27 ∧ 1 ≤ m ∧ m ≤ 7) ∧ ((∀ a, a < n → s 256 a = bs (M a)) ∧ (∀ a x, a < n → M a x = true → x < m)) ∧ s 252 5 = nI lb ∧ s 252 6 = nI ub ∧ s 252 7 = bI bnd ∧ s 252 8 = bI ret ∧ lb ≤ 7 ∧ ub ≤ 7
def FrS (a : Nat) (s s' : Nat → Nat → Int32) : Prop := (∀ k, k ≠ 252 → k ≠ 257 → s' k = s k) ∧ (∀ j, j ≠ 4 → s' 252 j = s 252 j) ∧ (∀ b, b < a → s' 257 b = s 257 b)
theorem FrS_r (a : Nat) : FrS a s s := ⟨fun _ _ _ => rfl, fun _ _ => rfl, fun _ _ => rfl⟩
theorem FrS_t {a : Nat} (h1 : FrS a s t) (h2 : FrS a t s') : FrS a s s' := ⟨fun k a b => (h2.1 k a b).trans (h1.1 k a b), fun j a => (h2.2.1 j a).trans (h1.2.1 j a), fun b a => (h2.2.2 b a).trans (h1.2.2 b a)⟩
theorem FrS_w {a b : Nat} (h : FrS a s t) (hb : b ≤ a) : FrS b s t := ⟨h.1, h.2.1, fun x hx => h.2.2 x (by omega)⟩
theorem FrS_7 {a b : Nat} {x : Int32} (hb : a ≤ b) : FrS a s (st2 s 257 b x) := ⟨fun k _ h2 => st2_o _ _ h2, fun j _ => by rw [st2_o _ _ (by omega)], fun c hc => st2_n _ _ (by omega)⟩
theorem FrS_4 {a : Nat} {x : Int32} : FrS a s (st2 s 252 4 x) := ⟨fun k h2 _ => st2_o _ _ h2, fun j hj => st2_n _ _ hj, fun c _ => by rw [st2_o _ _ (by omega)]⟩
theorem FrS_N {r a : Nat} (hr : isN r) (hf : FrS a s s') (hN : NetC s r n E) : NetC s' r n E := by
  have := isN_far hr
  unfold NetC
  rw [hf.1 r (by omega) (by omega), hf.1 (r + 1) (by omega) (by omega), hf.1 (r + 2) (by omega) (by omega)]
  exact hN
theorem FrS_FS {a : Nat} (hf : FrS a s s') (hF : FS s g h n m E F M lb ub bnd ret) : FS s' g h n m E F M lb ub bnd ret := by
  obtain ⟨⟨g1, g2, g3, g4⟩, e2, ⟨e3, e3'⟩, e4, e5, e6, e7, e8⟩ := hF
  refine ⟨⟨g1, g2, FrS_N g1 hf g3, FrS_N g2 hf g4⟩, e2, ⟨?_, e3'⟩, ?_, ?_, ?_, ?_, e8⟩
  · rw [hf.1 256 (by omega) (by omega)]; exact e3
  · rw [hf.2.1 5 (by omega)]; exact e4
  · rw [hf.2.1 6 (by omega)]; exact e5
  · rw [hf.2.1 7 (by omega)]; exact e6
  · rw [hf.2.1 8 (by omega)]; exact e7
/-- what is asked of the images ahead -/
def Ask (s : Nat → Nat → Int32) (n : Nat) (E : Nat → Nat → Bool) (bnd ret : Bool) (a : Nat) (f : Nat → Nat) : Prop := ∀ b, b < a → (bnd = true ∨ ret = true ∨ ∃ c, a ≤ c ∧ c < n ∧ (E b c = true ∨ E c b = true)) → s 257 b = nI (f b)
theorem bool_c (a b c d e f g : Bool) : (a && b && (!c || d) && e && f && (!c || g)) = (a && (b && (e && f)) && (!c || (d && g))) := by
  cases a <;> cases b <;> cases c <;> cases d <;> cases e <;> cases f <;> cases g <;> rfl
section CHO
variable {a : Nat} {f : Nat → Nat} {x2 : Int32}
theorem q_ch94 (hF : FS s g h n m E F M lb ub bnd ret) {k : Nat} (hk : k < a) (ha : a < n) (hf : ∀ b, b < a → f b < m) (hA : Ask s n E bnd ret a f) (x4 x5 : Int32) (p : Nat → Bool) : f_X4_choices_b94 252 (nI a) x2 (bs p) x4 x5 (nI k) (s, rC g h) = some (Sum.inl (bs (fun x => p x && (!ret || (decide (f k = k) || !(decide (x = k))))), nI (k + 1)), (s, rC g h)) := by
  obtain ⟨⟨g1, g2, g3, g4⟩, ⟨h1, h2, h3', h3, h4, h5⟩, ⟨e3, e3'⟩, e4, e5, e6, e7, e8⟩ := hF
  have h6 := hf k hk
  cases hr : ret
  · rw [hr] at e7
    simp (disch := omega) only [i10, i01, gO_s, bO_s, lt_e, Sum.elim_inl, Sum.elim_inr, nI_1, nI_add, nle, nlt, neq, neq0, neq1, nlt0, nle0, n0le, n0lt, nlt1, n1le, n7m, pk_mul, l2, l3, l4, l5, l6, l7, l8, l9, l10, l13, l16, l20, l26, l27, l48, l57, l58, l60, l62, l70, l80, l90, l128, l140, l160, l420, l2000, l2001, bI_0, bI_1, bI_zz, bI_t, bI_f, zz_0, zz_1, ↓reduceIte, if_true, if_false, decide_true, decide_false, Bool.false_and, Bool.and_false, Bool.true_and, Bool.and_true, Bool.not_true, Bool.not_false, Bool.true_or, Bool.or_true, Bool.false_or, Bool.or_false, reduceCtorEq, Nat.reduceLeDiff, Nat.reduceEqDiff, Nat.reduceLT, Bool.true_eq_false, Bool.false_eq_true, eq_self, f_X4_choices_b94, f_X4_choices_b122, fI, e7, bI_f]
  · rw [hr] at e7
    have h7 := hA k hk (Or.inr (Or.inl hr))
    by_cases e : f k = k
    · simp (disch := omega) only [i10, i01, gO_s, bO_s, lt_e, Sum.elim_inl, Sum.elim_inr, nI_1, nI_add, nle, nlt, neq, neq0, neq1, nlt0, nle0, n0le, n0lt, nlt1, n1le, n7m, pk_mul, l2, l3, l4, l5, l6, l7, l8, l9, l10, l13, l16, l20, l26, l27, l48, l57, l58, l60, l62, l70, l80, l90, l128, l140, l160, l420, l2000, l2001, bI_0, bI_1, bI_zz, bI_t, bI_f, zz_0, zz_1, ↓reduceIte, if_true, if_false, decide_true, decide_false, Bool.false_and, Bool.and_false, Bool.true_and, Bool.and_true, Bool.not_true, Bool.not_false, Bool.true_or, Bool.or_true, Bool.false_or, Bool.or_false, reduceCtorEq, Nat.reduceLeDiff, Nat.reduceEqDiff, Nat.reduceLT, Bool.true_eq_false, Bool.false_eq_true, eq_self, f_X4_choices_b94, f_X4_choices_b122, fI, e7, bI_t, i10, fg3, fl7, h7, e]
    · simp (disch := omega) only [i10, i01, gO_s, bO_s, lt_e, Sum.elim_inl, Sum.elim_inr, nI_1, nI_add, nle, nlt, neq, neq0, neq1, nlt0, nle0, n0le, n0lt, nlt1, n1le, n7m, pk_mul, l2, l3, l4, l5, l6, l7, l8, l9, l10, l13, l16, l20, l26, l27, l48, l57, l58, l60, l62, l70, l80, l90, l128, l140, l160, l420, l2000, l2001, bI_0, bI_1, bI_zz, bI_t, bI_f, zz_0, zz_1, ↓reduceIte, if_true, if_false, decide_true, decide_false, Bool.false_and, Bool.and_false, Bool.true_and, Bool.and_true, Bool.not_true, Bool.not_false, Bool.true_or, Bool.or_true, Bool.false_or, Bool.or_false, reduceCtorEq, Nat.reduceLeDiff, Nat.reduceEqDiff, Nat.reduceLT, Bool.true_eq_false, Bool.false_eq_true, eq_self, f_X4_choices_b94, f_X4_choices_b122, fI, e7, bI_t, i10, fg3, fl7, h7, e, bs_one, bs_not, bs_and]
theorem q_ch66 (hF : FS s g h n m E F M lb ub bnd ret) {k : Nat} (hk : k < a) (ha : a < n) (hf : ∀ b, b < a → f b < m) (hA : Ask s n E bnd ret a f) (x4 : Int32) (p : Nat → Bool) : f_X4_choices_b66 252 (nI a) x2 (bs p) x4 (rF E a) (nI k) (s, rC g h) = some (Sum.inl (bs (fun x => p x && (!(E k a) || F (f k) x) && (!ret || (decide (f k = k) || !(decide (x = k))))), nI (k + 1)), (s, rC g h)) := by
  have hF' := hF
  obtain ⟨⟨g1, g2, g3, ⟨g4, g5, g6⟩⟩, ⟨h1, h2, h3', h3, h4, h5⟩, ⟨e3, e3'⟩, e4, e5, e6, e7, e8⟩ := hF
  have h6 := hf k hk
  cases e : E k a
  · simp (disch := omega) only [i10, i01, gO_s, bO_s, lt_e, Sum.elim_inl, Sum.elim_inr, nI_1, nI_add, nle, nlt, neq, neq0, neq1, nlt0, nle0, n0le, n0lt, nlt1, n1le, n7m, pk_mul, l2, l3, l4, l5, l6, l7, l8, l9, l10, l13, l16, l20, l26, l27, l48, l57, l58, l60, l62, l70, l80, l90, l128, l140, l160, l420, l2000, l2001, bI_0, bI_1, bI_zz, bI_t, bI_f, zz_0, zz_1, ↓reduceIte, if_true, if_false, decide_true, decide_false, Bool.false_and, Bool.and_false, Bool.true_and, Bool.and_true, Bool.not_true, Bool.not_false, Bool.true_or, Bool.or_true, Bool.false_or, Bool.or_false, reduceCtorEq, Nat.reduceLeDiff, Nat.reduceEqDiff, Nat.reduceLT, Bool.true_eq_false, Bool.false_eq_true, eq_self, f_X4_choices_b66, q_has, b_F, e, q_ch94 hF' hk ha hf hA]
  · have h7 := hA k hk (Or.inr (Or.inr ⟨a, by omega, ha, Or.inl e⟩))
    have h8 : bs p &&& rT F (f k) = bs (fun i => p i && F (f k) i) := bs_and p (F (f k))
    simp (disch := omega) only [i10, i01, gO_s, bO_s, lt_e, Sum.elim_inl, Sum.elim_inr, nI_1, nI_add, nle, nlt, neq, neq0, neq1, nlt0, nle0, n0le, n0lt, nlt1, n1le, n7m, pk_mul, l2, l3, l4, l5, l6, l7, l8, l9, l10, l13, l16, l20, l26, l27, l48, l57, l58, l60, l62, l70, l80, l90, l128, l140, l160, l420, l2000, l2001, bI_0, bI_1, bI_zz, bI_t, bI_f, zz_0, zz_1, ↓reduceIte, if_true, if_false, decide_true, decide_false, Bool.false_and, Bool.and_false, Bool.true_and, Bool.and_true, Bool.not_true, Bool.not_false, Bool.true_or, Bool.or_true, Bool.false_or, Bool.or_false, reduceCtorEq, Nat.reduceLeDiff, Nat.reduceEqDiff, Nat.reduceLT, Bool.true_eq_false, Bool.false_eq_true, eq_self, f_X4_choices_b66, q_has, b_F, e, fg1, nc_n g2, nc_t g2, nc_f g2, nc_lt g2, nc_lf g2, nc_st g2, nc_sf g2, nc_k g2, nc_p g2, fg3, fl7, h7, g5, h8, q_ch94 hF' hk ha hf hA]
theorem q_ch32 (hF : FS s g h n m E F M lb ub bnd ret) {k : Nat} (hk : k < a) (ha : a < n) (hf : ∀ b, b < a → f b < m) (hA : Ask s n E bnd ret a f) (p : Nat → Bool) : f_X4_choices_L32 252 (nI a) x2 (rT E a) (rF E a) (bs p, nI k) (s, rC g h) = some (Sum.inl (bs (fun x => p x && (!(E a k) || F x (f k)) && (!(E k a) || F (f k) x) && (!ret || (decide (f k = k) || !(decide (x = k))))), nI (k + 1)), (s, rC g h)) := by
  have hF' := hF
  obtain ⟨⟨g1, g2, g3, ⟨g4, g5, g6⟩⟩, ⟨h1, h2, h3', h3, h4, h5⟩, ⟨e3, e3'⟩, e4, e5, e6, e7, e8⟩ := hF
  have h6 := hf k hk
  have h9 : ¬ a ≤ k := by omega
  cases e : E a k
  · simp (disch := omega) only [i10, i01, gO_s, bO_s, lt_e, Sum.elim_inl, Sum.elim_inr, nI_1, nI_add, nle, nlt, neq, neq0, neq1, nlt0, nle0, n0le, n0lt, nlt1, n1le, n7m, pk_mul, l2, l3, l4, l5, l6, l7, l8, l9, l10, l13, l16, l20, l26, l27, l48, l57, l58, l60, l62, l70, l80, l90, l128, l140, l160, l420, l2000, l2001, bI_0, bI_1, bI_zz, bI_t, bI_f, zz_0, zz_1, ↓reduceIte, if_true, if_false, decide_true, decide_false, Bool.false_and, Bool.and_false, Bool.true_and, Bool.and_true, Bool.not_true, Bool.not_false, Bool.true_or, Bool.or_true, Bool.false_or, Bool.or_false, reduceCtorEq, Nat.reduceLeDiff, Nat.reduceEqDiff, Nat.reduceLT, Bool.true_eq_false, Bool.false_eq_true, eq_self, f_X4_choices_L32, h9, q_has, b_T, e, q_ch66 hF' hk ha hf hA]
  · have h7 := hA k hk (Or.inr (Or.inr ⟨a, by omega, ha, Or.inr e⟩))
    have h8 : bs p &&& rF F (f k) = bs (fun i => p i && F i (f k)) := bs_and p (fun i => F i (f k))
    simp (disch := omega) only [i10, i01, gO_s, bO_s, lt_e, Sum.elim_inl, Sum.elim_inr, nI_1, nI_add, nle, nlt, neq, neq0, neq1, nlt0, nle0, n0le, n0lt, nlt1, n1le, n7m, pk_mul, l2, l3, l4, l5, l6, l7, l8, l9, l10, l13, l16, l20, l26, l27, l48, l57, l58, l60, l62, l70, l80, l90, l128, l140, l160, l420, l2000, l2001, bI_0, bI_1, bI_zz, bI_t, bI_f, zz_0, zz_1, ↓reduceIte, if_true, if_false, decide_true, decide_false, Bool.false_and, Bool.and_false, Bool.true_and, Bool.and_true, Bool.not_true, Bool.not_false, Bool.true_or, Bool.or_true, Bool.false_or, Bool.or_false, reduceCtorEq, Nat.reduceLeDiff, Nat.reduceEqDiff, Nat.reduceLT, Bool.true_eq_false, Bool.false_eq_true, eq_self, f_X4_choices_L32, h9, q_has, b_T, e, fg1, nc_n g2, nc_t g2, nc_f g2, nc_lt g2, nc_lf g2, nc_st g2, nc_sf g2, nc_k g2, nc_p g2, fg3, fl7, h7, g6, h8, q_ch66 hF' hk ha hf hA]
theorem q_choices (hF : FS s g h n m E F M lb ub bnd ret) (ha : a < n) (hf : ∀ b, b < a → f b < m) (hA : Ask s n E bnd ret a f) (hR : ret = true → x2 = imI f a) : f_X4_choices 252 (nI a) x2 (s, rC g h) = some (bs (chR E F M ret a f), (s, rC g h)) := by
  have hF' := hF
  obtain ⟨⟨g1, g2, ⟨k4, k5, k6⟩, ⟨g4, g5, g6⟩⟩, ⟨h1, h2, h3', h3, h4, h5⟩, ⟨e3, e3'⟩, e4, e5, e6, e7, e8⟩ := hF
  have key := wh_pure (f := f_X4_choices_L32 252 (nI a) x2 (rT E a) (rF E a)) (σ := (s, rC g h)) a (fun k => (bs (fun x => M a x && allN (edg E F f a x) k && (!ret || allN (fun b => decide (f b = b) || !(decide (x = b))) k)), nI k)) (x := bs (fun x => M a x && allN (edg E F f a x) a && (!ret || allN (fun b => decide (f b = b) || !(decide (x = b))) a))) (fun k hk => by
    refine (q_ch32 hF' hk ha hf hA _).trans ?_
    refine congrArg (fun z => some (Sum.inl (z, nI (k + 1)), (s, rC g h))) (bs_congr fun i _ => ?_)
    exact bool_c _ _ _ _ _ _ _) (by
    simp (disch := omega) only [i10, i01, gO_s, bO_s, lt_e, Sum.elim_inl, Sum.elim_inr, nI_1, nI_add, nle, nlt, neq, neq0, neq1, nlt0, nle0, n0le, n0lt, nlt1, n1le, n7m, pk_mul, l2, l3, l4, l5, l6, l7, l8, l9, l10, l13, l16, l20, l26, l27, l48, l57, l58, l60, l62, l70, l80, l90, l128, l140, l160, l420, l2000, l2001, bI_0, bI_1, bI_zz, bI_t, bI_f, zz_0, zz_1, ↓reduceIte, if_true, if_false, decide_true, decide_false, Bool.false_and, Bool.and_false, Bool.true_and, Bool.and_true, Bool.not_true, Bool.not_false, Bool.true_or, Bool.or_true, Bool.false_or, Bool.or_false, reduceCtorEq, Nat.reduceLeDiff, Nat.reduceEqDiff, Nat.reduceLT, Bool.true_eq_false, Bool.false_eq_true, eq_self, f_X4_choices_L32, Nat.le_refl])
  have e0 : (s 256 a, (0 : Int32)) = (bs (fun x => M a x && allN (edg E F f a x) 0 && (!ret || allN (fun b => decide (f b = b) || !(decide (x = b))) 0)), nI 0) := by
    rw [e3 a ha]
    refine congrArg (fun z => (z, nI 0)) (bs_congr fun i _ => ?_)
    show M a i = (M a i && true && (!ret || true))
    cases M a i <;> cases ret <;> rfl
  simp (disch := omega) only [i10, i01, gO_s, bO_s, lt_e, Sum.elim_inl, Sum.elim_inr, nI_1, nI_add, nle, nlt, neq, neq0, neq1, nlt0, nle0, n0le, n0lt, nlt1, n1le, n7m, pk_mul, l2, l3, l4, l5, l6, l7, l8, l9, l10, l13, l16, l20, l26, l27, l48, l57, l58, l60, l62, l70, l80, l90, l128, l140, l160, l420, l2000, l2001, bI_0, bI_1, bI_zz, bI_t, bI_f, zz_0, zz_1, ↓reduceIte, if_true, if_false, decide_true, decide_false, Bool.false_and, Bool.and_false, Bool.true_and, Bool.and_true, Bool.not_true, Bool.not_false, Bool.true_or, Bool.or_true, Bool.false_or, Bool.or_false, reduceCtorEq, Nat.reduceLeDiff, Nat.reduceEqDiff, Nat.reduceLT, Bool.true_eq_false, Bool.false_eq_true, eq_self, f_X4_choices, fg0, fg2, fl6, nc_n g1, nc_t g1, nc_f g1, nc_lt g1, nc_lf g1, nc_st g1, nc_sf g1, nc_k g1, nc_p g1, k5, k6]
  rw [e0]
  refine (bO_e key).trans ?_
  cases hr : ret
  · rw [hr] at e7
    simp (disch := omega) only [i10, i01, gO_s, bO_s, lt_e, Sum.elim_inl, Sum.elim_inr, nI_1, nI_add, nle, nlt, neq, neq0, neq1, nlt0, nle0, n0le, n0lt, nlt1, n1le, n7m, pk_mul, l2, l3, l4, l5, l6, l7, l8, l9, l10, l13, l16, l20, l26, l27, l48, l57, l58, l60, l62, l70, l80, l90, l128, l140, l160, l420, l2000, l2001, bI_0, bI_1, bI_zz, bI_t, bI_f, zz_0, zz_1, ↓reduceIte, if_true, if_false, decide_true, decide_false, Bool.false_and, Bool.and_false, Bool.true_and, Bool.and_true, Bool.not_true, Bool.not_false, Bool.true_or, Bool.or_true, Bool.false_or, Bool.or_false, reduceCtorEq, Nat.reduceLeDiff, Nat.reduceEqDiff, Nat.reduceLT, Bool.true_eq_false, Bool.false_eq_true, eq_self, f_X4_choices_b151, f_X4_choices_b152, fI, e7, bI_f]
    exact congrArg (fun z => some (z, (s, rC g h))) (bs_congr fun i _ => (Bool.and_true _).symm)
  · rw [hr] at e7
    have hx := hR hr
    have hb : bt x2 a = anyN (fun b => decide (f b = a)) a := by rw [hx]; exact b_imI hf (by omega) (by omega)
    cases e9 : anyN (fun b => decide (f b = a)) a
    · rw [e9] at hb
      simp (disch := omega) only [i10, i01, gO_s, bO_s, lt_e, Sum.elim_inl, Sum.elim_inr, nI_1, nI_add, nle, nlt, neq, neq0, neq1, nlt0, nle0, n0le, n0lt, nlt1, n1le, n7m, pk_mul, l2, l3, l4, l5, l6, l7, l8, l9, l10, l13, l16, l20, l26, l27, l48, l57, l58, l60, l62, l70, l80, l90, l128, l140, l160, l420, l2000, l2001, bI_0, bI_1, bI_zz, bI_t, bI_f, zz_0, zz_1, ↓reduceIte, if_true, if_false, decide_true, decide_false, Bool.false_and, Bool.and_false, Bool.true_and, Bool.and_true, Bool.not_true, Bool.not_false, Bool.true_or, Bool.or_true, Bool.false_or, Bool.or_false, reduceCtorEq, Nat.reduceLeDiff, Nat.reduceEqDiff, Nat.reduceLT, Bool.true_eq_false, Bool.false_eq_true, eq_self, f_X4_choices_b151, f_X4_choices_b152, fI, e7, bI_t, i10, q_has, hb]
      refine congrArg (fun z => some (z, (s, rC g h))) (bs_congr fun i _ => ?_)
      unfold chR chB retx
      rw [e9]
      cases M a i <;> cases allN (edg E F f a i) a <;> cases allN (fun b => decide (f b = b) || !(decide (i = b))) a <;> rfl
    · rw [e9] at hb
      simp (disch := omega) only [i10, i01, gO_s, bO_s, lt_e, Sum.elim_inl, Sum.elim_inr, nI_1, nI_add, nle, nlt, neq, neq0, neq1, nlt0, nle0, n0le, n0lt, nlt1, n1le, n7m, pk_mul, l2, l3, l4, l5, l6, l7, l8, l9, l10, l13, l16, l20, l26, l27, l48, l57, l58, l60, l62, l70, l80, l90, l128, l140, l160, l420, l2000, l2001, bI_0, bI_1, bI_zz, bI_t, bI_f, zz_0, zz_1, ↓reduceIte, if_true, if_false, decide_true, decide_false, Bool.false_and, Bool.and_false, Bool.true_and, Bool.and_true, Bool.not_true, Bool.not_false, Bool.true_or, Bool.or_true, Bool.false_or, Bool.or_false, reduceCtorEq, Nat.reduceLeDiff, Nat.reduceEqDiff, Nat.reduceLT, Bool.true_eq_false, Bool.false_eq_true, eq_self, f_X4_choices_b151, f_X4_choices_b152, fI, e7, bI_t, i10, q_has, hb, bs_one, bs_and]
      refine congrArg (fun z => some (z, (s, rC g h))) (bs_congr fun i _ => ?_)
      unfold chR chB retx
      rw [e9]
      cases M a i <;> cases allN (edg E F f a i) a <;> cases allN (fun b => decide (f b = b) || !(decide (i = b))) a <;> rfl
theorem one_lo {x : Nat} (hx : x < 7) : lo 7 ((1 : Int32) <<< (nI x &&& 31)) := lo_one (by omega) (by omega)
theorem q_inBounds (hF : FS s g h n m E F M lb ub bnd ret) {x : Nat} (hx : x < m) (ha : a < n) (hf : ∀ b, b < a → f b < m) (hR : bnd = true → x2 = imI f a) : f_X4_inBounds 252 (nI a) (x2 ||| ((1 : Int32) <<< (nI x &&& 31))) (s, rC g h) = some (bI (!bnd || bndx lb ub n a f x), (s, rC g h)) := by
  obtain ⟨⟨g1, g2, ⟨k4, k5, k6⟩, ⟨g4, g5, g6⟩⟩, ⟨h1, h2, h3', h3, h4, h5⟩, ⟨e3, e3'⟩, e4, e5, e6, e7, e8, e9⟩ := hF
  cases hb : bnd
  · rw [hb] at e6
    simp (disch := omega) only [i10, i01, gO_s, bO_s, lt_e, Sum.elim_inl, Sum.elim_inr, nI_1, nI_add, nle, nlt, neq, neq0, neq1, nlt0, nle0, n0le, n0lt, nlt1, n1le, n7m, pk_mul, l2, l3, l4, l5, l6, l7, l8, l9, l10, l13, l16, l20, l26, l27, l48, l57, l58, l60, l62, l70, l80, l90, l128, l140, l160, l420, l2000, l2001, bI_0, bI_1, bI_zz, bI_t, bI_f, zz_0, zz_1, ↓reduceIte, if_true, if_false, decide_true, decide_false, Bool.false_and, Bool.and_false, Bool.true_and, Bool.and_true, Bool.not_true, Bool.not_false, Bool.true_or, Bool.or_true, Bool.false_or, Bool.or_false, reduceCtorEq, Nat.reduceLeDiff, Nat.reduceEqDiff, Nat.reduceLT, Bool.true_eq_false, Bool.false_eq_true, eq_self, f_X4_inBounds, fI, e6, bI_f]
  · rw [hb] at e6
    rw [hR hb]
    have hlo : lo 7 (imI f a ||| ((1 : Int32) <<< (nI x &&& 31))) := lo_or (lo_imI hf h5) (one_lo (by omega))
    have hc : cI (imI f a ||| ((1 : Int32) <<< (nI x &&& 31))) ≤ 7 := fb_ct_le _ _
    have hbx : bndx lb ub n a f x = (decide (cI (imI f a ||| ((1 : Int32) <<< (nI x &&& 31))) ≤ ub) && decide (lb ≤ cI (imI f a ||| ((1 : Int32) <<< (nI x &&& 31))) + (n - 1 - a))) := rfl
    rw [hbx]
    generalize imI f a ||| ((1 : Int32) <<< (nI x &&& 31)) = y at *
    by_cases c1 : cI y ≤ ub
    · have c1' : ¬ ub < cI y := by omega
      have c3 : nI (cI y + n) - 1 - nI a = nI (cI y + n - 1 - a) := by
        rw [show (1 : Int32) = nI 1 from rfl, pk_sub (by omega), pk_sub (by omega)]
      by_cases c2 : lb ≤ cI y + (n - 1 - a)
      · have c2' : ¬ cI y + n - 1 - a < lb := by omega
        simp (disch := omega) only [i10, i01, gO_s, bO_s, lt_e, Sum.elim_inl, Sum.elim_inr, nI_1, nI_add, nle, nlt, neq, neq0, neq1, nlt0, nle0, n0le, n0lt, nlt1, n1le, n7m, pk_mul, l2, l3, l4, l5, l6, l7, l8, l9, l10, l13, l16, l20, l26, l27, l48, l57, l58, l60, l62, l70, l80, l90, l128, l140, l160, l420, l2000, l2001, bI_0, bI_1, bI_zz, bI_t, bI_f, zz_0, zz_1, ↓reduceIte, if_true, if_false, decide_true, decide_false, Bool.false_and, Bool.and_false, Bool.true_and, Bool.and_true, Bool.not_true, Bool.not_false, Bool.true_or, Bool.or_true, Bool.false_or, Bool.or_false, reduceCtorEq, Nat.reduceLeDiff, Nat.reduceEqDiff, Nat.reduceLT, Bool.true_eq_false, Bool.false_eq_true, eq_self, f_X4_inBounds, f_X4_inBounds_b47, fI, e6, bI_t, i10, s_bc hlo, e5, e4, fg0, nc_n g1, nc_t g1, nc_f g1, nc_lt g1, nc_lf g1, nc_st g1, nc_sf g1, nc_k g1, nc_p g1, k4, c1, c1', c3, c2, c2']
      · have c2' : cI y + n - 1 - a < lb := by omega
        simp (disch := omega) only [i10, i01, gO_s, bO_s, lt_e, Sum.elim_inl, Sum.elim_inr, nI_1, nI_add, nle, nlt, neq, neq0, neq1, nlt0, nle0, n0le, n0lt, nlt1, n1le, n7m, pk_mul, l2, l3, l4, l5, l6, l7, l8, l9, l10, l13, l16, l20, l26, l27, l48, l57, l58, l60, l62, l70, l80, l90, l128, l140, l160, l420, l2000, l2001, bI_0, bI_1, bI_zz, bI_t, bI_f, zz_0, zz_1, ↓reduceIte, if_true, if_false, decide_true, decide_false, Bool.false_and, Bool.and_false, Bool.true_and, Bool.and_true, Bool.not_true, Bool.not_false, Bool.true_or, Bool.or_true, Bool.false_or, Bool.or_false, reduceCtorEq, Nat.reduceLeDiff, Nat.reduceEqDiff, Nat.reduceLT, Bool.true_eq_false, Bool.false_eq_true, eq_self, f_X4_inBounds, f_X4_inBounds_b46, f_X4_inBounds_b47, fI, e6, bI_t, i10, s_bc hlo, e5, e4, fg0, nc_n g1, nc_t g1, nc_f g1, nc_lt g1, nc_lf g1, nc_st g1, nc_sf g1, nc_k g1, nc_p g1, k4, c1, c1', c3, c2, c2']
    · have c1' : ub < cI y := by omega
      simp (disch := omega) only [i10, i01, gO_s, bO_s, lt_e, Sum.elim_inl, Sum.elim_inr, nI_1, nI_add, nle, nlt, neq, neq0, neq1, nlt0, nle0, n0le, n0lt, nlt1, n1le, n7m, pk_mul, l2, l3, l4, l5, l6, l7, l8, l9, l10, l13, l16, l20, l26, l27, l48, l57, l58, l60, l62, l70, l80, l90, l128, l140, l160, l420, l2000, l2001, bI_0, bI_1, bI_zz, bI_t, bI_f, zz_0, zz_1, ↓reduceIte, if_true, if_false, decide_true, decide_false, Bool.false_and, Bool.and_false, Bool.true_and, Bool.and_true, Bool.not_true, Bool.not_false, Bool.true_or, Bool.or_true, Bool.false_or, Bool.or_false, reduceCtorEq, Nat.reduceLeDiff, Nat.reduceEqDiff, Nat.reduceLT, Bool.true_eq_false, Bool.false_eq_true, eq_self, f_X4_inBounds, f_X4_inBounds_b46, f_X4_inBounds_b47, fI, e6, bI_t, i10, s_bc hlo, e5, c1, c1']
def una (n : Nat) (E : Nat → Nat → Bool) (bnd ret : Bool) (a : Nat) : Bool := !bnd && (!ret && allN (fun c => !(decide (a < c)) || (!(E a c) && !(E c a))) n)
theorem una_b (hS : Sup n E) (hn : n ≤ 27) (ha : a < n) : (((rT E a ||| rF E a) >>> (nI a &&& 31)) >>> ((1 : Int32) &&& 31) = 0) ↔ allN (fun c => !(decide (a < c)) || (!(E a c) && !(E c a))) n = true := by
  have hz : ∀ j, j < 32 → bt (rT E a ||| rF E a) j = (E a j || E j a) := fun j hj => by rw [b_or, b_T E a hj, b_F E a hj]
  have h31 : bt (rT E a ||| rF E a) 31 = false := by rw [hz 31 (by omega), Sup_f hS (Or.inr (by omega)), Sup_f hS (Or.inl (by omega))]; rfl
  have hy : ∀ j, j < 32 → bt ((rT E a ||| rF E a) >>> (nI a &&& 31)) j = if a + j < 32 then (E a (a + j) || E (a + j) a) else false := fun j hj => by
    rw [b_sshr a (by omega) _ hj, h31]
    split
    · rw [hz _ (by omega)]
    · rfl
  have hw : ∀ j, j < 32 → bt (((rT E a ||| rF E a) >>> (nI a &&& 31)) >>> ((1 : Int32) &&& 31)) j = if 1 + j < 32 then (if a + (1 + j) < 32 then (E a (a + (1 + j)) || E (a + (1 + j)) a) else false) else (if a + 31 < 32 then (E a (a + 31) || E (a + 31) a) else false) := fun j hj => by
    rw [show (1 : Int32) = nI 1 from rfl, b_sshr 1 (by omega) _ hj]
    split
    · rw [hy _ (by omega)]
    · rw [hy _ (by omega)]
  rw [b_z, allN_t]
  constructor
  · intro h c hc
    by_cases e : a < c
    · have h1 := h (c - a - 1) (by omega)
      rw [hw _ (by omega), if_pos (by omega), if_pos (by omega), show a + (1 + (c - a - 1)) = c by omega] at h1
      rw [Bool.or_eq_false_iff] at h1
      simp only [h1.1, h1.2]
      cases decide (a < c) <;> rfl
    · simp only [decide_eq_false e]; rfl
  · intro h j hj
    have h1 : ∀ c, a < c → (E a c || E c a) = false := by
      intro c hc
      by_cases e : c < n
      · have h2 := h c e
        simp only [decide_eq_true hc] at h2
        cases e1 : E a c <;> cases e2 : E c a <;> simp_all
      · rw [Sup_f hS (Or.inr (by omega)), Sup_f hS (Or.inl (by omega))]; rfl
    rw [hw j hj]
    split
    · split
      · exact h1 _ (by omega)
      · rfl
    · split
      · exact h1 _ (by omega)
      · rfl
theorem q_una (hF : FS s g h n m E F M lb ub bnd ret) (ha : a < n) : f_X4_isUnasked 252 (nI a) (s, rC g h) = some (bI (una n E bnd ret a), (s, rC g h)) := by
  obtain ⟨⟨g1, g2, ⟨k4, k5, k6⟩, ⟨g4, g5, g6⟩⟩, ⟨h1, h2, h3', h3, h4, h5⟩, ⟨e3, e3'⟩, e4, e5, e6, e7, e8, e9⟩ := hF
  unfold una
  cases hb : bnd
  · rw [hb] at e6
    cases hr : ret
    · rw [hr] at e7
      have hu := una_b h1 h3 ha
      cases hz : allN (fun c => !(decide (a < c)) || (!(E a c) && !(E c a))) n
      · rw [hz] at hu
        have hu2 : ¬ ((rT E a ||| rF E a) >>> (nI a &&& 31)) >>> ((1 : Int32) &&& 31) = 0 := fun h => by have := hu.mp h; cases this
        simp (disch := omega) only [i10, i01, gO_s, bO_s, lt_e, Sum.elim_inl, Sum.elim_inr, nI_1, nI_add, nle, nlt, neq, neq0, neq1, nlt0, nle0, n0le, n0lt, nlt1, n1le, n7m, pk_mul, l2, l3, l4, l5, l6, l7, l8, l9, l10, l13, l16, l20, l26, l27, l48, l57, l58, l60, l62, l70, l80, l90, l128, l140, l160, l420, l2000, l2001, bI_0, bI_1, bI_zz, bI_t, bI_f, zz_0, zz_1, ↓reduceIte, if_true, if_false, decide_true, decide_false, Bool.false_and, Bool.and_false, Bool.true_and, Bool.and_true, Bool.not_true, Bool.not_false, Bool.true_or, Bool.or_true, Bool.false_or, Bool.or_false, reduceCtorEq, Nat.reduceLeDiff, Nat.reduceEqDiff, Nat.reduceLT, Bool.true_eq_false, Bool.false_eq_true, eq_self, f_X4_isUnasked, f_X4_isUnasked_b44, f_X4_isUnasked_b45, fI, e6, e7, bI_f, fg0, nc_n g1, nc_t g1, nc_f g1, nc_lt g1, nc_lf g1, nc_st g1, nc_sf g1, nc_k g1, nc_p g1, k5, k6, hu2]
      · rw [hz] at hu
        have hu2 : ((rT E a ||| rF E a) >>> (nI a &&& 31)) >>> ((1 : Int32) &&& 31) = 0 := hu.mpr rfl
        simp (disch := omega) only [i10, i01, gO_s, bO_s, lt_e, Sum.elim_inl, Sum.elim_inr, nI_1, nI_add, nle, nlt, neq, neq0, neq1, nlt0, nle0, n0le, n0lt, nlt1, n1le, n7m, pk_mul, l2, l3, l4, l5, l6, l7, l8, l9, l10, l13, l16, l20, l26, l27, l48, l57, l58, l60, l62, l70, l80, l90, l128, l140, l160, l420, l2000, l2001, bI_0, bI_1, bI_zz, bI_t, bI_f, zz_0, zz_1, ↓reduceIte, if_true, if_false, decide_true, decide_false, Bool.false_and, Bool.and_false, Bool.true_and, Bool.and_true, Bool.not_true, Bool.not_false, Bool.true_or, Bool.or_true, Bool.false_or, Bool.or_false, reduceCtorEq, Nat.reduceLeDiff, Nat.reduceEqDiff, Nat.reduceLT, Bool.true_eq_false, Bool.false_eq_true, eq_self, f_X4_isUnasked, f_X4_isUnasked_b44, f_X4_isUnasked_b45, fI, e6, e7, bI_f, fg0, nc_n g1, nc_t g1, nc_f g1, nc_lt g1, nc_lf g1, nc_st g1, nc_sf g1, nc_k g1, nc_p g1, k5, k6, hu2]
    · rw [hr] at e7
      simp (disch := omega) only [i10, i01, gO_s, bO_s, lt_e, Sum.elim_inl, Sum.elim_inr, nI_1, nI_add, nle, nlt, neq, neq0, neq1, nlt0, nle0, n0le, n0lt, nlt1, n1le, n7m, pk_mul, l2, l3, l4, l5, l6, l7, l8, l9, l10, l13, l16, l20, l26, l27, l48, l57, l58, l60, l62, l70, l80, l90, l128, l140, l160, l420, l2000, l2001, bI_0, bI_1, bI_zz, bI_t, bI_f, zz_0, zz_1, ↓reduceIte, if_true, if_false, decide_true, decide_false, Bool.false_and, Bool.and_false, Bool.true_and, Bool.and_true, Bool.not_true, Bool.not_false, Bool.true_or, Bool.or_true, Bool.false_or, Bool.or_false, reduceCtorEq, Nat.reduceLeDiff, Nat.reduceEqDiff, Nat.reduceLT, Bool.true_eq_false, Bool.false_eq_true, eq_self, f_X4_isUnasked, f_X4_isUnasked_b44, f_X4_isUnasked_b45, fI, e6, e7, bI_f, bI_t, i10]
  · rw [hb] at e6
    simp (disch := omega) only [i10, i01, gO_s, bO_s, lt_e, Sum.elim_inl, Sum.elim_inr, nI_1, nI_add, nle, nlt, neq, neq0, neq1, nlt0, nle0, n0le, n0lt, nlt1, n1le, n7m, pk_mul, l2, l3, l4, l5, l6, l7, l8, l9, l10, l13, l16, l20, l26, l27, l48, l57, l58, l60, l62, l70, l80, l90, l128, l140, l160, l420, l2000, l2001, bI_0, bI_1, bI_zz, bI_t, bI_f, zz_0, zz_1, ↓reduceIte, if_true, if_false, decide_true, decide_false, Bool.false_and, Bool.and_false, Bool.true_and, Bool.and_true, Bool.not_true, Bool.not_false, Bool.true_or, Bool.or_true, Bool.false_or, Bool.or_false, reduceCtorEq, Nat.reduceLeDiff, Nat.reduceEqDiff, Nat.reduceLT, Bool.true_eq_false, Bool.false_eq_true, eq_self, f_X4_isUnasked, f_X4_isUnasked_b44, f_X4_isUnasked_b45, fI, e6, bI_t, i10]
end CHO
end FIND
