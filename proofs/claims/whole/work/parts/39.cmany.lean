/-! the seeker: how many, the first, the k-th, the number of one -/
theorem TX_s (g : Nat → Nat × Bool) (ch : Nat → Bool) (x : Nat) : TX g ch (x + 1) = if (TX g ch x).2 = true then TX g ch x else if ch x = true then ((TX g ch x).1 + 1 + (g x).1, (g x).2) else TX g ch x := rfl
section MANY
variable {s t s' : Nat → Nat → Int32} {g h n m lb ub : Nat} {E F M : Nat → Nat → Bool} {bnd ret : Bool}
theorem Ask_fr {a : Nat} {f : Nat → Nat} (hA : Ask s n E bnd ret a f) (hf : FrS a s s') : Ask s' n E bnd ret a f := fun b hb h => (hf.2.2 b hb).trans (hA b hb h)
theorem Ask_up {a x : Nat} {f : Nat → Nat} (hA : Ask s n E bnd ret a f) : Ask (st2 s 257 a (nI x)) n E bnd ret (a + 1) (up f a x) := by
  intro b hb h
  by_cases e : b = a
  · rw [e, up_at, st2_s]
  · rw [st2_n _ _ e, up_lt (by omega)]
    refine hA b (by omega) ?_
    rcases h with h | h | ⟨c, h1, h2, h3⟩
    · exact Or.inl h
    · exact Or.inr (Or.inl h)
    · exact Or.inr (Or.inr ⟨c, by omega, h2, h3⟩)
theorem chR_m (hF : FS s g h n m E F M lb ub bnd ret) {a x : Nat} {f : Nat → Nat} (ha : a < n) (h : chR E F M ret a f x = true) : x < m := by
  obtain ⟨_, _, ⟨_, e3⟩, _⟩ := hF
  unfold chR chB at h
  simp only [Bool.and_eq_true] at h
  exact e3 a x ha h.1.1
theorem chC_m (hF : FS s g h n m E F M lb ub bnd ret) {a x : Nat} {f : Nat → Nat} (ha : a < n) (h : chC E F M lb ub n bnd ret a f x = true) : x < m := by
  rw [chC_R, Bool.and_eq_true] at h
  exact chR_m hF ha h.1
theorem up_m {a x m : Nat} {f : Nat → Nat} (hf : ∀ b, b < a → f b < m) (hx : x < m) : ∀ b, b < a + 1 → up f a x b < m := by
  intro b hb
  by_cases e : b = a
  · rw [e, up_at]; exact hx
  · rw [up_lt (by omega)]; exact hf b (by omega)
theorem imI_up {a x : Nat} {f : Nat → Nat} : imI (up f a x) (a + 1) = imI f a ||| ((1 : Int32) <<< (nI x &&& 31)) := by
  rw [imI_s, up_at, imI_c (g := f) (fun b hb => up_lt hb)]
theorem cI_bs (p : Nat → Bool) : cI (bs p) = fb_ct p 7 := fb_ct_cong fun k hk => bt_bs p (by omega)
theorem q_many (hn : n ≤ 27) : ∀ (k a : Nat), a + k = n → ∀ (N : Nat), k < N → ∀ (s : Nat → Nat → Int32) (f : Nat → Nat) (x2 : Int32), FS s g h n m E F M lb ub bnd ret → (∀ b, b < a → f b < m) → Ask s n E bnd ret a f → ((bnd = true ∨ ret = true) → x2 = imI f a) → ∃ s', f_X4_manyFrom N 252 (nI a) x2 (s, rC g h) = some (nI (LL (chC E F M lb ub n bnd ret) m k a f).length, (s', rC g h)) ∧ FrS a s s' := by
  intro k
  induction k with
  | zero =>
    intro a hak N hN s f x2 hF hf hA hR
    obtain ⟨N, rfl⟩ : ∃ j, N = j + 1 := ⟨N - 1, by omega⟩
    obtain ⟨⟨g1, g2, ⟨k4, k5, k6⟩, ⟨g4, g5, g6⟩⟩, _⟩ := hF
    have e : ¬ a < n := by omega
    refine ⟨s, ?_, FrS_r _⟩
    show f_X4_manyFrom_body (f_X4_manyFrom N) 252 (nI a) x2 (s, rC g h) = _
    simp (disch := omega) only [i10, i01, gO_s, bO_s, lt_e, Sum.elim_inl, Sum.elim_inr, nI_1, nI_add, nle, nlt, neq, neq0, neq1, nlt0, nle0, n0le, n0lt, nlt1, n1le, n7m, pk_mul, l2, l3, l4, l5, l6, l7, l8, l9, l10, l13, l16, l20, l26, l27, l48, l57, l58, l60, l62, l70, l80, l90, l128, l140, l160, l420, l2000, l2001, bI_0, bI_1, bI_zz, bI_t, bI_f, zz_0, zz_1, ↓reduceIte, if_true, if_false, decide_true, decide_false, Bool.false_and, Bool.and_false, Bool.true_and, Bool.and_true, Bool.not_true, Bool.not_false, Bool.true_or, Bool.or_true, Bool.false_or, Bool.or_false, reduceCtorEq, Nat.reduceLeDiff, Nat.reduceEqDiff, Nat.reduceLT, Bool.true_eq_false, Bool.false_eq_true, eq_self, f_X4_manyFrom_body, fg0, nc_n g1, nc_t g1, nc_f g1, nc_lt g1, nc_lf g1, nc_st g1, nc_sf g1, nc_k g1, nc_p g1, k4, e]
    rfl
  | succ k ih =>
    intro a hak N hN s f x2 hF hf hA hR
    obtain ⟨N, rfl⟩ : ∃ j, N = j + 1 := ⟨N - 1, by omega⟩
    have hF' := hF
    obtain ⟨⟨g1, g2, ⟨k4, k5, k6⟩, ⟨g4, g5, g6⟩⟩, ⟨h1, h2, h3', h3, h4, h5⟩, _⟩ := hF
    have ha : a < n := by omega
    have hc := q_choices hF' ha hf hA (fun hr => hR (Or.inr hr))
    have hu := q_una hF' ha
    cases eu : una n E bnd ret a
    · rw [eu, bI_f] at hu
      have key := wh_up (f := f_X4_manyFrom_L56 (f_X4_manyFrom N) 252 (nI a) x2 (bs (chR E F M ret a f))) m (fun x v σ => v = (nI (LX (chC E F M lb ub n bnd ret) m k a f x).length, nI x) ∧ ∃ s1, σ = (s1, rC g h) ∧ FrS a s s1) (Q := fun y σ => y = nI (LL (chC E F M lb ub n bnd ret) m (k + 1) a f).length ∧ ∃ s1, σ = (s1, rC g h) ∧ FrS a s s1) (by
        rintro x v σ hx ⟨rfl, s1, rfl, hf1⟩
        have hx3 : ¬ m ≤ x := by omega
        have hF1 := FrS_FS hf1 hF'
        obtain ⟨⟨j1, j2, ⟨i4, i5, i6⟩, ⟨j4, j5, j6⟩⟩, _⟩ := hF1
        have hF1 := FrS_FS hf1 hF'
        have hib := q_inBounds (a := a) (f := f) (x2 := x2) hF1 hx ha hf (fun hb => hR (Or.inl hb))
        cases e1 : chR E F M ret a f x
        · have e2 : chC E F M lb ub n bnd ret a f x = false := by rw [chC_R, e1]; rfl
          refine ⟨.inl (nI (LX (chC E F M lb ub n bnd ret) m k a f (x + 1)).length, nI (x + 1)), (s1, rC g h), ?_, rfl, s1, rfl, hf1⟩
          rw [LX_f e2]
          simp (disch := omega) only [i10, i01, gO_s, bO_s, lt_e, Sum.elim_inl, Sum.elim_inr, nI_1, nI_add, nle, nlt, neq, neq0, neq1, nlt0, nle0, n0le, n0lt, nlt1, n1le, n7m, pk_mul, l2, l3, l4, l5, l6, l7, l8, l9, l10, l13, l16, l20, l26, l27, l48, l57, l58, l60, l62, l70, l80, l90, l128, l140, l160, l420, l2000, l2001, bI_0, bI_1, bI_zz, bI_t, bI_f, zz_0, zz_1, ↓reduceIte, if_true, if_false, decide_true, decide_false, Bool.false_and, Bool.and_false, Bool.true_and, Bool.and_true, Bool.not_true, Bool.not_false, Bool.true_or, Bool.or_true, Bool.false_or, Bool.or_false, reduceCtorEq, Nat.reduceLeDiff, Nat.reduceEqDiff, Nat.reduceLT, Bool.true_eq_false, Bool.false_eq_true, eq_self, f_X4_manyFrom_L56, f_X4_manyFrom_b117, fg1, nc_n g2, nc_t g2, nc_f g2, nc_lt g2, nc_lf g2, nc_st g2, nc_sf g2, nc_k g2, nc_p g2, j4, hx3, q_has, bt_bs, e1]
        · cases e3 : (!bnd || bndx lb ub n a f x)
          · have e2 : chC E F M lb ub n bnd ret a f x = false := by rw [chC_R, e1, e3]; rfl
            rw [e3] at hib
            refine ⟨.inl (nI (LX (chC E F M lb ub n bnd ret) m k a f (x + 1)).length, nI (x + 1)), (s1, rC g h), ?_, rfl, s1, rfl, hf1⟩
            rw [LX_f e2]
            simp (disch := omega) only [i10, i01, gO_s, bO_s, lt_e, Sum.elim_inl, Sum.elim_inr, nI_1, nI_add, nle, nlt, neq, neq0, neq1, nlt0, nle0, n0le, n0lt, nlt1, n1le, n7m, pk_mul, l2, l3, l4, l5, l6, l7, l8, l9, l10, l13, l16, l20, l26, l27, l48, l57, l58, l60, l62, l70, l80, l90, l128, l140, l160, l420, l2000, l2001, bI_0, bI_1, bI_zz, bI_t, bI_f, zz_0, zz_1, ↓reduceIte, if_true, if_false, decide_true, decide_false, Bool.false_and, Bool.and_false, Bool.true_and, Bool.and_true, Bool.not_true, Bool.not_false, Bool.true_or, Bool.or_true, Bool.false_or, Bool.or_false, reduceCtorEq, Nat.reduceLeDiff, Nat.reduceEqDiff, Nat.reduceLT, Bool.true_eq_false, Bool.false_eq_true, eq_self, f_X4_manyFrom_L56, f_X4_manyFrom_b117, fg1, nc_n g2, nc_t g2, nc_f g2, nc_lt g2, nc_lf g2, nc_st g2, nc_sf g2, nc_k g2, nc_p g2, j4, hx3, q_has, bt_bs, e1, fK, hib]
          · have e2 : chC E F M lb ub n bnd ret a f x = true := by rw [chC_R, e1, e3]; rfl
            rw [e3] at hib
            have hf2 : FrS a s1 (st2 s1 257 a (nI x)) := FrS_7 (Nat.le_refl a)
            obtain ⟨s2, r1, r2⟩ := ih (a + 1) (by omega) N (by omega) (st2 s1 257 a (nI x)) (up f a x) (x2 ||| ((1 : Int32) <<< (nI x &&& 31))) (FrS_FS hf2 hF1) (up_m hf hx) (Ask_up (Ask_fr hA hf1)) (fun hb => by rw [imI_up, hR hb])
            refine ⟨.inl (nI (LX (chC E F M lb ub n bnd ret) m k a f (x + 1)).length, nI (x + 1)), (s2, rC g h), ?_, rfl, s2, rfl, FrS_t hf1 (FrS_t hf2 (FrS_w r2 (by omega)))⟩
            rw [LX_t e2, List.length_append]
            simp (disch := omega) only [i10, i01, gO_s, bO_s, lt_e, Sum.elim_inl, Sum.elim_inr, nI_1, nI_add, nle, nlt, neq, neq0, neq1, nlt0, nle0, n0le, n0lt, nlt1, n1le, n7m, pk_mul, l2, l3, l4, l5, l6, l7, l8, l9, l10, l13, l16, l20, l26, l27, l48, l57, l58, l60, l62, l70, l80, l90, l128, l140, l160, l420, l2000, l2001, bI_0, bI_1, bI_zz, bI_t, bI_f, zz_0, zz_1, ↓reduceIte, if_true, if_false, decide_true, decide_false, Bool.false_and, Bool.and_false, Bool.true_and, Bool.and_true, Bool.not_true, Bool.not_false, Bool.true_or, Bool.or_true, Bool.false_or, Bool.or_false, reduceCtorEq, Nat.reduceLeDiff, Nat.reduceEqDiff, Nat.reduceLT, Bool.true_eq_false, Bool.false_eq_true, eq_self, f_X4_manyFrom_L56, f_X4_manyFrom_b117, fg1, nc_n g2, nc_t g2, nc_f g2, nc_lt g2, nc_lf g2, nc_st g2, nc_sf g2, nc_k g2, nc_p g2, j4, hx3, q_has, bt_bs, e1, fK, hib, fg3, fs7, r1]) (by
        rintro v σ ⟨rfl, s1, rfl, hf1⟩
        have hF1 := FrS_FS hf1 hF'
        obtain ⟨⟨j1, j2, ⟨i4, i5, i6⟩, ⟨j4, j5, j6⟩⟩, _⟩ := hF1
        refine ⟨_, (s1, rC g h), ?_, rfl, s1, rfl, hf1⟩
        simp (disch := omega) only [i10, i01, gO_s, bO_s, lt_e, Sum.elim_inl, Sum.elim_inr, nI_1, nI_add, nle, nlt, neq, neq0, neq1, nlt0, nle0, n0le, n0lt, nlt1, n1le, n7m, pk_mul, l2, l3, l4, l5, l6, l7, l8, l9, l10, l13, l16, l20, l26, l27, l48, l57, l58, l60, l62, l70, l80, l90, l128, l140, l160, l420, l2000, l2001, bI_0, bI_1, bI_zz, bI_t, bI_f, zz_0, zz_1, ↓reduceIte, if_true, if_false, decide_true, decide_false, Bool.false_and, Bool.and_false, Bool.true_and, Bool.and_true, Bool.not_true, Bool.not_false, Bool.true_or, Bool.or_true, Bool.false_or, Bool.or_false, reduceCtorEq, Nat.reduceLeDiff, Nat.reduceEqDiff, Nat.reduceLT, Bool.true_eq_false, Bool.false_eq_true, eq_self, f_X4_manyFrom_L56, fg1, nc_n g2, nc_t g2, nc_f g2, nc_lt g2, nc_lf g2, nc_st g2, nc_sf g2, nc_k g2, nc_p g2, j4, Nat.le_refl]
        rfl) (k := 0) (v := (0, 0)) (σ := (s, rC g h)) (by omega) ⟨rfl, s, rfl, FrS_r _⟩
      obtain ⟨y, σ', r1, rfl, s1, rfl, hf1⟩ := key
      refine ⟨s1, ?_, hf1⟩
      show f_X4_manyFrom_body (f_X4_manyFrom N) 252 (nI a) x2 (s, rC g h) = _
      simp (disch := omega) only [i10, i01, gO_s, bO_s, lt_e, Sum.elim_inl, Sum.elim_inr, nI_1, nI_add, nle, nlt, neq, neq0, neq1, nlt0, nle0, n0le, n0lt, nlt1, n1le, n7m, pk_mul, l2, l3, l4, l5, l6, l7, l8, l9, l10, l13, l16, l20, l26, l27, l48, l57, l58, l60, l62, l70, l80, l90, l128, l140, l160, l420, l2000, l2001, bI_0, bI_1, bI_zz, bI_t, bI_f, zz_0, zz_1, ↓reduceIte, if_true, if_false, decide_true, decide_false, Bool.false_and, Bool.and_false, Bool.true_and, Bool.and_true, Bool.not_true, Bool.not_false, Bool.true_or, Bool.or_true, Bool.false_or, Bool.or_false, reduceCtorEq, Nat.reduceLeDiff, Nat.reduceEqDiff, Nat.reduceLT, Bool.true_eq_false, Bool.false_eq_true, eq_self, f_X4_manyFrom_body, fg0, nc_n g1, nc_t g1, nc_f g1, nc_lt g1, nc_lf g1, nc_st g1, nc_sf g1, nc_k g1, nc_p g1, k4, ha, fK, hc, hu]
      exact (bO_e r1).trans rfl
    · rw [eu, bI_t] at hu
      unfold una at eu
      rw [Bool.and_eq_true, Bool.and_eq_true, Bool.not_eq_true', Bool.not_eq_true', allN_t] at eu
      obtain ⟨eb, er, ec⟩ := eu
      have hch : chC E F M lb ub n bnd ret = chB E F M := by
        funext a f x
        unfold chC cC
        rw [eb, er]
        show (chB E F M a f x && true) = _
        rw [Bool.and_true]
      have hcr : chR E F M ret a f = chB E F M a f := by
        funext x
        unfold chR
        rw [er]
        show (chB E F M a f x && true) = _
        rw [Bool.and_true]
      have hz : ∀ c, a < c → c < n → E a c = false ∧ E c a = false := by
        intro c h1 h2
        have := ec c h2
        rw [decide_eq_true h1] at this
        cases e1 : E a c <;> cases e2 : E c a <;> simp_all
      have hflat : ∀ x, chB E F M a f x = true → (LL (chB E F M) m k (a + 1) (up f a x)).length = (LL (chB E F M) m k (a + 1) (up f a 0)).length := by
        intro x _
        apply LL_ask
        rintro b hb ⟨c, c1, c2, c3⟩
        by_cases e : b = a
        · subst e
          have := hz c (by omega) (by omega)
          rw [this.1, this.2] at c3
          rcases c3 with c3 | c3 <;> cases c3
        · rw [up_lt (by omega), up_lt (by omega)]
      have hlen : (LL (chC E F M lb ub n bnd ret) m (k + 1) a f).length = cI (bs (chR E F M ret a f)) * (LL (chB E F M) m k (a + 1) (up f a 0)).length := by
        rw [hch, LL_s, LX_flat hflat m, hcr, cI_bs]
        congr 1
        have e7 : (7 : Nat) = m + (7 - m) := by omega
        rw [e7, fb_ct_split]
        have : fb_ct (fun j => chB E F M a f (m + j)) (7 - m) = 0 := fb_ct_zero.mpr fun j _ => by
          cases e : chB E F M a f (m + j)
          · rfl
          · have := chR_m hF' ha (by rw [hcr]; exact e)
            omega
        omega
      have hlo : lo 7 (bs (chR E F M ret a f)) := fun i h1 h2 => by
        rw [bt_bs _ h2]
        cases e : chR E F M ret a f i
        · rfl
        · have := chR_m hF' ha e
          omega
      by_cases e0 : bs (chR E F M ret a f) = 0
      · refine ⟨s, ?_, FrS_r _⟩
        show f_X4_manyFrom_body (f_X4_manyFrom N) 252 (nI a) x2 (s, rC g h) = _
        rw [hlen, e0]
        rw [e0] at hc
        simp (disch := omega) only [i10, i01, gO_s, bO_s, lt_e, Sum.elim_inl, Sum.elim_inr, nI_1, nI_add, nle, nlt, neq, neq0, neq1, nlt0, nle0, n0le, n0lt, nlt1, n1le, n7m, pk_mul, l2, l3, l4, l5, l6, l7, l8, l9, l10, l13, l16, l20, l26, l27, l48, l57, l58, l60, l62, l70, l80, l90, l128, l140, l160, l420, l2000, l2001, bI_0, bI_1, bI_zz, bI_t, bI_f, zz_0, zz_1, ↓reduceIte, if_true, if_false, decide_true, decide_false, Bool.false_and, Bool.and_false, Bool.true_and, Bool.and_true, Bool.not_true, Bool.not_false, Bool.true_or, Bool.or_true, Bool.false_or, Bool.or_false, reduceCtorEq, Nat.reduceLeDiff, Nat.reduceEqDiff, Nat.reduceLT, Bool.true_eq_false, Bool.false_eq_true, eq_self, f_X4_manyFrom_body, f_X4_manyFrom_b49, fg0, nc_n g1, nc_t g1, nc_f g1, nc_lt g1, nc_lf g1, nc_st g1, nc_sf g1, nc_k g1, nc_p g1, k4, ha, fK, hc, hu]
        have : cI 0 = 0 := by decide +kernel
        rw [this, Nat.zero_mul]
        rfl
      · have hA2 : Ask s n E bnd ret (a + 1) (up f a 0) := by
          rintro b hb (hh | hh | ⟨c, c1, c2, c3⟩)
          · rw [eb] at hh; cases hh
          · rw [er] at hh; cases hh
          · by_cases e : b = a
            · subst e
              have := hz c (by omega) (by omega)
              rw [this.1, this.2] at c3
              rcases c3 with c3 | c3 <;> cases c3
            · rw [up_lt (by omega)]
              exact hA b (by omega) (Or.inr (Or.inr ⟨c, by omega, c2, c3⟩))
        obtain ⟨s2, r1, r2⟩ := ih (a + 1) (by omega) N (by omega) s (up f a 0) x2 hF' (up_m hf (by omega)) hA2 (fun hb => by
          rw [eb, er] at hb
          rcases hb with hb | hb <;> cases hb)
        refine ⟨s2, ?_, FrS_w r2 (by omega)⟩
        show f_X4_manyFrom_body (f_X4_manyFrom N) 252 (nI a) x2 (s, rC g h) = _
        rw [hlen]
        rw [hch] at r1
        simp (disch := omega) only [i10, i01, gO_s, bO_s, lt_e, Sum.elim_inl, Sum.elim_inr, nI_1, nI_add, nle, nlt, neq, neq0, neq1, nlt0, nle0, n0le, n0lt, nlt1, n1le, n7m, pk_mul, l2, l3, l4, l5, l6, l7, l8, l9, l10, l13, l16, l20, l26, l27, l48, l57, l58, l60, l62, l70, l80, l90, l128, l140, l160, l420, l2000, l2001, bI_0, bI_1, bI_zz, bI_t, bI_f, zz_0, zz_1, ↓reduceIte, if_true, if_false, decide_true, decide_false, Bool.false_and, Bool.and_false, Bool.true_and, Bool.and_true, Bool.not_true, Bool.not_false, Bool.true_or, Bool.or_true, Bool.false_or, Bool.or_false, reduceCtorEq, Nat.reduceLeDiff, Nat.reduceEqDiff, Nat.reduceLT, Bool.true_eq_false, Bool.false_eq_true, eq_self, f_X4_manyFrom_body, f_X4_manyFrom_b49, fg0, nc_n g1, nc_t g1, nc_f g1, nc_lt g1, nc_lf g1, nc_st g1, nc_sf g1, nc_k g1, nc_p g1, k4, ha, fK, hc, hu, e0, s_bc hlo, r1]
/-- all maps, by what the seeker is set to -/
def Ms (E F M : Nat → Nat → Bool) (n m lb ub : Nat) (bnd ret : Bool) : List (Nat → Nat) := LL (chC E F M lb ub n bnd ret) m n 0 f00
theorem q_howMany (hF : FS s g h n m E F M lb ub bnd ret) : ∃ s', f_X4_howMany 252 (s, rC g h) = some (nI (Ms E F M n m lb ub bnd ret).length, (s', rC g h)) ∧ FrS 0 s s' := by
  have hn : n ≤ 27 := hF.2.1.2.2.2.1
  obtain ⟨s1, r1, r2⟩ := q_many hn n 0 (by omega) 30 (by omega) s f00 0 hF (fun b hb => by omega) (fun b hb => by omega) (fun _ => rfl)
  refine ⟨s1, ?_, r2⟩
  unfold f_X4_howMany
  exact (bO_e r1).trans rfl
theorem imI_0 (f : Nat → Nat) : imI f 0 = 0 := rfl
/-- the first one, with the tries it took -/
theorem q_findsFrom (hn : n ≤ 27) : ∀ (k a : Nat), a + k = n → ∀ (N : Nat), k < N → ∀ (s : Nat → Nat → Int32) (f : Nat → Nat), FS s g h n m E F M lb ub bnd ret → Can a f → (∀ b, b < a → f b < m) → (∀ b, b < a → s 257 b = nI (f b)) → ∃ s', f_X4_findsFrom N 252 (nI a) (imI f a) (s, rC g h) = some (bI (!(LL (chC E F M lb ub n bnd ret) m k a f).isEmpty), (s', rC g h)) ∧ FrS a s s' ∧ s' 252 4 = s 252 4 + nI (TR (chC E F M lb ub n bnd ret) m k a f).1 ∧ (∀ y l, LL (chC E F M lb ub n bnd ret) m k a f = y :: l → ∀ b, b < n → s' 257 b = nI (y b)) := by
  intro k
  induction k with
  | zero =>
    intro a hak N hN s f hF hc0 hf hA
    obtain ⟨N, rfl⟩ : ∃ j, N = j + 1 := ⟨N - 1, by omega⟩
    obtain ⟨⟨g1, g2, ⟨k4, k5, k6⟩, ⟨g4, g5, g6⟩⟩, _⟩ := hF
    have e : ¬ a < n := by omega
    refine ⟨s, ?_, FrS_r _, ?_, ?_⟩
    · show f_X4_findsFrom_body (f_X4_findsFrom N) 252 (nI a) (imI f a) (s, rC g h) = _
      simp (disch := omega) only [i10, i01, gO_s, bO_s, lt_e, Sum.elim_inl, Sum.elim_inr, nI_1, nI_add, nle, nlt, neq, neq0, neq1, nlt0, nle0, n0le, n0lt, nlt1, n1le, n7m, pk_mul, l2, l3, l4, l5, l6, l7, l8, l9, l10, l13, l16, l20, l26, l27, l48, l57, l58, l60, l62, l70, l80, l90, l128, l140, l160, l420, l2000, l2001, bI_0, bI_1, bI_zz, bI_t, bI_f, zz_0, zz_1, ↓reduceIte, if_true, if_false, decide_true, decide_false, Bool.false_and, Bool.and_false, Bool.true_and, Bool.and_true, Bool.not_true, Bool.not_false, Bool.true_or, Bool.or_true, Bool.false_or, Bool.or_false, reduceCtorEq, Nat.reduceLeDiff, Nat.reduceEqDiff, Nat.reduceLT, Bool.true_eq_false, Bool.false_eq_true, eq_self, f_X4_findsFrom_body, fg0, nc_n g1, nc_t g1, nc_f g1, nc_lt g1, nc_lf g1, nc_st g1, nc_sf g1, nc_k g1, nc_p g1, k4, e]
      rfl
    · show s 252 4 = s 252 4 + nI 0
      rw [show nI 0 = 0 from rfl, Int32.add_zero]
    · intro y l hy b hb
      have : [f] = y :: l := hy
      injection this with e1 e2
      rw [← e1]
      exact hA b (by omega)
  | succ k ih =>
    intro a hak N hN s f hF hc0 hf hA
    obtain ⟨N, rfl⟩ : ∃ j, N = j + 1 := ⟨N - 1, by omega⟩
    have hF' := hF
    obtain ⟨⟨g1, g2, ⟨k4, k5, k6⟩, ⟨g4, g5, g6⟩⟩, ⟨h1, h2, h3', h3, h4, h5⟩, _⟩ := hF
    have ha : a < n := by omega
    have hc := q_choices (x2 := imI f a) hF' ha hf (fun b hb _ => hA b hb) (fun _ => rfl)
    generalize hCH : chC E F M lb ub n bnd ret = CH at *
    have key := wh_up (f := f_X4_findsFrom_L23 (f_X4_findsFrom N) 252 (nI a) (imI f a) (bs (chR E F M ret a f))) m (fun x v σ => v = nI x ∧ LX CH m k a f x = [] ∧ ∃ s1, σ = (s1, rC g h) ∧ FrS a s s1 ∧ s1 252 4 = s 252 4 + nI (TX (fun x => TR CH m k (a + 1) (up f a x)) (CH a f) x).1) (Q := fun y σ => ∃ s1, σ = (s1, rC g h) ∧ FrS a s s1 ∧ s1 252 4 = s 252 4 + nI (TR CH m (k + 1) a f).1 ∧ (y = if (LL CH m (k + 1) a f).isEmpty = true then Sum.inr () else Sum.inl ()) ∧ (∀ y l, LL CH m (k + 1) a f = y :: l → ∀ b, b < n → s1 257 b = nI (y b))) (by
      rintro x v σ hx ⟨rfl, hem, s1, rfl, hf1, ht⟩
      have hx3 : ¬ m ≤ x := by omega
      have hF1 := FrS_FS hf1 hF'
      obtain ⟨⟨j1, j2, ⟨i4, i5, i6⟩, ⟨j4, j5, j6⟩⟩, _⟩ := hF1
      have hF1 := FrS_FS hf1 hF'
      have hib := q_inBounds (a := a) (f := f) (x2 := imI f a) hF1 hx ha hf (fun hb => rfl)
      have hTX := TX_ok (ch := CH) (m := m) (k := k) (a := a) (f := f) (fun x => TR_ok)
      have hT0 : ¬ (TX (fun x => TR CH m k (a + 1) (up f a x)) (CH a f) x).2 = true := by rw [hTX, hem]; exact Bool.false_ne_true
      have hCR : CH a f x = (chR E F M ret a f x && (!bnd || bndx lb ub n a f x)) := by rw [← hCH]; exact chC_R
      cases e1 : chR E F M ret a f x
      · have e2 : CH a f x = false := by rw [hCR, e1]; rfl
        refine ⟨.inl (nI (x + 1)), (s1, rC g h), ?_, rfl, ?_, s1, rfl, hf1, ?_⟩
        · simp (disch := omega) only [i10, i01, gO_s, bO_s, lt_e, Sum.elim_inl, Sum.elim_inr, nI_1, nI_add, nle, nlt, neq, neq0, neq1, nlt0, nle0, n0le, n0lt, nlt1, n1le, n7m, pk_mul, l2, l3, l4, l5, l6, l7, l8, l9, l10, l13, l16, l20, l26, l27, l48, l57, l58, l60, l62, l70, l80, l90, l128, l140, l160, l420, l2000, l2001, bI_0, bI_1, bI_zz, bI_t, bI_f, zz_0, zz_1, ↓reduceIte, if_true, if_false, decide_true, decide_false, Bool.false_and, Bool.and_false, Bool.true_and, Bool.and_true, Bool.not_true, Bool.not_false, Bool.true_or, Bool.or_true, Bool.false_or, Bool.or_false, reduceCtorEq, Nat.reduceLeDiff, Nat.reduceEqDiff, Nat.reduceLT, Bool.true_eq_false, Bool.false_eq_true, eq_self, f_X4_findsFrom_L23, f_X4_findsFrom_b94, fg1, nc_n g2, nc_t g2, nc_f g2, nc_lt g2, nc_lf g2, nc_st g2, nc_sf g2, nc_k g2, nc_p g2, j4, hx3, q_has, bt_bs, e1]
        · rw [LX_f e2]; exact hem
        · rw [ht, TX_s, if_neg hT0, if_neg (by rw [e2]; exact Bool.false_ne_true)]
      · cases e3 : (!bnd || bndx lb ub n a f x)
        · have e2 : CH a f x = false := by rw [hCR, e1, e3]; rfl
          rw [e3] at hib
          refine ⟨.inl (nI (x + 1)), (s1, rC g h), ?_, rfl, ?_, s1, rfl, hf1, ?_⟩
          · simp (disch := omega) only [i10, i01, gO_s, bO_s, lt_e, Sum.elim_inl, Sum.elim_inr, nI_1, nI_add, nle, nlt, neq, neq0, neq1, nlt0, nle0, n0le, n0lt, nlt1, n1le, n7m, pk_mul, l2, l3, l4, l5, l6, l7, l8, l9, l10, l13, l16, l20, l26, l27, l48, l57, l58, l60, l62, l70, l80, l90, l128, l140, l160, l420, l2000, l2001, bI_0, bI_1, bI_zz, bI_t, bI_f, zz_0, zz_1, ↓reduceIte, if_true, if_false, decide_true, decide_false, Bool.false_and, Bool.and_false, Bool.true_and, Bool.and_true, Bool.not_true, Bool.not_false, Bool.true_or, Bool.or_true, Bool.false_or, Bool.or_false, reduceCtorEq, Nat.reduceLeDiff, Nat.reduceEqDiff, Nat.reduceLT, Bool.true_eq_false, Bool.false_eq_true, eq_self, f_X4_findsFrom_L23, f_X4_findsFrom_b94, fg1, nc_n g2, nc_t g2, nc_f g2, nc_lt g2, nc_lf g2, nc_st g2, nc_sf g2, nc_k g2, nc_p g2, j4, hx3, q_has, bt_bs, e1, fK, hib]
          · rw [LX_f e2]; exact hem
          · rw [ht, TX_s, if_neg hT0, if_neg (by rw [e2]; exact Bool.false_ne_true)]
        · have e2 : CH a f x = true := by rw [hCR, e1, e3]; rfl
          rw [e3] at hib
          have hf2 : FrS a s1 (st2 (st2 s1 257 a (nI x)) 252 4 (s1 252 4 + 1)) := FrS_t (FrS_7 (Nat.le_refl a)) FrS_4
          have hi4 : st2 s1 257 a (nI x) 252 4 = s1 252 4 := by rw [st2_o _ _ (by omega)]
          obtain ⟨s2, r1, r2, r3, r4⟩ := ih (a + 1) (by omega) N (by omega) (st2 (st2 s1 257 a (nI x)) 252 4 (s1 252 4 + 1)) (up f a x) (FrS_FS hf2 hF1) up_can (up_m hf hx) (fun b hb => by
            rw [st2_o _ _ (by omega)]
            by_cases e : b = a
            · rw [e, up_at, st2_s]
            · rw [st2_n _ _ e, up_lt (by omega), hf1.2.2 b (by omega)]; exact hA b (by omega))
          rw [imI_up] at r1
          rw [st2_s] at r3
          have hfin : FrS a s s2 := FrS_t hf1 (FrS_t hf2 (FrS_w r2 (by omega)))
          have hTs : TX (fun x => TR CH m k (a + 1) (up f a x)) (CH a f) (x + 1) = ((TX (fun x => TR CH m k (a + 1) (up f a x)) (CH a f) x).1 + 1 + (TR CH m k (a + 1) (up f a x)).1, (TR CH m k (a + 1) (up f a x)).2) := by
            rw [TX, if_neg hT0, if_pos e2]
          have hs4 : s2 252 4 = s 252 4 + nI (TX (fun x => TR CH m k (a + 1) (up f a x)) (CH a f) (x + 1)).1 := by
            rw [r3, ht, hTs, ← nI_add, ← nI_1, Int32.add_assoc, Int32.add_assoc, Int32.add_assoc]
          have hLs : LX CH m k a f (x + 1) = LL CH m k (a + 1) (up f a x) := by rw [LX_t e2, hem, List.nil_append]
          cases hL : LL CH m k (a + 1) (up f a x) with
          | nil =>
            rw [hL] at r1
            refine ⟨.inl (nI (x + 1)), (s2, rC g h), ?_, rfl, ?_, s2, rfl, hfin, hs4⟩
            · simp (disch := omega) only [i10, i01, gO_s, bO_s, lt_e, Sum.elim_inl, Sum.elim_inr, nI_1, nI_add, nle, nlt, neq, neq0, neq1, nlt0, nle0, n0le, n0lt, nlt1, n1le, n7m, pk_mul, l2, l3, l4, l5, l6, l7, l8, l9, l10, l13, l16, l20, l26, l27, l48, l57, l58, l60, l62, l70, l80, l90, l128, l140, l160, l420, l2000, l2001, bI_0, bI_1, bI_zz, bI_t, bI_f, zz_0, zz_1, ↓reduceIte, if_true, if_false, decide_true, decide_false, Bool.false_and, Bool.and_false, Bool.true_and, Bool.and_true, Bool.not_true, Bool.not_false, Bool.true_or, Bool.or_true, Bool.false_or, Bool.or_false, reduceCtorEq, Nat.reduceLeDiff, Nat.reduceEqDiff, Nat.reduceLT, Bool.true_eq_false, Bool.false_eq_true, eq_self, f_X4_findsFrom_L23, f_X4_findsFrom_b94, fg1, nc_n g2, nc_t g2, nc_f g2, nc_lt g2, nc_lf g2, nc_st g2, nc_sf g2, nc_k g2, nc_p g2, j4, hx3, q_has, bt_bs, e1, fK, hib, fg3, fs7, fI, hi4, fP, r1, List.isEmpty_nil, Bool.not_true]
            · rw [hLs]; exact hL
          | cons z l =>
            rw [hL] at r1
            have hpre : ∀ j, x + 1 + j ≤ m → ∃ l', LX CH m k a f (x + 1 + j) = z :: l' := by
              intro j
              induction j with
              | zero => intro _; exact ⟨l, by rw [Nat.add_zero, hLs, hL]⟩
              | succ j ihj =>
                intro hj
                obtain ⟨l', h'⟩ := ihj (by omega)
                rw [← Nat.add_assoc, LX_s, h']
                exact ⟨_, rfl⟩
            obtain ⟨l', hl'⟩ := hpre (m - x - 1) (by omega)
            rw [show x + 1 + (m - x - 1) = m by omega, ← LL_s] at hl'
            have hTm : ∀ j, x + 1 + j ≤ m → TX (fun x => TR CH m k (a + 1) (up f a x)) (CH a f) (x + 1 + j) = TX (fun x => TR CH m k (a + 1) (up f a x)) (CH a f) (x + 1) := by
              intro j
              induction j with
              | zero => intro _; rfl
              | succ j ihj =>
                intro hj
                have h' := ihj (by omega)
                rw [← Nat.add_assoc, TX, if_pos]
                · exact h'
                · rw [h', hTs]
                  show (TR CH m k (a + 1) (up f a x)).2 = true
                  rw [TR_ok, hL]; rfl
            have hTf : TR CH m (k + 1) a f = TX (fun x => TR CH m k (a + 1) (up f a x)) (CH a f) (x + 1) := by
              have := hTm (m - x - 1) (by omega)
              rw [show x + 1 + (m - x - 1) = m by omega] at this
              exact this
            refine ⟨.inr (Sum.inl ()), (s2, rC g h), ?_, s2, rfl, hfin, ?_, ?_, ?_⟩
            · simp (disch := omega) only [i10, i01, gO_s, bO_s, lt_e, Sum.elim_inl, Sum.elim_inr, nI_1, nI_add, nle, nlt, neq, neq0, neq1, nlt0, nle0, n0le, n0lt, nlt1, n1le, n7m, pk_mul, l2, l3, l4, l5, l6, l7, l8, l9, l10, l13, l16, l20, l26, l27, l48, l57, l58, l60, l62, l70, l80, l90, l128, l140, l160, l420, l2000, l2001, bI_0, bI_1, bI_zz, bI_t, bI_f, zz_0, zz_1, ↓reduceIte, if_true, if_false, decide_true, decide_false, Bool.false_and, Bool.and_false, Bool.true_and, Bool.and_true, Bool.not_true, Bool.not_false, Bool.true_or, Bool.or_true, Bool.false_or, Bool.or_false, reduceCtorEq, Nat.reduceLeDiff, Nat.reduceEqDiff, Nat.reduceLT, Bool.true_eq_false, Bool.false_eq_true, eq_self, f_X4_findsFrom_L23, fg1, nc_n g2, nc_t g2, nc_f g2, nc_lt g2, nc_lf g2, nc_st g2, nc_sf g2, nc_k g2, nc_p g2, j4, hx3, q_has, bt_bs, e1, fK, hib, fg3, fs7, fI, hi4, fP, r1, List.isEmpty_cons, Bool.not_false]
            · rw [hTf]; exact hs4
            · rw [hl']; rfl
            · intro y l2 hy b hb
              rw [hl'] at hy
              injection hy with e4 e5
              rw [← e4]
              exact r4 z l hL b hb) (by
      rintro v σ ⟨rfl, hem, s1, rfl, hf1, ht⟩
      have hF1 := FrS_FS hf1 hF'
      obtain ⟨⟨j1, j2, ⟨i4, i5, i6⟩, ⟨j4, j5, j6⟩⟩, _⟩ := hF1
      refine ⟨.inr (), (s1, rC g h), ?_, s1, rfl, hf1, ht, ?_, ?_⟩
      · simp (disch := omega) only [i10, i01, gO_s, bO_s, lt_e, Sum.elim_inl, Sum.elim_inr, nI_1, nI_add, nle, nlt, neq, neq0, neq1, nlt0, nle0, n0le, n0lt, nlt1, n1le, n7m, pk_mul, l2, l3, l4, l5, l6, l7, l8, l9, l10, l13, l16, l20, l26, l27, l48, l57, l58, l60, l62, l70, l80, l90, l128, l140, l160, l420, l2000, l2001, bI_0, bI_1, bI_zz, bI_t, bI_f, zz_0, zz_1, ↓reduceIte, if_true, if_false, decide_true, decide_false, Bool.false_and, Bool.and_false, Bool.true_and, Bool.and_true, Bool.not_true, Bool.not_false, Bool.true_or, Bool.or_true, Bool.false_or, Bool.or_false, reduceCtorEq, Nat.reduceLeDiff, Nat.reduceEqDiff, Nat.reduceLT, Bool.true_eq_false, Bool.false_eq_true, eq_self, f_X4_findsFrom_L23, fg1, nc_n g2, nc_t g2, nc_f g2, nc_lt g2, nc_lf g2, nc_st g2, nc_sf g2, nc_k g2, nc_p g2, j4, Nat.le_refl]
      · rw [LL_s, hem]; rfl
      · intro y l hy
        rw [LL_s, hem] at hy; cases hy) (k := 0) (v := 0) (σ := (s, rC g h)) (by omega) ⟨rfl, rfl, s, rfl, FrS_r _, by
        show s 252 4 = s 252 4 + nI 0
        rw [show nI 0 = 0 from rfl, Int32.add_zero]⟩
    obtain ⟨y, σ', r1, s1, rfl, hf1, ht, hy, hl⟩ := key
    refine ⟨s1, ?_, hf1, ht, hl⟩
    show f_X4_findsFrom_body (f_X4_findsFrom N) 252 (nI a) (imI f a) (s, rC g h) = _
    simp (disch := omega) only [i10, i01, gO_s, bO_s, lt_e, Sum.elim_inl, Sum.elim_inr, nI_1, nI_add, nle, nlt, neq, neq0, neq1, nlt0, nle0, n0le, n0lt, nlt1, n1le, n7m, pk_mul, l2, l3, l4, l5, l6, l7, l8, l9, l10, l13, l16, l20, l26, l27, l48, l57, l58, l60, l62, l70, l80, l90, l128, l140, l160, l420, l2000, l2001, bI_0, bI_1, bI_zz, bI_t, bI_f, zz_0, zz_1, ↓reduceIte, if_true, if_false, decide_true, decide_false, Bool.false_and, Bool.and_false, Bool.true_and, Bool.and_true, Bool.not_true, Bool.not_false, Bool.true_or, Bool.or_true, Bool.false_or, Bool.or_false, reduceCtorEq, Nat.reduceLeDiff, Nat.reduceEqDiff, Nat.reduceLT, Bool.true_eq_false, Bool.false_eq_true, eq_self, f_X4_findsFrom_body, fg0, nc_n g1, nc_t g1, nc_f g1, nc_lt g1, nc_lf g1, nc_st g1, nc_sf g1, nc_k g1, nc_p g1, k4, ha, fK, hc]
    refine (bO_e r1).trans ?_
    rw [hy]
    cases (LL CH m (k + 1) a f).isEmpty <;> rfl
theorem q_finds (hF : FS s g h n m E F M lb ub bnd ret) : ∃ s', f_X4_finds 252 (s, rC g h) = some (bI (!(Ms E F M n m lb ub bnd ret).isEmpty), (s', rC g h)) ∧ FrS 0 s s' ∧ s' 252 4 = nI (TR (chC E F M lb ub n bnd ret) m n 0 f00).1 ∧ (∀ y l, Ms E F M n m lb ub bnd ret = y :: l → ∀ b, b < n → s' 257 b = nI (y b)) := by
  have hn : n ≤ 27 := hF.2.1.2.2.2.1
  obtain ⟨s1, r1, r2, r3, r4⟩ := q_findsFrom hn n 0 (by omega) 30 (by omega) (st2 s 252 4 0) f00 (FrS_FS (FrS_4 (a := 0)) hF) Can_0 (fun b hb => by omega) (fun b hb => by omega)
  rw [imI_0] at r1
  refine ⟨s1, ?_, FrS_t FrS_4 r2, ?_, r4⟩
  · simp (disch := omega) only [i10, i01, gO_s, bO_s, lt_e, Sum.elim_inl, Sum.elim_inr, nI_1, nI_add, nle, nlt, neq, neq0, neq1, nlt0, nle0, n0le, n0lt, nlt1, n1le, n7m, pk_mul, l2, l3, l4, l5, l6, l7, l8, l9, l10, l13, l16, l20, l26, l27, l48, l57, l58, l60, l62, l70, l80, l90, l128, l140, l160, l420, l2000, l2001, bI_0, bI_1, bI_zz, bI_t, bI_f, zz_0, zz_1, ↓reduceIte, if_true, if_false, decide_true, decide_false, Bool.false_and, Bool.and_false, Bool.true_and, Bool.and_true, Bool.not_true, Bool.not_false, Bool.true_or, Bool.or_true, Bool.false_or, Bool.or_false, reduceCtorEq, Nat.reduceLeDiff, Nat.reduceEqDiff, Nat.reduceLT, Bool.true_eq_false, Bool.false_eq_true, eq_self, f_X4_finds, fP]
    have r1' : f_X4_findsFrom 30 252 0 0 (st2 s 252 4 0, rC g h) = some (bI (!(Ms E F M n m lb ub bnd ret).isEmpty), (s1, rC g h)) := r1
    refine (bO_e r1').trans ?_
    rw [bI_zz]
    rfl
  · rw [r3, st2_s, Int32.zero_add]
end MANY
