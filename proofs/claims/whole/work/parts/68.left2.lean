/-! calls: left, tighten: rounds until nothing changes -/
section LEFTB
variable {s t s' t' : Nat → Nat → Int32} {g h n m k0 : Nat} {A : Ab} {E F G M B : Nat → Nat → Bool} {P : Nat → Int32} {f : (Nat → Int32) → Nat → Int32}
def updP (P : Nat → Int32) (a : Nat) (x : Int32) : Nat → Int32 := fun b => if b = a then x else P b
def rwP (f : (Nat → Int32) → Nat → Int32) (P : Nat → Int32) : Nat → Nat → Int32
  | 0 => P
  | a + 1 => updP (rwP f P a) a (f (rwP f P a) a)
def chD (f : (Nat → Int32) → Nat → Int32) (P : Nat → Int32) : Nat → Bool
  | 0 => false
  | a + 1 => chD f P a || !(decide (f (rwP f P a) a = rwP f P a a))
def subP (n : Nat) (P P' : Nat → Int32) : Prop := ∀ a i, a < n → i < 32 → bt (P a) i = true → bt (P' a) i = true
theorem subP_t {P P' P'' : Nat → Int32} (h1 : subP n P P') (h2 : subP n P' P'') : subP n P P'' := fun a i ha hi h => h2 a i ha hi (h1 a i ha hi h)
theorem updP_sub {x : Int32} {a : Nat} (h : ∀ i, i < 32 → bt x i = true → bt (P a) i = true) : subP n (updP P a x) P := fun b i hb hi e => by
  unfold updP at e
  by_cases c : b = a
  · rw [if_pos c] at e; rw [c]; exact h i hi e
  · rw [if_neg c] at e; exact e
theorem rwP_sub (hf : ∀ P a i, a < n → i < 32 → bt (f P a) i = true → bt (P a) i = true) : ∀ a, a ≤ n → subP n (rwP f P a) P := by
  intro a
  induction a with
  | zero => intro _ b i _ _ e; exact e
  | succ a ih => intro ha; exact subP_t (updP_sub fun i hi e => hf _ a i (by omega) hi e) (ih (by omega))
theorem rwP_gc {C : Nat → Nat → Prop} (hf : ∀ P, (∀ a v, a < n → v < 32 → C a v → bt (P a) v = true) → ∀ a v, a < n → v < 32 → C a v → bt (f P a) v = true) (hP : ∀ a v, a < n → v < 32 → C a v → bt (P a) v = true) : ∀ a, a ≤ n → ∀ b v, b < n → v < 32 → C b v → bt (rwP f P a b) v = true := by
  intro a
  induction a with
  | zero => intro _; exact hP
  | succ a ih =>
    intro ha b v hb hv hc
    show bt (updP (rwP f P a) a (f (rwP f P a) a) b) v = true
    unfold updP
    by_cases c : b = a
    · rw [if_pos c]
      exact hf _ (ih (by omega)) a v (by omega) hv (by rw [← c]; exact hc)
    · rw [if_neg c]; exact ih (by omega) b v hb hv hc
theorem rwP_no : ∀ a, chD f P a = false → rwP f P a = P ∧ ∀ b, b < a → f P b = P b := by
  intro a
  induction a with
  | zero => intro _; exact ⟨rfl, fun b hb => absurd hb (Nat.not_lt_zero b)⟩
  | succ a ih =>
    intro h
    unfold chD at h
    rw [Bool.or_eq_false_iff, Bool.not_eq_false', decide_eq_true_iff] at h
    obtain ⟨h1, h2⟩ := ih h.1
    have h3 := h.2
    rw [h1] at h3
    refine ⟨?_, fun b hb => ?_⟩
    · show updP (rwP f P a) a (f (rwP f P a) a) = P
      rw [h1, h3]
      funext b
      unfold updP
      by_cases c : b = a
      · rw [if_pos c, c]
      · rw [if_neg c]
    · by_cases c : b = a
      · rw [c]; exact h3
      · exact h2 b (by omega)
theorem tot_upd {x : Int32} {a : Nat} : ∀ {n : Nat}, a < n → tot n (updP P a x) + cI (P a) = tot n P + cI x := by
  intro n
  induction n with
  | zero => intro h; omega
  | succ n ih =>
    intro h
    unfold tot at *
    rw [fb_sm_succ, fb_sm_succ]
    by_cases c : a = n
    · subst c
      have e1 : fb_sm (fun b => cI (updP P a x b)) a = fb_sm (fun b => cI (P b)) a := by
        have : ∀ k, k ≤ a → fb_sm (fun b => cI (updP P a x b)) k = fb_sm (fun b => cI (P b)) k := by
          intro k
          induction k with
          | zero => intro _; rfl
          | succ k ihk =>
            intro hk
            rw [fb_sm_succ, fb_sm_succ, ihk (by omega)]
            unfold updP
            rw [if_neg (by omega)]
        exact this a (Nat.le_refl a)
      have e2 : updP P a x a = x := if_pos rfl
      rw [e1, e2]; omega
    · have e2 : updP P a x n = P n := if_neg (fun e => c e.symm)
      have := ih (by omega)
      rw [e2]; omega
theorem tot_rw (hf : ∀ P a i, a < n → i < 32 → bt (f P a) i = true → bt (P a) i = true) (hlo : ∀ a, a < n → lo 7 (P a)) : ∀ a, a ≤ n → tot n (rwP f P a) + (if chD f P a = true then 1 else 0) ≤ tot n P := by
  intro a
  induction a with
  | zero => intro _; exact Nat.le_refl _
  | succ a ih =>
    intro ha
    have h1 := ih (by omega)
    have h2 := tot_upd (P := rwP f P a) (x := f (rwP f P a) a) (show a < n by omega)
    have hs := rwP_sub (P := P) hf a (by omega)
    have hlo2 : lo 7 (rwP f P a a) := fun i x y => by
      cases e : bt (rwP f P a a) i
      · rfl
      · have := hs a i (by omega) y e
        rw [hlo a (by omega) i x y] at this; cases this
    show tot n (updP (rwP f P a) a (f (rwP f P a) a)) + (if chD f P (a + 1) = true then 1 else 0) ≤ tot n P
    by_cases c : f (rwP f P a) a = rwP f P a a
    · have e : chD f P (a + 1) = chD f P a := by
        show (chD f P a || !(decide (f (rwP f P a) a = rwP f P a a))) = chD f P a
        rw [decide_eq_true c]; simp
      rw [e]
      rw [c] at h2 ⊢
      omega
    · have h3 : cI (f (rwP f P a) a) < cI (rwP f P a a) := ct_lt (fun i hi e => hf _ a i (by omega) hi e) hlo2 (by omega) (fun e => c e.symm)
      split at h1 <;> split <;> omega
theorem tot_0 (h : tot n P = 0) (hlo : ∀ a, a < n → lo 7 (P a)) {a : Nat} (ha : a < n) : P a = 0 := by
  have h1 : cI (P a) ≤ 0 := by
    have := fb_sm_part (fun a => cI (P a)) ha
    unfold tot at h
    omega
  apply Classical.byContradiction
  intro c
  have := ct_pos (hlo a ha) c
  unfold cI at h1
  omega
theorem bk_sub : ∀ (P : Nat → Int32) (a i : Nat), a < n → i < 32 → bt (bkV E F n P a m) i = true → m ≤ 32 → bt (P a) i = true := fun P a i _ hi h hm => by
  rw [bt_bkV hi m hm, Bool.and_eq_true] at h
  exact h.1
theorem q_narrowRow (x2 : Int32) (hg : isN g) (hh : isN h) (hg9 : g ≤ 246) (hh9 : h ≤ 246) (hN : NetC s g n E) (hH : NetC s h m F) (hn : n ≤ 7) (hm : m ≤ 7) (hP : ∀ b, b < n → s 256 b = P b) : ∃ s', wh (f_X4_narrow_L18 252 x2) (0, 0) (s, rC g h) = some (bI (chD (fun P a => bkV E F n P a m) P n), (s', rC g h)) ∧ (∀ b, b < n → s' 256 b = rwP (fun P a => bkV E F n P a m) P n b) ∧ ∀ k, k ≠ 256 → s' k = s k := by
  have hNf : ∀ s2 : Nat → Nat → Int32, (∀ k, k ≠ 256 → s2 k = s k) → NetC s2 g n E ∧ NetC s2 h m F := fun s2 hf => by
    unfold NetC
    rw [hf _ (by omega), hf _ (by omega), hf _ (by omega), hf _ (by omega), hf _ (by omega), hf _ (by omega)]
    exact ⟨hN, hH⟩
  obtain ⟨y, σ', c1, s3, rfl, rfl, c2, c3⟩ := wh_up (f := f_X4_narrow_L18 252 x2) n (fun a v σ => ∃ s2, v = (bI (chD (fun P a => bkV E F n P a m) P a), nI a) ∧ σ = (s2, rC g h) ∧ (∀ b, b < n → s2 256 b = rwP (fun P a => bkV E F n P a m) P a b) ∧ ∀ k, k ≠ 256 → s2 k = s k) (Q := fun y σ => ∃ s2, y = bI (chD (fun P a => bkV E F n P a m) P n) ∧ σ = (s2, rC g h) ∧ (∀ b, b < n → s2 256 b = rwP (fun P a => bkV E F n P a m) P n b) ∧ ∀ k, k ≠ 256 → s2 k = s k) (by
    rintro a v σ ha ⟨s2, rfl, rfl, h1, h2⟩
    have e1 : ¬ n ≤ a := by omega
    obtain ⟨hN2, hH2⟩ := hNf s2 h2
    have i0 := hN2.1
    have j1 := q_backed (a := a) hg hh hN2 hH2 hn hm ha h1
    have j2 := h1 a ha
    have hx : ∀ b, b < n → st2 s2 256 a (bkV E F n (rwP (fun P a => bkV E F n P a m) P a) a m) 256 b = rwP (fun P a => bkV E F n P a m) P (a + 1) b := fun b hb => by
      rw [st2_k]
      show _ = updP (rwP (fun P a => bkV E F n P a m) P a) a (bkV E F n (rwP (fun P a => bkV E F n P a m) P a) a m) b
      unfold updP
      by_cases c : b = a
      · rw [if_pos c, if_pos c]
      · rw [if_neg c, if_neg c]; exact h1 b hb
    have hch : chD (fun P a => bkV E F n P a m) P (a + 1) = (chD (fun P a => bkV E F n P a m) P a || !(decide (bkV E F n (rwP (fun P a => bkV E F n P a m) P a) a m = rwP (fun P a => bkV E F n P a m) P a a))) := rfl
    refine ⟨.inl (bI (chD (fun P a => bkV E F n P a m) P (a + 1)), nI (a + 1)), (st2 s2 256 a (bkV E F n (rwP (fun P a => bkV E F n P a m) P a) a m), rC g h), ?_, _, rfl, rfl, hx, fun k hk => by rw [st2_o _ _ hk]; exact h2 k hk⟩
    rw [hch]
    generalize chD (fun P a => bkV E F n P a m) P a = ch
    generalize rwP (fun P a => bkV E F n P a m) P a = W at *
    generalize bkV E F n W a m = z at *
    by_cases c : z = W a
    · rw [decide_eq_true c]
      have o1 : bI ch ||| 0 = bI (ch || !true) := by cases ch <;> rfl
      rw [f_X4_narrow_L18]
      refine gO_r fg0 ?_
      refine gO_r (nc_n hg 0) ?_
      refine (if_neg (show ¬ s2 g 0 ≤ nI a by rw [i0, nle (by omega) (by omega)]; exact e1)).trans ?_
      refine gO_r fK ?_
      refine bO_r j1 ?_
      refine gO_r fg2 ?_
      refine gO_r (fl6 (by omega)) ?_
      refine (if_pos (show z = s2 256 a by rw [j2]; exact c)).trans ?_
      rw [f_X4_narrow_b53]
      refine gO_r fg2 ?_
      refine gO_r (fs6 (by omega)) ?_
      rw [o1, nI_1]
    · rw [decide_eq_false c]
      have o1 : bI ch ||| 1 = bI (ch || !false) := by cases ch <;> rfl
      rw [f_X4_narrow_L18]
      refine gO_r fg0 ?_
      refine gO_r (nc_n hg 0) ?_
      refine (if_neg (show ¬ s2 g 0 ≤ nI a by rw [i0, nle (by omega) (by omega)]; exact e1)).trans ?_
      refine gO_r fK ?_
      refine bO_r j1 ?_
      refine gO_r fg2 ?_
      refine gO_r (fl6 (by omega)) ?_
      refine (if_neg (show ¬ z = s2 256 a by rw [j2]; exact c)).trans ?_
      rw [f_X4_narrow_b53]
      refine gO_r fg2 ?_
      refine gO_r (fs6 (by omega)) ?_
      rw [o1, nI_1]) (by
    rintro v σ ⟨s2, rfl, rfl, h1, h2⟩
    have i0 := (hNf s2 h2).1.1
    refine ⟨bI (chD (fun P a => bkV E F n P a m) P n), (s2, rC g h), ?_, s2, rfl, rfl, h1, h2⟩
    (repeat (first | (with_reducible apply gO_r; focus (simp (disch := omega) only [i10, i01, gO_s, bO_s, lt_e, Sum.elim_inl, Sum.elim_inr, nI_1, nI_add, nle, nlt, neq, neq0, neq1, nlt0, nle0, n0le, n0lt, nlt1, n1le, n7m, pk_mul, l2, l3, l4, l5, l6, l7, l8, l9, l10, l13, l16, l20, l26, l27, l32, l48, l57, l58, l60, l62, l70, l80, l90, l128, l140, l160, l420, l2000, l2001, bI_0, bI_1, bI_zz, bI_t, bI_f, zz_0, zz_1, ↓reduceIte, if_true, if_false, decide_true, decide_false, Bool.false_and, Bool.and_false, Bool.true_and, Bool.and_true, Bool.not_true, Bool.not_false, Bool.true_or, Bool.or_true, Bool.false_or, Bool.or_false, reduceCtorEq, Nat.reduceLeDiff, Nat.reduceEqDiff, Nat.reduceLT, Bool.true_eq_false, Bool.false_eq_true, eq_self, fg0, nc_n hg, i0, Nat.le_refl]; exact rfl)) | (with_reducible apply bO_r; focus (simp (disch := omega) only [i10, i01, gO_s, bO_s, lt_e, Sum.elim_inl, Sum.elim_inr, nI_1, nI_add, nle, nlt, neq, neq0, neq1, nlt0, nle0, n0le, n0lt, nlt1, n1le, n7m, pk_mul, l2, l3, l4, l5, l6, l7, l8, l9, l10, l13, l16, l20, l26, l27, l32, l48, l57, l58, l60, l62, l70, l80, l90, l128, l140, l160, l420, l2000, l2001, bI_0, bI_1, bI_zz, bI_t, bI_f, zz_0, zz_1, ↓reduceIte, if_true, if_false, decide_true, decide_false, Bool.false_and, Bool.and_false, Bool.true_and, Bool.and_true, Bool.not_true, Bool.not_false, Bool.true_or, Bool.or_true, Bool.false_or, Bool.or_false, reduceCtorEq, Nat.reduceLeDiff, Nat.reduceEqDiff, Nat.reduceLT, Bool.true_eq_false, Bool.false_eq_true, eq_self, fg0, nc_n hg, i0, Nat.le_refl]; exact rfl)) | (with_reducible refine (if_pos ?_).trans ?_; focus (simp (disch := omega) only [i10, i01, gO_s, bO_s, lt_e, Sum.elim_inl, Sum.elim_inr, nI_1, nI_add, nle, nlt, neq, neq0, neq1, nlt0, nle0, n0le, n0lt, nlt1, n1le, n7m, pk_mul, l2, l3, l4, l5, l6, l7, l8, l9, l10, l13, l16, l20, l26, l27, l32, l48, l57, l58, l60, l62, l70, l80, l90, l128, l140, l160, l420, l2000, l2001, bI_0, bI_1, bI_zz, bI_t, bI_f, zz_0, zz_1, ↓reduceIte, if_true, if_false, decide_true, decide_false, Bool.false_and, Bool.and_false, Bool.true_and, Bool.and_true, Bool.not_true, Bool.not_false, Bool.true_or, Bool.or_true, Bool.false_or, Bool.or_false, reduceCtorEq, Nat.reduceLeDiff, Nat.reduceEqDiff, Nat.reduceLT, Bool.true_eq_false, Bool.false_eq_true, eq_self, fg0, nc_n hg, i0, Nat.le_refl]; done)) | (with_reducible refine (if_neg ?_).trans ?_; focus (simp (disch := omega) only [i10, i01, gO_s, bO_s, lt_e, Sum.elim_inl, Sum.elim_inr, nI_1, nI_add, nle, nlt, neq, neq0, neq1, nlt0, nle0, n0le, n0lt, nlt1, n1le, n7m, pk_mul, l2, l3, l4, l5, l6, l7, l8, l9, l10, l13, l16, l20, l26, l27, l32, l48, l57, l58, l60, l62, l70, l80, l90, l128, l140, l160, l420, l2000, l2001, bI_0, bI_1, bI_zz, bI_t, bI_f, zz_0, zz_1, ↓reduceIte, if_true, if_false, decide_true, decide_false, Bool.false_and, Bool.and_false, Bool.true_and, Bool.and_true, Bool.not_true, Bool.not_false, Bool.true_or, Bool.or_true, Bool.false_or, Bool.or_false, reduceCtorEq, Nat.reduceLeDiff, Nat.reduceEqDiff, Nat.reduceLT, Bool.true_eq_false, Bool.false_eq_true, eq_self, fg0, nc_n hg, i0, Nat.le_refl]; exact not_false)) | (rw [lt_e]) | (rw [Sum.elim_inl]) | (rw [Sum.elim_inr]) | (rw [f_X4_narrow_L18]))) <;> (first | done | exact rfl | (simp (disch := omega) only [i10, i01, gO_s, bO_s, lt_e, Sum.elim_inl, Sum.elim_inr, nI_1, nI_add, nle, nlt, neq, neq0, neq1, nlt0, nle0, n0le, n0lt, nlt1, n1le, n7m, pk_mul, l2, l3, l4, l5, l6, l7, l8, l9, l10, l13, l16, l20, l26, l27, l32, l48, l57, l58, l60, l62, l70, l80, l90, l128, l140, l160, l420, l2000, l2001, bI_0, bI_1, bI_zz, bI_t, bI_f, zz_0, zz_1, ↓reduceIte, if_true, if_false, decide_true, decide_false, Bool.false_and, Bool.and_false, Bool.true_and, Bool.and_true, Bool.not_true, Bool.not_false, Bool.true_or, Bool.or_true, Bool.false_or, Bool.or_false, reduceCtorEq, Nat.reduceLeDiff, Nat.reduceEqDiff, Nat.reduceLT, Bool.true_eq_false, Bool.false_eq_true, eq_self, fg0, nc_n hg, i0, Nat.le_refl]; done) | (simp (disch := omega) only [i10, i01, gO_s, bO_s, lt_e, Sum.elim_inl, Sum.elim_inr, nI_1, nI_add, nle, nlt, neq, neq0, neq1, nlt0, nle0, n0le, n0lt, nlt1, n1le, n7m, pk_mul, l2, l3, l4, l5, l6, l7, l8, l9, l10, l13, l16, l20, l26, l27, l32, l48, l57, l58, l60, l62, l70, l80, l90, l128, l140, l160, l420, l2000, l2001, bI_0, bI_1, bI_zz, bI_t, bI_f, zz_0, zz_1, ↓reduceIte, if_true, if_false, decide_true, decide_false, Bool.false_and, Bool.and_false, Bool.true_and, Bool.and_true, Bool.not_true, Bool.not_false, Bool.true_or, Bool.or_true, Bool.false_or, Bool.or_false, reduceCtorEq, Nat.reduceLeDiff, Nat.reduceEqDiff, Nat.reduceLT, Bool.true_eq_false, Bool.false_eq_true, eq_self, fg0, nc_n hg, i0, Nat.le_refl]; exact rfl))) (k := 0) (v := (0, 0)) (σ := (s, rC g h)) (Nat.zero_le _) ⟨s, rfl, rfl, hP, fun _ _ => rfl⟩
  exact ⟨s3, c1, c2, c3⟩
theorem q_narrow (hg : isN g) (hh : isN h) (hg9 : g ≤ 246) (hh9 : h ≤ 246) (hN : NetC s g n E) (hH : NetC s h m F) (hn : n ≤ 7) (hm : m ≤ 7) (hP : ∀ b, b < n → s 256 b = P b) (hB : ∀ a v, a < n → v < 32 → (bt (P a) v = true ↔ B a v = true)) (hBm : ∀ a v, B a v = true → v < m) : ∃ s', f_X4_narrow 252 (s, rC g h) = some ((), (s', rC g h)) ∧ (∀ a v, a < n → v < 32 → (bt (s' 256 a) v = true ↔ GC E F n B a v)) ∧ ∀ k, k ≠ 256 → s' k = s k := by
  have hNf : ∀ s2 : Nat → Nat → Int32, (∀ k, k ≠ 256 → s2 k = s k) → NetC s2 g n E ∧ NetC s2 h m F := fun s2 hf => by
    unfold NetC
    rw [hf _ (by omega), hf _ (by omega), hf _ (by omega), hf _ (by omega), hf _ (by omega), hf _ (by omega)]
    exact ⟨hN, hH⟩
  have hsub : ∀ (P : Nat → Int32) (a i : Nat), a < n → i < 32 → bt (bkV E F n P a m) i = true → bt (P a) i = true := fun P a i ha hi e => bk_sub P a i ha hi e (by omega)
  have hlo0 : ∀ {W : Nat → Int32}, subP n W P → ∀ a, a < n → lo 7 (W a) := fun {W} hW a ha i h1 h2 => by
    cases e : bt (W a) i
    · rfl
    · have := hBm a i ((hB a i ha h2).1 (hW a i ha h2 e)); omega
  have hgc0 : ∀ a v, a < n → v < 32 → GC E F n B a v → bt (P a) v = true := fun a v ha hv hc => by
    obtain ⟨Q, hQ, h1⟩ := hc
    exact (hB a v ha hv).2 (hQ a v ha hv h1).1
  have hgcf : ∀ W : Nat → Int32, (∀ a v, a < n → v < 32 → GC E F n B a v → bt (W a) v = true) → ∀ a v, a < n → v < 32 → GC E F n B a v → bt (bkV E F n W a m) v = true := fun W hW a v ha hv hc => by
    rw [bt_bkV hv m (by omega), hW a v ha hv hc, (gc_in hW ha hv hc).2]; simp
  have ht0 : tot n P ≤ 49 := by
    have : ∀ k, k ≤ n → fb_sm (fun a => cI (P a)) k ≤ 7 * k := by
      intro k
      induction k with
      | zero => intro _; exact Nat.le_refl _
      | succ k ih =>
        intro hk
        rw [fb_sm_succ]
        have h1 := ih (by omega)
        have h2 : cI (P k) ≤ 7 := fb_ct_le _ _
        omega
    have := this n (Nat.le_refl n)
    unfold tot
    omega
  obtain ⟨y, σ', c1, s3, rfl, W, w1, w2, w3, w4, w5⟩ := wh_ms (f := f_X4_narrow_L4 252) (fun j v σ => ∃ s2 W c k, j = 50 - k ∧ k ≤ 50 ∧ v = (bI c, nI k) ∧ σ = (s2, rC g h) ∧ (∀ b, b < n → s2 256 b = W b) ∧ (∀ k, k ≠ 256 → s2 k = s k) ∧ subP n W P ∧ (∀ a v, a < n → v < 32 → GC E F n B a v → bt (W a) v = true) ∧ (c = false → ∀ a, a < n → bkV E F n W a m = W a) ∧ (c = true → tot n W + k ≤ 49)) (Q := fun _ σ => ∃ s2, σ = (s2, rC g h) ∧ ∃ W, (∀ b, b < n → s2 256 b = W b) ∧ (∀ k, k ≠ 256 → s2 k = s k) ∧ subP n W P ∧ (∀ a v, a < n → v < 32 → GC E F n B a v → bt (W a) v = true) ∧ ∀ a, a < n → bkV E F n W a m = W a) (by
    rintro j v σ ⟨s2, W, c, k, rfl, hk, rfl, rfl, h1, h2, h3, h4, h5, h6⟩
    by_cases e1 : 49 < k
    · refine ⟨.inr (), (s2, rC g h), ?_, s2, rfl, W, h1, h2, h3, h4, ?_⟩
      · have l49 : (49 : Int32) = nI 49 := rfl
        (repeat (first | (with_reducible apply gO_r; focus (simp (disch := omega) only [i10, i01, gO_s, bO_s, lt_e, Sum.elim_inl, Sum.elim_inr, nI_1, nI_add, nle, nlt, neq, neq0, neq1, nlt0, nle0, n0le, n0lt, nlt1, n1le, n7m, pk_mul, l2, l3, l4, l5, l6, l7, l8, l9, l10, l13, l16, l20, l26, l27, l32, l48, l57, l58, l60, l62, l70, l80, l90, l128, l140, l160, l420, l2000, l2001, bI_0, bI_1, bI_zz, bI_t, bI_f, zz_0, zz_1, ↓reduceIte, if_true, if_false, decide_true, decide_false, Bool.false_and, Bool.and_false, Bool.true_and, Bool.and_true, Bool.not_true, Bool.not_false, Bool.true_or, Bool.or_true, Bool.false_or, Bool.or_false, reduceCtorEq, Nat.reduceLeDiff, Nat.reduceEqDiff, Nat.reduceLT, Bool.true_eq_false, Bool.false_eq_true, eq_self, l49, e1]; exact rfl)) | (with_reducible apply bO_r; focus (simp (disch := omega) only [i10, i01, gO_s, bO_s, lt_e, Sum.elim_inl, Sum.elim_inr, nI_1, nI_add, nle, nlt, neq, neq0, neq1, nlt0, nle0, n0le, n0lt, nlt1, n1le, n7m, pk_mul, l2, l3, l4, l5, l6, l7, l8, l9, l10, l13, l16, l20, l26, l27, l32, l48, l57, l58, l60, l62, l70, l80, l90, l128, l140, l160, l420, l2000, l2001, bI_0, bI_1, bI_zz, bI_t, bI_f, zz_0, zz_1, ↓reduceIte, if_true, if_false, decide_true, decide_false, Bool.false_and, Bool.and_false, Bool.true_and, Bool.and_true, Bool.not_true, Bool.not_false, Bool.true_or, Bool.or_true, Bool.false_or, Bool.or_false, reduceCtorEq, Nat.reduceLeDiff, Nat.reduceEqDiff, Nat.reduceLT, Bool.true_eq_false, Bool.false_eq_true, eq_self, l49, e1]; exact rfl)) | (with_reducible refine (if_pos ?_).trans ?_; focus (simp (disch := omega) only [i10, i01, gO_s, bO_s, lt_e, Sum.elim_inl, Sum.elim_inr, nI_1, nI_add, nle, nlt, neq, neq0, neq1, nlt0, nle0, n0le, n0lt, nlt1, n1le, n7m, pk_mul, l2, l3, l4, l5, l6, l7, l8, l9, l10, l13, l16, l20, l26, l27, l32, l48, l57, l58, l60, l62, l70, l80, l90, l128, l140, l160, l420, l2000, l2001, bI_0, bI_1, bI_zz, bI_t, bI_f, zz_0, zz_1, ↓reduceIte, if_true, if_false, decide_true, decide_false, Bool.false_and, Bool.and_false, Bool.true_and, Bool.and_true, Bool.not_true, Bool.not_false, Bool.true_or, Bool.or_true, Bool.false_or, Bool.or_false, reduceCtorEq, Nat.reduceLeDiff, Nat.reduceEqDiff, Nat.reduceLT, Bool.true_eq_false, Bool.false_eq_true, eq_self, l49, e1]; done)) | (with_reducible refine (if_neg ?_).trans ?_; focus (simp (disch := omega) only [i10, i01, gO_s, bO_s, lt_e, Sum.elim_inl, Sum.elim_inr, nI_1, nI_add, nle, nlt, neq, neq0, neq1, nlt0, nle0, n0le, n0lt, nlt1, n1le, n7m, pk_mul, l2, l3, l4, l5, l6, l7, l8, l9, l10, l13, l16, l20, l26, l27, l32, l48, l57, l58, l60, l62, l70, l80, l90, l128, l140, l160, l420, l2000, l2001, bI_0, bI_1, bI_zz, bI_t, bI_f, zz_0, zz_1, ↓reduceIte, if_true, if_false, decide_true, decide_false, Bool.false_and, Bool.and_false, Bool.true_and, Bool.and_true, Bool.not_true, Bool.not_false, Bool.true_or, Bool.or_true, Bool.false_or, Bool.or_false, reduceCtorEq, Nat.reduceLeDiff, Nat.reduceEqDiff, Nat.reduceLT, Bool.true_eq_false, Bool.false_eq_true, eq_self, l49, e1]; exact not_false)) | (rw [lt_e]) | (rw [Sum.elim_inl]) | (rw [Sum.elim_inr]) | (rw [f_X4_narrow_L4]))) <;> (first | done | exact rfl | (simp (disch := omega) only [i10, i01, gO_s, bO_s, lt_e, Sum.elim_inl, Sum.elim_inr, nI_1, nI_add, nle, nlt, neq, neq0, neq1, nlt0, nle0, n0le, n0lt, nlt1, n1le, n7m, pk_mul, l2, l3, l4, l5, l6, l7, l8, l9, l10, l13, l16, l20, l26, l27, l32, l48, l57, l58, l60, l62, l70, l80, l90, l128, l140, l160, l420, l2000, l2001, bI_0, bI_1, bI_zz, bI_t, bI_f, zz_0, zz_1, ↓reduceIte, if_true, if_false, decide_true, decide_false, Bool.false_and, Bool.and_false, Bool.true_and, Bool.and_true, Bool.not_true, Bool.not_false, Bool.true_or, Bool.or_true, Bool.false_or, Bool.or_false, reduceCtorEq, Nat.reduceLeDiff, Nat.reduceEqDiff, Nat.reduceLT, Bool.true_eq_false, Bool.false_eq_true, eq_self, l49, e1]; done) | (simp (disch := omega) only [i10, i01, gO_s, bO_s, lt_e, Sum.elim_inl, Sum.elim_inr, nI_1, nI_add, nle, nlt, neq, neq0, neq1, nlt0, nle0, n0le, n0lt, nlt1, n1le, n7m, pk_mul, l2, l3, l4, l5, l6, l7, l8, l9, l10, l13, l16, l20, l26, l27, l32, l48, l57, l58, l60, l62, l70, l80, l90, l128, l140, l160, l420, l2000, l2001, bI_0, bI_1, bI_zz, bI_t, bI_f, zz_0, zz_1, ↓reduceIte, if_true, if_false, decide_true, decide_false, Bool.false_and, Bool.and_false, Bool.true_and, Bool.and_true, Bool.not_true, Bool.not_false, Bool.true_or, Bool.or_true, Bool.false_or, Bool.or_false, reduceCtorEq, Nat.reduceLeDiff, Nat.reduceEqDiff, Nat.reduceLT, Bool.true_eq_false, Bool.false_eq_true, eq_self, l49, e1]; exact rfl))
      · cases c
        · exact h5 rfl
        · intro a ha
          have h0 := h6 rfl
          omega
    · have l49 : (49 : Int32) = nI 49 := rfl
      cases c
      · refine ⟨.inr (), (s2, rC g h), ?_, s2, rfl, W, h1, h2, h3, h4, h5 rfl⟩
        (repeat (first | (with_reducible apply gO_r; focus (simp (disch := omega) only [i10, i01, gO_s, bO_s, lt_e, Sum.elim_inl, Sum.elim_inr, nI_1, nI_add, nle, nlt, neq, neq0, neq1, nlt0, nle0, n0le, n0lt, nlt1, n1le, n7m, pk_mul, l2, l3, l4, l5, l6, l7, l8, l9, l10, l13, l16, l20, l26, l27, l32, l48, l57, l58, l60, l62, l70, l80, l90, l128, l140, l160, l420, l2000, l2001, bI_0, bI_1, bI_zz, bI_t, bI_f, zz_0, zz_1, ↓reduceIte, if_true, if_false, decide_true, decide_false, Bool.false_and, Bool.and_false, Bool.true_and, Bool.and_true, Bool.not_true, Bool.not_false, Bool.true_or, Bool.or_true, Bool.false_or, Bool.or_false, reduceCtorEq, Nat.reduceLeDiff, Nat.reduceEqDiff, Nat.reduceLT, Bool.true_eq_false, Bool.false_eq_true, eq_self, l49, e1]; exact rfl)) | (with_reducible apply bO_r; focus (simp (disch := omega) only [i10, i01, gO_s, bO_s, lt_e, Sum.elim_inl, Sum.elim_inr, nI_1, nI_add, nle, nlt, neq, neq0, neq1, nlt0, nle0, n0le, n0lt, nlt1, n1le, n7m, pk_mul, l2, l3, l4, l5, l6, l7, l8, l9, l10, l13, l16, l20, l26, l27, l32, l48, l57, l58, l60, l62, l70, l80, l90, l128, l140, l160, l420, l2000, l2001, bI_0, bI_1, bI_zz, bI_t, bI_f, zz_0, zz_1, ↓reduceIte, if_true, if_false, decide_true, decide_false, Bool.false_and, Bool.and_false, Bool.true_and, Bool.and_true, Bool.not_true, Bool.not_false, Bool.true_or, Bool.or_true, Bool.false_or, Bool.or_false, reduceCtorEq, Nat.reduceLeDiff, Nat.reduceEqDiff, Nat.reduceLT, Bool.true_eq_false, Bool.false_eq_true, eq_self, l49, e1]; exact rfl)) | (with_reducible refine (if_pos ?_).trans ?_; focus (simp (disch := omega) only [i10, i01, gO_s, bO_s, lt_e, Sum.elim_inl, Sum.elim_inr, nI_1, nI_add, nle, nlt, neq, neq0, neq1, nlt0, nle0, n0le, n0lt, nlt1, n1le, n7m, pk_mul, l2, l3, l4, l5, l6, l7, l8, l9, l10, l13, l16, l20, l26, l27, l32, l48, l57, l58, l60, l62, l70, l80, l90, l128, l140, l160, l420, l2000, l2001, bI_0, bI_1, bI_zz, bI_t, bI_f, zz_0, zz_1, ↓reduceIte, if_true, if_false, decide_true, decide_false, Bool.false_and, Bool.and_false, Bool.true_and, Bool.and_true, Bool.not_true, Bool.not_false, Bool.true_or, Bool.or_true, Bool.false_or, Bool.or_false, reduceCtorEq, Nat.reduceLeDiff, Nat.reduceEqDiff, Nat.reduceLT, Bool.true_eq_false, Bool.false_eq_true, eq_self, l49, e1]; done)) | (with_reducible refine (if_neg ?_).trans ?_; focus (simp (disch := omega) only [i10, i01, gO_s, bO_s, lt_e, Sum.elim_inl, Sum.elim_inr, nI_1, nI_add, nle, nlt, neq, neq0, neq1, nlt0, nle0, n0le, n0lt, nlt1, n1le, n7m, pk_mul, l2, l3, l4, l5, l6, l7, l8, l9, l10, l13, l16, l20, l26, l27, l32, l48, l57, l58, l60, l62, l70, l80, l90, l128, l140, l160, l420, l2000, l2001, bI_0, bI_1, bI_zz, bI_t, bI_f, zz_0, zz_1, ↓reduceIte, if_true, if_false, decide_true, decide_false, Bool.false_and, Bool.and_false, Bool.true_and, Bool.and_true, Bool.not_true, Bool.not_false, Bool.true_or, Bool.or_true, Bool.false_or, Bool.or_false, reduceCtorEq, Nat.reduceLeDiff, Nat.reduceEqDiff, Nat.reduceLT, Bool.true_eq_false, Bool.false_eq_true, eq_self, l49, e1]; exact not_false)) | (rw [lt_e]) | (rw [Sum.elim_inl]) | (rw [Sum.elim_inr]) | (rw [f_X4_narrow_L4]))) <;> (first | done | exact rfl | (simp (disch := omega) only [i10, i01, gO_s, bO_s, lt_e, Sum.elim_inl, Sum.elim_inr, nI_1, nI_add, nle, nlt, neq, neq0, neq1, nlt0, nle0, n0le, n0lt, nlt1, n1le, n7m, pk_mul, l2, l3, l4, l5, l6, l7, l8, l9, l10, l13, l16, l20, l26, l27, l32, l48, l57, l58, l60, l62, l70, l80, l90, l128, l140, l160, l420, l2000, l2001, bI_0, bI_1, bI_zz, bI_t, bI_f, zz_0, zz_1, ↓reduceIte, if_true, if_false, decide_true, decide_false, Bool.false_and, Bool.and_false, Bool.true_and, Bool.and_true, Bool.not_true, Bool.not_false, Bool.true_or, Bool.or_true, Bool.false_or, Bool.or_false, reduceCtorEq, Nat.reduceLeDiff, Nat.reduceEqDiff, Nat.reduceLT, Bool.true_eq_false, Bool.false_eq_true, eq_self, l49, e1]; done) | (simp (disch := omega) only [i10, i01, gO_s, bO_s, lt_e, Sum.elim_inl, Sum.elim_inr, nI_1, nI_add, nle, nlt, neq, neq0, neq1, nlt0, nle0, n0le, n0lt, nlt1, n1le, n7m, pk_mul, l2, l3, l4, l5, l6, l7, l8, l9, l10, l13, l16, l20, l26, l27, l32, l48, l57, l58, l60, l62, l70, l80, l90, l128, l140, l160, l420, l2000, l2001, bI_0, bI_1, bI_zz, bI_t, bI_f, zz_0, zz_1, ↓reduceIte, if_true, if_false, decide_true, decide_false, Bool.false_and, Bool.and_false, Bool.true_and, Bool.and_true, Bool.not_true, Bool.not_false, Bool.true_or, Bool.or_true, Bool.false_or, Bool.or_false, reduceCtorEq, Nat.reduceLeDiff, Nat.reduceEqDiff, Nat.reduceLT, Bool.true_eq_false, Bool.false_eq_true, eq_self, l49, e1]; exact rfl))
      · obtain ⟨hN2, hH2⟩ := hNf s2 h2
        obtain ⟨s3, r1, r2, r3⟩ := q_narrowRow (nI k) hg hh hg9 hh9 hN2 hH2 hn hm h1
        refine ⟨.inl (bI (chD (fun P a => bkV E F n P a m) W n), nI (k + 1)), (s3, rC g h), ?_, 50 - (k + 1), by omega, s3, rwP (fun P a => bkV E F n P a m) W n, chD (fun P a => bkV E F n P a m) W n, k + 1, rfl, by omega, rfl, rfl, r2, fun k hk => (r3 k hk).trans (h2 k hk), subP_t (rwP_sub hsub n (Nat.le_refl n)) h3, rwP_gc hgcf h4 n (Nat.le_refl n), fun hc => ?_, fun hc => ?_⟩
        · (repeat (first | (with_reducible apply gO_r; focus (simp (disch := omega) only [i10, i01, gO_s, bO_s, lt_e, Sum.elim_inl, Sum.elim_inr, nI_1, nI_add, nle, nlt, neq, neq0, neq1, nlt0, nle0, n0le, n0lt, nlt1, n1le, n7m, pk_mul, l2, l3, l4, l5, l6, l7, l8, l9, l10, l13, l16, l20, l26, l27, l32, l48, l57, l58, l60, l62, l70, l80, l90, l128, l140, l160, l420, l2000, l2001, bI_0, bI_1, bI_zz, bI_t, bI_f, zz_0, zz_1, ↓reduceIte, if_true, if_false, decide_true, decide_false, Bool.false_and, Bool.and_false, Bool.true_and, Bool.and_true, Bool.not_true, Bool.not_false, Bool.true_or, Bool.or_true, Bool.false_or, Bool.or_false, reduceCtorEq, Nat.reduceLeDiff, Nat.reduceEqDiff, Nat.reduceLT, Bool.true_eq_false, Bool.false_eq_true, eq_self, l49, e1, r1]; exact rfl)) | (with_reducible apply bO_r; focus (simp (disch := omega) only [i10, i01, gO_s, bO_s, lt_e, Sum.elim_inl, Sum.elim_inr, nI_1, nI_add, nle, nlt, neq, neq0, neq1, nlt0, nle0, n0le, n0lt, nlt1, n1le, n7m, pk_mul, l2, l3, l4, l5, l6, l7, l8, l9, l10, l13, l16, l20, l26, l27, l32, l48, l57, l58, l60, l62, l70, l80, l90, l128, l140, l160, l420, l2000, l2001, bI_0, bI_1, bI_zz, bI_t, bI_f, zz_0, zz_1, ↓reduceIte, if_true, if_false, decide_true, decide_false, Bool.false_and, Bool.and_false, Bool.true_and, Bool.and_true, Bool.not_true, Bool.not_false, Bool.true_or, Bool.or_true, Bool.false_or, Bool.or_false, reduceCtorEq, Nat.reduceLeDiff, Nat.reduceEqDiff, Nat.reduceLT, Bool.true_eq_false, Bool.false_eq_true, eq_self, l49, e1, r1]; exact rfl)) | (with_reducible refine (if_pos ?_).trans ?_; focus (simp (disch := omega) only [i10, i01, gO_s, bO_s, lt_e, Sum.elim_inl, Sum.elim_inr, nI_1, nI_add, nle, nlt, neq, neq0, neq1, nlt0, nle0, n0le, n0lt, nlt1, n1le, n7m, pk_mul, l2, l3, l4, l5, l6, l7, l8, l9, l10, l13, l16, l20, l26, l27, l32, l48, l57, l58, l60, l62, l70, l80, l90, l128, l140, l160, l420, l2000, l2001, bI_0, bI_1, bI_zz, bI_t, bI_f, zz_0, zz_1, ↓reduceIte, if_true, if_false, decide_true, decide_false, Bool.false_and, Bool.and_false, Bool.true_and, Bool.and_true, Bool.not_true, Bool.not_false, Bool.true_or, Bool.or_true, Bool.false_or, Bool.or_false, reduceCtorEq, Nat.reduceLeDiff, Nat.reduceEqDiff, Nat.reduceLT, Bool.true_eq_false, Bool.false_eq_true, eq_self, l49, e1, r1]; done)) | (with_reducible refine (if_neg ?_).trans ?_; focus (simp (disch := omega) only [i10, i01, gO_s, bO_s, lt_e, Sum.elim_inl, Sum.elim_inr, nI_1, nI_add, nle, nlt, neq, neq0, neq1, nlt0, nle0, n0le, n0lt, nlt1, n1le, n7m, pk_mul, l2, l3, l4, l5, l6, l7, l8, l9, l10, l13, l16, l20, l26, l27, l32, l48, l57, l58, l60, l62, l70, l80, l90, l128, l140, l160, l420, l2000, l2001, bI_0, bI_1, bI_zz, bI_t, bI_f, zz_0, zz_1, ↓reduceIte, if_true, if_false, decide_true, decide_false, Bool.false_and, Bool.and_false, Bool.true_and, Bool.and_true, Bool.not_true, Bool.not_false, Bool.true_or, Bool.or_true, Bool.false_or, Bool.or_false, reduceCtorEq, Nat.reduceLeDiff, Nat.reduceEqDiff, Nat.reduceLT, Bool.true_eq_false, Bool.false_eq_true, eq_self, l49, e1, r1]; exact not_false)) | (rw [lt_e]) | (rw [Sum.elim_inl]) | (rw [Sum.elim_inr]) | (rw [f_X4_narrow_L4]))) <;> (first | done | exact rfl | (simp (disch := omega) only [i10, i01, gO_s, bO_s, lt_e, Sum.elim_inl, Sum.elim_inr, nI_1, nI_add, nle, nlt, neq, neq0, neq1, nlt0, nle0, n0le, n0lt, nlt1, n1le, n7m, pk_mul, l2, l3, l4, l5, l6, l7, l8, l9, l10, l13, l16, l20, l26, l27, l32, l48, l57, l58, l60, l62, l70, l80, l90, l128, l140, l160, l420, l2000, l2001, bI_0, bI_1, bI_zz, bI_t, bI_f, zz_0, zz_1, ↓reduceIte, if_true, if_false, decide_true, decide_false, Bool.false_and, Bool.and_false, Bool.true_and, Bool.and_true, Bool.not_true, Bool.not_false, Bool.true_or, Bool.or_true, Bool.false_or, Bool.or_false, reduceCtorEq, Nat.reduceLeDiff, Nat.reduceEqDiff, Nat.reduceLT, Bool.true_eq_false, Bool.false_eq_true, eq_self, l49, e1, r1]; done) | (simp (disch := omega) only [i10, i01, gO_s, bO_s, lt_e, Sum.elim_inl, Sum.elim_inr, nI_1, nI_add, nle, nlt, neq, neq0, neq1, nlt0, nle0, n0le, n0lt, nlt1, n1le, n7m, pk_mul, l2, l3, l4, l5, l6, l7, l8, l9, l10, l13, l16, l20, l26, l27, l32, l48, l57, l58, l60, l62, l70, l80, l90, l128, l140, l160, l420, l2000, l2001, bI_0, bI_1, bI_zz, bI_t, bI_f, zz_0, zz_1, ↓reduceIte, if_true, if_false, decide_true, decide_false, Bool.false_and, Bool.and_false, Bool.true_and, Bool.and_true, Bool.not_true, Bool.not_false, Bool.true_or, Bool.or_true, Bool.false_or, Bool.or_false, reduceCtorEq, Nat.reduceLeDiff, Nat.reduceEqDiff, Nat.reduceLT, Bool.true_eq_false, Bool.false_eq_true, eq_self, l49, e1, r1]; exact rfl))
        · obtain ⟨q1, q2⟩ := rwP_no (f := fun P a => bkV E F n P a m) n hc
          rw [q1]; exact q2
        · have := tot_rw (f := fun P a => bkV E F n P a m) hsub (hlo0 h3) n (Nat.le_refl n)
          rw [if_pos hc] at this
          have := h6 rfl
          omega) 50 (v := (1, 0)) (σ := (s, rC g h)) ⟨s, P, true, 0, rfl, by omega, rfl, rfl, hP, fun _ _ => rfl, fun _ _ _ _ e => e, hgc0, fun e => (by cases e), fun _ => ht0⟩
  refine ⟨s3, ?_, fun a v ha hv => ⟨fun e => ?_, fun e => ?_⟩, w2⟩
  · (repeat (first | (with_reducible apply gO_r; focus (simp (disch := omega) only [i10, i01, gO_s, bO_s, lt_e, Sum.elim_inl, Sum.elim_inr, nI_1, nI_add, nle, nlt, neq, neq0, neq1, nlt0, nle0, n0le, n0lt, nlt1, n1le, n7m, pk_mul, l2, l3, l4, l5, l6, l7, l8, l9, l10, l13, l16, l20, l26, l27, l32, l48, l57, l58, l60, l62, l70, l80, l90, l128, l140, l160, l420, l2000, l2001, bI_0, bI_1, bI_zz, bI_t, bI_f, zz_0, zz_1, ↓reduceIte, if_true, if_false, decide_true, decide_false, Bool.false_and, Bool.and_false, Bool.true_and, Bool.and_true, Bool.not_true, Bool.not_false, Bool.true_or, Bool.or_true, Bool.false_or, Bool.or_false, reduceCtorEq, Nat.reduceLeDiff, Nat.reduceEqDiff, Nat.reduceLT, Bool.true_eq_false, Bool.false_eq_true, eq_self, c1]; exact rfl)) | (with_reducible apply bO_r; focus (simp (disch := omega) only [i10, i01, gO_s, bO_s, lt_e, Sum.elim_inl, Sum.elim_inr, nI_1, nI_add, nle, nlt, neq, neq0, neq1, nlt0, nle0, n0le, n0lt, nlt1, n1le, n7m, pk_mul, l2, l3, l4, l5, l6, l7, l8, l9, l10, l13, l16, l20, l26, l27, l32, l48, l57, l58, l60, l62, l70, l80, l90, l128, l140, l160, l420, l2000, l2001, bI_0, bI_1, bI_zz, bI_t, bI_f, zz_0, zz_1, ↓reduceIte, if_true, if_false, decide_true, decide_false, Bool.false_and, Bool.and_false, Bool.true_and, Bool.and_true, Bool.not_true, Bool.not_false, Bool.true_or, Bool.or_true, Bool.false_or, Bool.or_false, reduceCtorEq, Nat.reduceLeDiff, Nat.reduceEqDiff, Nat.reduceLT, Bool.true_eq_false, Bool.false_eq_true, eq_self, c1]; exact rfl)) | (with_reducible refine (if_pos ?_).trans ?_; focus (simp (disch := omega) only [i10, i01, gO_s, bO_s, lt_e, Sum.elim_inl, Sum.elim_inr, nI_1, nI_add, nle, nlt, neq, neq0, neq1, nlt0, nle0, n0le, n0lt, nlt1, n1le, n7m, pk_mul, l2, l3, l4, l5, l6, l7, l8, l9, l10, l13, l16, l20, l26, l27, l32, l48, l57, l58, l60, l62, l70, l80, l90, l128, l140, l160, l420, l2000, l2001, bI_0, bI_1, bI_zz, bI_t, bI_f, zz_0, zz_1, ↓reduceIte, if_true, if_false, decide_true, decide_false, Bool.false_and, Bool.and_false, Bool.true_and, Bool.and_true, Bool.not_true, Bool.not_false, Bool.true_or, Bool.or_true, Bool.false_or, Bool.or_false, reduceCtorEq, Nat.reduceLeDiff, Nat.reduceEqDiff, Nat.reduceLT, Bool.true_eq_false, Bool.false_eq_true, eq_self, c1]; done)) | (with_reducible refine (if_neg ?_).trans ?_; focus (simp (disch := omega) only [i10, i01, gO_s, bO_s, lt_e, Sum.elim_inl, Sum.elim_inr, nI_1, nI_add, nle, nlt, neq, neq0, neq1, nlt0, nle0, n0le, n0lt, nlt1, n1le, n7m, pk_mul, l2, l3, l4, l5, l6, l7, l8, l9, l10, l13, l16, l20, l26, l27, l32, l48, l57, l58, l60, l62, l70, l80, l90, l128, l140, l160, l420, l2000, l2001, bI_0, bI_1, bI_zz, bI_t, bI_f, zz_0, zz_1, ↓reduceIte, if_true, if_false, decide_true, decide_false, Bool.false_and, Bool.and_false, Bool.true_and, Bool.and_true, Bool.not_true, Bool.not_false, Bool.true_or, Bool.or_true, Bool.false_or, Bool.or_false, reduceCtorEq, Nat.reduceLeDiff, Nat.reduceEqDiff, Nat.reduceLT, Bool.true_eq_false, Bool.false_eq_true, eq_self, c1]; exact not_false)) | (rw [lt_e]) | (rw [Sum.elim_inl]) | (rw [Sum.elim_inr]) | (rw [f_X4_narrow]) | (rw [f_X4_narrow_b75]))) <;> (first | done | exact rfl | (simp (disch := omega) only [i10, i01, gO_s, bO_s, lt_e, Sum.elim_inl, Sum.elim_inr, nI_1, nI_add, nle, nlt, neq, neq0, neq1, nlt0, nle0, n0le, n0lt, nlt1, n1le, n7m, pk_mul, l2, l3, l4, l5, l6, l7, l8, l9, l10, l13, l16, l20, l26, l27, l32, l48, l57, l58, l60, l62, l70, l80, l90, l128, l140, l160, l420, l2000, l2001, bI_0, bI_1, bI_zz, bI_t, bI_f, zz_0, zz_1, ↓reduceIte, if_true, if_false, decide_true, decide_false, Bool.false_and, Bool.and_false, Bool.true_and, Bool.and_true, Bool.not_true, Bool.not_false, Bool.true_or, Bool.or_true, Bool.false_or, Bool.or_false, reduceCtorEq, Nat.reduceLeDiff, Nat.reduceEqDiff, Nat.reduceLT, Bool.true_eq_false, Bool.false_eq_true, eq_self, c1]; done) | (simp (disch := omega) only [i10, i01, gO_s, bO_s, lt_e, Sum.elim_inl, Sum.elim_inr, nI_1, nI_add, nle, nlt, neq, neq0, neq1, nlt0, nle0, n0le, n0lt, nlt1, n1le, n7m, pk_mul, l2, l3, l4, l5, l6, l7, l8, l9, l10, l13, l16, l20, l26, l27, l32, l48, l57, l58, l60, l62, l70, l80, l90, l128, l140, l160, l420, l2000, l2001, bI_0, bI_1, bI_zz, bI_t, bI_f, zz_0, zz_1, ↓reduceIte, if_true, if_false, decide_true, decide_false, Bool.false_and, Bool.and_false, Bool.true_and, Bool.and_true, Bool.not_true, Bool.not_false, Bool.true_or, Bool.or_true, Bool.false_or, Bool.or_false, reduceCtorEq, Nat.reduceLeDiff, Nat.reduceEqDiff, Nat.reduceLT, Bool.true_eq_false, Bool.false_eq_true, eq_self, c1]; exact rfl))
  · refine gc_fix (P := W) (fun a v ha hv e => ?_) (by rw [← w1 a ha]; exact e)
    have hb := (hB a v ha hv).1 (w3 a v ha hv e)
    refine ⟨hb, ?_⟩
    have h1 := w5 a ha
    rw [← h1, bt_bkV hv m (by omega), decide_eq_true (hBm a v hb)] at e
    rw [Bool.and_eq_true] at e
    simpa using e.2
  · rw [w1 a ha]; exact w4 a v ha hv e
end LEFTB
