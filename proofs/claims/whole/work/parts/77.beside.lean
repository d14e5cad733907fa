/-! the crowd: which maps are beside one another -/
section BESIDE
variable {n m N i j p v : Nat} {Y : List (Nat → Nat)}
def yv (Y : List (Nat → Nat)) (i : Nat) : Nat → Nat := Y.getD i f00
def YY (n m : Nat) (Y : List (Nat → Nat)) : Prop := n ≤ 7 ∧ m ≤ 7 ∧ Y.length ≤ 2000 ∧ (∀ i, i < Y.length → (∀ b, b < n → yv Y i b < m) ∧ (∀ b, n ≤ b → yv Y i b = 0)) ∧ (∀ i j, i < j → j < Y.length → lexL (yv Y i) (yv Y j))
theorem yv_at {Y : List (Nat → Nat)} {i : Nat} (h : i < Y.length) : yv Y i ∈ Y := by
  unfold yv
  rw [List.getD_eq_getElem?_getD, List.getElem?_eq_getElem h]
  exact List.getElem_mem h
theorem YY_of {E F : Nat → Nat → Bool} {l : Nat → Nat → Bool} (hn : n ≤ 7) (hm : m ≤ 7) (hN : (Mp E F n m l).length ≤ 2000) : YY n m (Mp E F n m l) := by
  refine ⟨hn, hm, hN, fun i hi => ?_, fun i j hij hj => ?_⟩
  · have := Mp_mem.mp (yv_at hi)
    exact ⟨fun b hb => (this.1 b hb).1, this.2⟩
  · have h1 := List.pairwise_iff_getElem.mp (LL_lex (chB_loc E F _) (m := m) (k := n) (a := 0) (f := f00)) i j (Nat.lt_trans hij hj) hj hij
    have e1 : ∀ i, (h : i < (Mp E F n m l).length) → yv (Mp E F n m l) i = (Mp E F n m l)[i] := fun i h => by
      unfold yv
      rw [List.getD_eq_getElem?_getD, List.getElem?_eq_getElem h]
      rfl
    rw [e1 i (by omega), e1 j hj]
    exact h1
def kc (n : Nat) (Y : List (Nat → Nat)) (i : Nat) : Nat := kd (yv Y i) n
theorem p8b {k : Nat} (h : k ≤ 7) : 8 ^ k ≤ 2097152 := (by decide +kernel : ∀ k, k < 8 → 8 ^ k ≤ 2097152) k (by omega)
theorem kc_lt (hY : YY n m Y) (hi : i < Y.length) : kc n Y i < 2147483648 := by
  have h1 : kc n Y i < 8 ^ n := kd_lt fun b hb => by
    have := (hY.2.2.2.1 i hi).1 b hb
    have := hY.2.1
    omega
  have := p8b hY.1
  omega
theorem kc_mono (hY : YY n m Y) : ∀ i j, i < j → j < Y.length → kc n Y i < kc n Y j := fun i j hij hj => by
  obtain ⟨a, h1, h2⟩ := hY.2.2.2.2 i j hij hj
  have hb := hY.2.2.2.1 j hj
  have hi := hY.2.2.2.1 i (by omega)
  have ha : a < n := by
    cases Nat.lt_or_ge a n with
    | inl h => exact h
    | inr h => have := hb.2 a h; omega
  have h3 := kd_lex h1 h2 (n - (a + 1)) (fun b hb => by have := hi.1 b (by omega); have := hY.2.1; omega)
  rw [show a + 1 + (n - (a + 1)) = n by omega] at h3
  exact h3
theorem kc_inj (hY : YY n m Y) (hi : i < Y.length) (hj : j < Y.length) (h : kc n Y i = kc n Y j) : i = j := by
  have h1 := kc_mono hY i j
  have h2 := kc_mono hY j i
  omega
/-- the map j is the map i with another value v at the p-th node from the end -/
def nb (Y : List (Nat → Nat)) (n i p v j : Nat) : Bool := !decide (v = yv Y i (n - 1 - p)) && allN (fun b => decide (yv Y j b = setF (yv Y i) (n - 1 - p) v b)) n
theorem nb_t : nb Y n i p v j = true ↔ v ≠ yv Y i (n - 1 - p) ∧ ∀ b, b < n → yv Y j b = setF (yv Y i) (n - 1 - p) v b := by
  unfold nb
  rw [Bool.and_eq_true, allN_t, Bool.not_eq_true', decide_eq_false_iff_not]
  exact ⟨fun h => ⟨h.1, fun b hb => of_decide_eq_true (h.2 b hb)⟩, fun h => ⟨h.1, fun b hb => decide_eq_true (h.2 b hb)⟩⟩
theorem nb_kc (hY : YY n m Y) (hi : i < Y.length) (hj : j < Y.length) (hv : v < m) : (∀ b, b < n → yv Y j b = setF (yv Y i) (n - 1 - p) v b) ↔ kc n Y j = kd (setF (yv Y i) (n - 1 - p) v) n := by
  have hm := hY.2.1
  have x1 := hY.2.2.2.1 i hi
  have x2 := hY.2.2.2.1 j hj
  refine ⟨fun h => kd_c h, fun h => kd_inj (fun b hb => by have := x2.1 b hb; omega) (fun b hb => ?_) h⟩
  unfold setF
  split
  · omega
  · have := x1.1 b hb; omega
def dif (Y : List (Nat → Nat)) (i j : Nat) : Nat := fb_ct (fun a => !decide (yv Y i a = yv Y j a)) 7
def adj (Y : List (Nat → Nat)) (i j : Nat) : Prop := dif Y i j = 1
theorem dif_s : dif Y i j = dif Y j i := fb_ct_cong fun k _ => by rw [decide_eq_decide.mpr (show yv Y i k = yv Y j k ↔ yv Y j k = yv Y i k from ⟨Eq.symm, Eq.symm⟩)]
theorem adj_s (h : adj Y i j) : adj Y j i := dif_s.trans h
theorem adj_nb (hY : YY n m Y) (hi : i < Y.length) (hj : j < Y.length) : adj Y i j ↔ ∃ p, p < n ∧ ∃ v, v < m ∧ nb Y n i p v j = true := by
  have x1 := hY.2.2.2.1 i hi
  have x2 := hY.2.2.2.1 j hj
  have hn := hY.1
  constructor
  · intro h
    have h' : fb_ct (fun a => !decide (yv Y i a = yv Y j a)) 7 = 1 := h
    obtain ⟨a, ha, h2⟩ := fb_ct_pos.1 (show 0 < fb_ct (fun a => !decide (yv Y i a = yv Y j a)) 7 by omega)
    have h3 : ¬ yv Y i a = yv Y j a := by simpa using h2
    have han : a < n := by
      cases Nat.lt_or_ge a n with
      | inl h => exact h
      | inr h => exact absurd ((x1.2 a h).trans (x2.2 a h).symm) h3
    have h4 := fb_ct_upd (fun a => !decide (yv Y i a = yv Y j a)) false ha
    rw [if_pos h2, h', if_neg Bool.false_ne_true] at h4
    have h5 := fb_ct_zero.1 (show fb_ct (fun k => if k = a then false else !decide (yv Y i k = yv Y j k)) 7 = 0 by omega)
    refine ⟨n - 1 - a, by omega, yv Y j a, x2.1 a han, nb_t.2 ⟨?_, fun b hb => ?_⟩⟩
    · rw [show n - 1 - (n - 1 - a) = a by omega]
      exact fun e => h3 e.symm
    · rw [show n - 1 - (n - 1 - a) = a by omega]
      unfold setF
      by_cases c : b = a
      · rw [if_pos c, c]
      · rw [if_neg c]
        have h6 := h5 b (by omega)
        rw [if_neg c] at h6
        have : yv Y i b = yv Y j b := by simpa using h6
        exact this.symm
  · rintro ⟨p, hp, v, hv, h⟩
    obtain ⟨h1, h2⟩ := nb_t.1 h
    have h3 := fb_ct_upd (fun _ => false) true (show n - 1 - p < 7 by omega)
    rw [if_neg Bool.false_ne_true, if_pos rfl, fb_ct_zero.2 (fun _ _ => rfl)] at h3
    refine Eq.trans (fb_ct_cong fun b hb => ?_) h3
    by_cases c : b = n - 1 - p
    · have h4 := h2 b (by omega)
      unfold setF at h4
      rw [if_pos c] at h4
      rw [if_pos c, h4, c, decide_eq_false (fun e => h1 e.symm)]
      rfl
    · rw [if_neg c]
      by_cases d : b < n
      · have h4 := h2 b d
        unfold setF at h4
        rw [if_neg c] at h4
        rw [h4, decide_eq_true rfl]
        rfl
      · rw [x1.2 b (by omega), x2.2 b (by omega), decide_eq_true rfl]
        rfl
theorem nb_j (hY : YY n m Y) (hi : i < Y.length) (hj : j < Y.length) {j2 : Nat} (hj2 : j2 < Y.length) (hv : v < m) (h1 : nb Y n i p v j = true) (h2 : nb Y n i p v j2 = true) : j = j2 := kc_inj hY hj hj2 (((nb_kc hY hi hj hv).1 (nb_t.1 h1).2).trans ((nb_kc hY hi hj2 hv).1 (nb_t.1 h2).2).symm)
theorem nb_v {v2 : Nat} (hp : p < n) (h1 : nb Y n i p v j = true) (h2 : nb Y n i p v2 j = true) : v = v2 := by
  have a1 := (nb_t.1 h1).2 (n - 1 - p) (by omega)
  have a2 := (nb_t.1 h2).2 (n - 1 - p) (by omega)
  unfold setF at a1 a2
  rw [if_pos rfl] at a1 a2
  omega
theorem nb_p {p2 v2 : Nat} (hp : p < n) (hp2 : p2 < n) (h1 : nb Y n i p v j = true) (h2 : nb Y n i p2 v2 j = true) : p = p2 := by
  by_cases c : p = p2
  · exact c
  · exfalso
    have a1 := (nb_t.1 h1).2 (n - 1 - p) (by omega)
    have a2 := (nb_t.1 h2).2 (n - 1 - p) (by omega)
    unfold setF at a1 a2
    rw [if_pos rfl] at a1
    rw [if_neg (by omega)] at a2
    exact (nb_t.1 h1).1 (by omega)
theorem ct_one {P : Nat → Bool} : ∀ {N : Nat}, (∀ j j2, j < N → j2 < N → P j = true → P j2 = true → j = j2) → fb_ct P N = if anyN P N = true then 1 else 0 := by
  intro N
  induction N with
  | zero => intro _; rfl
  | succ N ih =>
    intro h
    rw [fb_ct_succ, ih (fun j j2 a b => h j j2 (by omega) (by omega))]
    show _ = if (anyN P N || P N) = true then 1 else 0
    cases c : P N
    · rw [Bool.or_false, if_neg Bool.false_ne_true]; rfl
    · rw [Bool.or_true, if_pos rfl]
      cases d : anyN P N
      · rfl
      · obtain ⟨k, hk, e⟩ := anyN_t.1 d
        have := h k N (by omega) (by omega) e c
        omega
theorem ct_swap {R : Nat → Nat → Bool} {N : Nat} : ∀ M, (∀ v j j2, v < M → j < N → j2 < N → R v j = true → R v j2 = true → j = j2) → (∀ v v2 j, v < M → v2 < M → j < N → R v j = true → R v2 j = true → v = v2) → fb_ct (fun j => anyN (fun v => R v j) M) N = fb_ct (fun v => anyN (R v) N) M := by
  intro M
  induction M with
  | zero => intro _ _; exact fb_ct_zero.2 fun _ _ => rfl
  | succ M ih =>
    intro h1 h2
    rw [fb_ct_succ, ← ih (fun v j j2 a b c => h1 v j j2 (by omega) b c) (fun v v2 j a b c => h2 v v2 j (by omega) (by omega) c), ← ct_one (fun j j2 a b => h1 M j j2 (by omega) a b), ← fb_ct_or]
    · rfl
    · rintro k hk ⟨a, b⟩
      obtain ⟨v, hv, e⟩ := anyN_t.1 a
      have := h2 v M k (by omega) (by omega) hk e b
      omega
theorem ct_sum {Q : Nat → Nat → Bool} {N : Nat} : ∀ n, (∀ p p2 j, p < n → p2 < n → j < N → Q p j = true → Q p2 j = true → p = p2) → fb_ct (fun j => anyN (fun p => Q p j) n) N = fb_sm (fun p => fb_ct (Q p) N) n := by
  intro n
  induction n with
  | zero => intro _; exact fb_ct_zero.2 fun _ _ => rfl
  | succ n ih =>
    intro h
    rw [fb_sm_succ, ← ih (fun p p2 j a b c => h p p2 j (by omega) (by omega) c), ← fb_ct_or]
    · rfl
    · rintro k hk ⟨a, b⟩
      obtain ⟨v, hv, e⟩ := anyN_t.1 a
      have := h v n k (by omega) (by omega) hk e b
      omega
/-- how many are beside the map i -/
def deg (Y : List (Nat → Nat)) (i : Nat) : Nat := fb_ct (fun j => decide (dif Y i j = 1)) Y.length
theorem deg_nb (hY : YY n m Y) (hi : i < Y.length) : deg Y i = fb_sm (fun p => fb_ct (fun v => anyN (nb Y n i p v) Y.length) m) n := by
  have e1 : deg Y i = fb_ct (fun j => anyN (fun p => anyN (fun v => nb Y n i p v j) m) n) Y.length := fb_ct_cong fun j hj => by
    rw [Bool.eq_iff_iff, decide_eq_true_iff, anyN_t]
    refine (adj_nb hY hi hj).trans ⟨fun ⟨p, hp, v, hv, e⟩ => ⟨p, hp, anyN_t.2 ⟨v, hv, e⟩⟩, fun ⟨p, hp, e⟩ => ?_⟩
    obtain ⟨v, hv, e⟩ := anyN_t.1 e
    exact ⟨p, hp, v, hv, e⟩
  rw [e1, ct_sum]
  · refine fb_sm_cong fun p hp => ?_
    exact ct_swap m (fun v j j2 hv hj hj2 a b => nb_j hY hi hj hj2 hv a b) (fun v v2 j _ _ _ a b => nb_v hp a b)
  · intro p p2 j hp hp2 hj a b
    obtain ⟨v, hv, a⟩ := anyN_t.1 a
    obtain ⟨v2, hv2, b⟩ := anyN_t.1 b
    exact nb_p hp hp2 a b
theorem deg_le : deg Y i ≤ Y.length := fb_ct_le _ _
end BESIDE
