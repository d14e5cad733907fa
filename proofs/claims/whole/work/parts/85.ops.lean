/-! operations: the places of the table, and the two lists -/
section OPS
variable {m w i j : Nat} {H : Nat → Nat → Bool} {T y : Nat → Nat}
def arw (w : Nat) : Nat := if w = 3 then 3 else 2
def Pw (m w : Nat) : Nat := if w = 3 then m * m * m else m * m
def fx (m w i : Nat) : Bool := if w = 3 then decide (i / m / m = i / m % m) || (decide (i / m / m = i % m) || decide (i / m % m = i % m)) else decide (0 < w) && decide (i / m = i % m)
def bv (m w i : Nat) : Nat := if w = 3 then (if i / m / m = i / m % m then i / m / m else i % m) else i / m
def mb (m w i x : Nat) : Bool := !fx m w i || decide (x = bv m w i)
def pl (m w i : Nat) : Nat := if w = 2 then (if i / m ≤ i % m then i / m * m - i / m * (i / m + 1) / 2 + i % m else i % m * m - i % m * (i % m + 1) / 2 + i / m) else i
def npw (m w : Nat) : Nat := if w = 2 then m * (m + 1) / 2 else Pw m w
def swp (m i : Nat) : Nat := m * (i % m) + i / m
def rp (m w p : Nat) : Nat := if w = 2 then (if p < m then p else if p + 1 < 2 * m then p + 1 else p + 3) else p
theorem d_pl : ∀ m, m < 4 → 1 ≤ m → ∀ w, w < 4 → ∀ i, i < Pw m w → pl m w i < npw m w := by decide +kernel
theorem d_rp1 : ∀ m, m < 4 → 1 ≤ m → ∀ w, w < 4 → ∀ p, p < npw m w → rp m w p < Pw m w ∧ pl m w (rp m w p) = p := by decide +kernel
theorem d_rp2 : ∀ m, m < 4 → 1 ≤ m → ∀ w, w < 4 → ∀ p, p < npw m w → (∀ i, i < rp m w p → pl m w i < p) := by
  intro m hm hm1 w hw p hp i hi
  by_cases c : w = 2
  · subst c
    exact (by decide +kernel : ∀ m, m < 4 → 1 ≤ m → ∀ p, p < npw m 2 → ∀ i, i < rp m 2 p → pl m 2 i < p) m hm hm1 p hp i hi
  · unfold rp at hi
    rw [if_neg c] at hi
    unfold pl
    rw [if_neg c]
    exact hi
theorem d_rp (m : Nat) (hm : m < 4) (hm1 : 1 ≤ m) (w : Nat) (hw : w < 4) (p : Nat) (hp : p < npw m w) : rp m w p < Pw m w ∧ pl m w (rp m w p) = p ∧ ∀ i, i < rp m w p → pl m w i < p := ⟨(d_rp1 m hm hm1 w hw p hp).1, (d_rp1 m hm hm1 w hw p hp).2, d_rp2 m hm hm1 w hw p hp⟩
theorem d_rr : ∀ m, m < 4 → 1 ≤ m → ∀ w, w < 4 → ∀ i, i < Pw m w → rp m w (pl m w i) = i ∨ (w = 2 ∧ rp m w (pl m w i) = swp m i) := by decide +kernel
theorem d_sw : ∀ m, m < 4 → 1 ≤ m → ∀ i, i < Pw m 2 → swp m i < Pw m 2 ∧ pl m 2 (swp m i) = pl m 2 i := by decide +kernel
theorem d_np : ∀ m, m < 4 → 1 ≤ m → ∀ w, w < 4 → 1 ≤ npw m w ∧ npw m w ≤ 27 ∧ 1 ≤ Pw m w ∧ Pw m w ≤ 27 := by decide +kernel
theorem d_bv : ∀ m, m < 4 → 1 ≤ m → ∀ w, w < 4 → ∀ i, i < Pw m w → bv m w i < m := by decide +kernel
def PL (c : Nat → Nat → Bool) (m : Nat) : Nat → Nat → Nat
  | 0, _ => 1
  | k + 1, a => fb_ct (c a) m * PL c m k (a + 1)
theorem PL_len {c : Nat → Nat → Bool} : ∀ (k a : Nat) (f : Nat → Nat), (LL (fun a _ x => c a x) m k a f).length = PL c m k a := by
  intro k
  induction k with
  | zero => intro a f; rfl
  | succ k ih =>
    intro a f
    exact LX_flat (ch := fun a _ x => c a x) (fun x _ => ih (a + 1) (up f a x)) m
theorem d_PL : ∀ m, m < 4 → ∀ w, w < 4 → PL (mb m w) m (Pw m w) 0 ≤ 19683 := by decide +kernel
def Jn (H : Nat → Nat → Bool) (m w i j : Nat) : Bool := allN (fun v => H (dg i m v) (dg j m v)) (arw w)
def kpB (H : Nat → Nat → Bool) (m w : Nat) (T : Nat → Nat) : Bool := allN (fun i => allN (fun j => !Jn H m w i j || H (T i) (T j)) (Pw m w)) (Pw m w)
def frB (m : Nat) (T : Nat → Nat) : Bool := allN (fun i => decide (T i = T (swp m i))) (Pw m 2)
def opB (H : Nat → Nat → Bool) (m w : Nat) (T : Nat → Nat) : Bool := kpB H m w T && (!decide (w = 2) || frB m T)
def chO (m w : Nat) : Ch := fun a _ x => mb m w a x
theorem chO_loc : Loc (chO m w) := fun _ _ _ _ _ => rfl
def LO (m w : Nat) : List (Nat → Nat) := LL (chO m w) m (Pw m w) 0 f00
theorem LO_len (hm : m ≤ 3) (hw : w < 4) : (LO m w).length ≤ 19683 := by
  have := d_PL m (by omega) w hw
  rw [← PL_len (Pw m w) 0 f00] at this
  exact this
theorem LO_mem : T ∈ LO m w ↔ (∀ b, b < Pw m w → T b < m ∧ mb m w b (T b) = true) ∧ ∀ b, Pw m w ≤ b → T b = 0 := by
  refine (LL_mem chO_loc Can_0).trans ⟨fun ⟨_, h2, h3⟩ => ⟨fun b hb => h2 b (Nat.zero_le _) (by omega), fun b hb => h3 b (by omega)⟩, fun ⟨h2, h3⟩ => ⟨fun b hb => absurd hb (Nat.not_lt_zero b), fun b _ hb => h2 b (by omega), fun b hb => h3 b (by omega)⟩⟩
def Wl (H : Nat → Nat → Bool) (m w p q i j : Nat) : Bool := Jn H m w i j && (decide (pl m w i = p) && decide (pl m w j = q))
def EOp (H : Nat → Nat → Bool) (m w k l p q : Nat) : Bool := anyN (fun i => anyN (Wl H m w p q i) (Pw m w)) k || anyN (Wl H m w p q k) l
def EO (H : Nat → Nat → Bool) (m w p q : Nat) : Bool := anyN (fun i => anyN (Wl H m w p q i) (Pw m w)) (Pw m w)
def lO (m w p x : Nat) : Bool := allN (fun i => !decide (pl m w i = p) || mb m w i x) (Pw m w)
theorem Wl_t {p q : Nat} : Wl H m w p q i j = true ↔ Jn H m w i j = true ∧ pl m w i = p ∧ pl m w j = q := by
  unfold Wl
  rw [Bool.and_eq_true, Bool.and_eq_true, decide_eq_true_iff, decide_eq_true_iff]
theorem EO_t {p q : Nat} : EO H m w p q = true ↔ ∃ i j, i < Pw m w ∧ j < Pw m w ∧ Jn H m w i j = true ∧ pl m w i = p ∧ pl m w j = q := by
  unfold EO
  rw [anyN_t]
  constructor
  · rintro ⟨i, hi, h⟩
    obtain ⟨j, hj, h⟩ := anyN_t.1 h
    exact ⟨i, j, hi, hj, Wl_t.1 h⟩
  · rintro ⟨i, j, hi, hj, h⟩
    exact ⟨i, hi, anyN_t.2 ⟨j, hj, Wl_t.2 h⟩⟩
theorem EO_sup (hm1 : 1 ≤ m) (hm : m ≤ 3) (hw : w < 4) : Sup (npw m w) (EO H m w) := fun p q h => by
  obtain ⟨i, j, hi, hj, _, rfl, rfl⟩ := EO_t.1 h
  exact ⟨d_pl m (by omega) hm1 w hw i hi, d_pl m (by omega) hm1 w hw j hj⟩
theorem lO_t {p x : Nat} : lO m w p x = true ↔ ∀ i, i < Pw m w → pl m w i = p → mb m w i x = true := by
  unfold lO
  rw [allN_t]
  constructor
  · intro h i hi e
    have := h i hi
    rw [decide_eq_true e] at this
    exact this
  · intro h i hi
    by_cases e : pl m w i = p
    · rw [h i hi e, Bool.or_true]
    · rw [decide_eq_false e]; rfl
theorem kpB_t : kpB H m w T = true ↔ ∀ i j, i < Pw m w → j < Pw m w → Jn H m w i j = true → H (T i) (T j) = true := by
  unfold kpB
  rw [allN_t]
  constructor
  · intro h i j hi hj e
    have := allN_t.1 (h i hi) j hj
    rw [e] at this
    exact this
  · intro h i hi
    refine allN_t.2 fun j hj => ?_
    cases e : Jn H m w i j
    · rfl
    · exact h i j hi hj e
/-- a map of the places, as a table -/
def Fi (m w : Nat) (y : Nat → Nat) : Nat → Nat := fun i => if i < Pw m w then y (pl m w i) else 0
theorem ops_eq (hm1 : 1 ≤ m) (hm : m ≤ 3) (hw : w < 4) (hS : Sup m H) : (LO m w).filter (opB H m w) = (Mp (EO H m w) H (npw m w) m (lO m w)).map (Fi m w) := by
  have hS2 := EO_sup (H := H) hm1 hm hw
  have hpl := d_pl m (by omega) hm1 w hw
  have hrp := d_rp m (by omega) hm1 w hw
  have hrr := d_rr m (by omega) hm1 w hw
  refine ord_ext (R := lexL) lex_irr (fun _ _ _ => lex_tr) _ _ ((LL_lex chO_loc).filter _) (List.pairwise_map.mpr ?_) fun T => ?_
  · refine List.Pairwise.imp_of_mem ?_ (LL_lex (chB_loc _ _ _))
    rintro y y2 hy hy2 ⟨p, h1, h2⟩
    have z1 := (Mp_is hS2 hS).1 hy
    have z2 := (Mp_is hS2 hS).1 hy2
    have hp : p < npw m w := by
      cases Nat.lt_or_ge p (npw m w) with
      | inl h => exact h
      | inr h => rw [z1.2.2 p h, z2.2.2 p h] at h2; omega
    obtain ⟨r1, r2, r3⟩ := hrp p hp
    refine ⟨rp m w p, fun b hb => ?_, ?_⟩
    · show (if b < Pw m w then y (pl m w b) else 0) = if b < Pw m w then y2 (pl m w b) else 0
      rw [if_pos (by omega), if_pos (by omega)]
      exact h1 _ (r3 b hb)
    · show (if rp m w p < Pw m w then y (pl m w (rp m w p)) else 0) < if rp m w p < Pw m w then y2 (pl m w (rp m w p)) else 0
      rw [if_pos r1, if_pos r1, r2]
      exact h2
  · rw [List.mem_filter, List.mem_map, LO_mem]
    constructor
    · rintro ⟨⟨h1, h2⟩, h3⟩
      unfold opB at h3
      rw [Bool.and_eq_true] at h3
      obtain ⟨h3, h4⟩ := h3
      have hT : ∀ i, i < Pw m w → T (rp m w (pl m w i)) = T i := fun i hi => by
        rcases hrr i hi with e | ⟨rfl, e⟩
        · rw [e]
        · rw [e]
          have h5 : frB m T = true := h4
          exact (of_decide_eq_true (allN_t.1 h5 i hi)).symm
      refine ⟨fun p => if p < npw m w then T (rp m w p) else 0, (Mp_is hS2 hS).2 ⟨fun p hp => ?_, fun p q hpq => ?_, fun b hb => if_neg (by omega)⟩, ?_⟩
      · rw [if_pos hp]
        refine ⟨(h1 _ (hrp p hp).1).1, lO_t.2 fun i hi e => ?_⟩
        rw [← e, hT i hi]
        exact (h1 i hi).2
      · obtain ⟨i, j, hi, hj, h5, rfl, rfl⟩ := EO_t.1 hpq
        rw [if_pos (hpl i hi), if_pos (hpl j hj), hT i hi, hT j hj]
        exact kpB_t.1 h3 i j hi hj h5
      · funext i
        show (if i < Pw m w then (if pl m w i < npw m w then T (rp m w (pl m w i)) else 0) else 0) = T i
        by_cases c : i < Pw m w
        · rw [if_pos c, if_pos (hpl i c), hT i c]
        · rw [if_neg c, h2 i (by omega)]
    · rintro ⟨y, hy, rfl⟩
      have z1 := (Mp_is hS2 hS).1 hy
      have e1 : ∀ i, i < Pw m w → Fi m w y i = y (pl m w i) := fun i hi => if_pos hi
      refine ⟨⟨fun b hb => ?_, fun b hb => if_neg (by omega)⟩, ?_⟩
      · rw [e1 b hb]
        exact ⟨(z1.1 _ (hpl b hb)).1, lO_t.1 (z1.1 _ (hpl b hb)).2 b hb rfl⟩
      · unfold opB
        rw [Bool.and_eq_true]
        refine ⟨kpB_t.2 fun i j hi hj h5 => ?_, ?_⟩
        · rw [e1 i hi, e1 j hj]
          exact z1.2.1 _ _ (EO_t.2 ⟨i, j, hi, hj, h5, rfl, rfl⟩)
        · by_cases c : w = 2
          · subst c
            show frB m (Fi m 2 y) = true
            refine allN_t.2 fun i hi => decide_eq_true ?_
            obtain ⟨s1, s2⟩ := d_sw m (by omega) hm1 i hi
            rw [e1 i hi, e1 _ s1, s2]
          · rw [decide_eq_false c]; rfl
theorem ops_len (hm1 : 1 ≤ m) (hm : m ≤ 3) (hw : w < 4) (hS : Sup m H) : (Mp (EO H m w) H (npw m w) m (lO m w)).length ≤ 19683 := by
  have h1 := congrArg List.length (ops_eq hm1 hm hw hS)
  rw [List.length_map] at h1
  rw [← h1]
  exact Nat.le_trans (List.length_filter_le _ _) (LO_len hm hw)
/-- the least value that a place may have -/
def lv (m w b : Nat) : Nat := if fx m w b = true then bv m w b else 0
def y0O (m w : Nat) : Nat → Nat := fun b => if b < Pw m w then lv m w b else 0
theorem lv_ok (hm1 : 1 ≤ m) (hm : m ≤ 3) (hw : w < 4) {b : Nat} (hb : b < Pw m w) : lv m w b < m ∧ mb m w b (lv m w b) = true := by
  unfold lv mb
  cases c : fx m w b
  · exact ⟨by show 0 < m; omega, rfl⟩
  · exact ⟨d_bv m (by omega) hm1 w hw b hb, decide_eq_true rfl⟩
theorem lv_le {b x : Nat} (h : mb m w b x = true) : lv m w b ≤ x := by
  unfold mb at h
  unfold lv
  cases c : fx m w b
  · exact Nat.zero_le _
  · rw [c] at h
    have : x = bv m w b := of_decide_eq_true h
    rw [if_pos rfl, this]
    exact Nat.le_refl _
theorem fst_ne {f g : Nat → Nat} : ∀ N, (∀ b, b < N → f b = g b) ∨ ∃ a, a < N ∧ (∀ b, b < a → f b = g b) ∧ f a ≠ g a := by
  intro N
  induction N with
  | zero => exact Or.inl fun b hb => absurd hb (Nat.not_lt_zero b)
  | succ N ih =>
    rcases ih with h | ⟨a, h1, h2, h3⟩
    · by_cases c : f N = g N
      · refine Or.inl fun b hb => ?_
        by_cases e : b = N
        · rw [e]; exact c
        · exact h b (by omega)
      · exact Or.inr ⟨N, by omega, h, c⟩
    · exact Or.inr ⟨a, by omega, h2, h3⟩
theorem le_lex {f g : Nat → Nat} (h : ∀ b, f b ≤ g b) (N : Nat) (h2 : ∀ b, N ≤ b → f b = g b) : g = f ∨ lexL f g := by
  rcases fst_ne (f := f) (g := g) N with h3 | ⟨a, h3, h4, h5⟩
  · refine Or.inl (funext fun b => ?_)
    by_cases c : b < N
    · exact (h3 b c).symm
    · exact (h2 b (by omega)).symm
  · exact Or.inr ⟨a, h4, by have := h a; omega⟩
theorem y0_mem (hm1 : 1 ≤ m) (hm : m ≤ 3) (hw : w < 4) : y0O m w ∈ LO m w := LO_mem.2 ⟨fun b hb => by unfold y0O; rw [if_pos hb]; exact lv_ok hm1 hm hw hb, fun b hb => if_neg (by omega)⟩
theorem y0_first (hz : T ∈ LO m w) : T = y0O m w ∨ lexL (y0O m w) T := by
  obtain ⟨h1, h2⟩ := LO_mem.1 hz
  refine le_lex (fun b => ?_) (Pw m w) (fun b hb => ?_)
  · unfold y0O
    by_cases c : b < Pw m w
    · rw [if_pos c]; exact lv_le (h1 b c).2
    · rw [if_neg c]; exact Nat.zero_le _
  · unfold y0O
    rw [if_neg (by omega), h2 b hb]
/-- the table after y, when v is the last place that may rise -/
def upO (m w : Nat) (y : Nat → Nat) (v : Nat) : Nat → Nat := fun b => if b < v then y b else if b = v then y v + 1 else if b < Pw m w then lv m w b else 0
theorem upO_ok (hm1 : 1 ≤ m) (hm : m ≤ 3) (hw : w < 4) (hy : y ∈ LO m w) {v : Nat} (hv : v < Pw m w) (hf : fx m w v = false) (hv2 : y v + 1 < m) (hmax : ∀ b, v < b → b < Pw m w → fx m w b = true ∨ y b + 1 = m) : upO m w y v ∈ LO m w ∧ lexL y (upO m w y v) ∧ ∀ z, z ∈ LO m w → lexL y z → z = upO m w y v ∨ lexL (upO m w y v) z := by
  obtain ⟨h1, h2⟩ := LO_mem.1 hy
  have u1 : ∀ b, b < v → upO m w y v b = y b := fun b hb => if_pos hb
  have u2 : upO m w y v v = y v + 1 := (if_neg (Nat.lt_irrefl v)).trans (if_pos rfl)
  have u3 : ∀ b, v < b → b < Pw m w → upO m w y v b = lv m w b := fun b hb hb2 => (if_neg (by omega)).trans ((if_neg (by omega)).trans (if_pos hb2))
  have u4 : ∀ b, v < b → Pw m w ≤ b → upO m w y v b = 0 := fun b hb hb2 => (if_neg (by omega)).trans ((if_neg (by omega)).trans (if_neg (by omega)))
  refine ⟨LO_mem.2 ⟨fun b hb => ?_, fun b hb => u4 b (by omega) hb⟩, ⟨v, fun b hb => (u1 b hb).symm, by rw [u2]; omega⟩, fun z hz hyz => ?_⟩
  · by_cases c : b < v
    · rw [u1 b c]; exact h1 b hb
    · by_cases d : b = v
      · subst d
        rw [u2]
        exact ⟨hv2, by unfold mb; rw [hf]; rfl⟩
      · rw [u3 b (by omega) hb]; exact lv_ok hm1 hm hw hb
  · obtain ⟨z1, z2⟩ := LO_mem.1 hz
    obtain ⟨a, a1, a2⟩ := hyz
    have haP : a < Pw m w := by
      cases Nat.lt_or_ge a (Pw m w) with
      | inl h => exact h
      | inr h => rw [h2 a h, z2 a h] at a2; omega
    by_cases c : v < a
    · exfalso
      rcases hmax a c haP with e | e
      · have e1 := (h1 a haP).2
        have e2 := (z1 a haP).2
        unfold mb at e1 e2
        rw [e] at e1 e2
        have e1 : y a = bv m w a := of_decide_eq_true e1
        have e2 : z a = bv m w a := of_decide_eq_true e2
        omega
      · have := (z1 a haP).1; omega
    · by_cases d : a < v
      · exact Or.inr ⟨a, fun b hb => by rw [u1 b (by omega)]; exact a1 b hb, by rw [u1 a d]; exact a2⟩
      · have ea : a = v := by omega
        subst ea
        by_cases e : y a + 1 = z a
        · refine le_lex (fun b => ?_) (Pw m w) (fun b hb => ?_)
          · by_cases b1 : b < a
            · rw [u1 b b1, a1 b b1]; exact Nat.le_refl _
            · by_cases b2 : b = a
              · rw [b2, u2]; omega
              · by_cases b3 : b < Pw m w
                · rw [u3 b (by omega) b3]; exact lv_le (z1 b b3).2
                · rw [u4 b (by omega) (by omega)]; exact Nat.zero_le _
          · rw [u4 b (by omega) hb, z2 b hb]
        · exact Or.inr ⟨a, fun b hb => by rw [u1 b hb]; exact a1 b hb, by rw [u2]; omega⟩
theorem max_last (hy : y ∈ LO m w) (hmax : ∀ b, b < Pw m w → fx m w b = true ∨ y b + 1 = m) : ∀ z, z ∈ LO m w → ¬ lexL y z := by
  rintro z hz ⟨a, a1, a2⟩
  obtain ⟨h1, h2⟩ := LO_mem.1 hy
  obtain ⟨z1, z2⟩ := LO_mem.1 hz
  have haP : a < Pw m w := by
    cases Nat.lt_or_ge a (Pw m w) with
    | inl h => exact h
    | inr h => rw [h2 a h, z2 a h] at a2; omega
  rcases hmax a haP with e | e
  · have e1 := (h1 a haP).2
    have e2 := (z1 a haP).2
    unfold mb at e1 e2
    rw [e] at e1 e2
    have e1 : y a = bv m w a := of_decide_eq_true e1
    have e2 : z a = bv m w a := of_decide_eq_true e2
    omega
  · have := (z1 a haP).1; omega
theorem pw_lt {L : List (Nat → Nat)} (hL : L.Pairwise lexL) {a b : Nat} {x z : Nat → Nat} (ha : L[a]? = some x) (hb : L[b]? = some z) (h : a < b) : lexL x z := by
  obtain ⟨h1, e1⟩ := List.getElem?_eq_some_iff.mp ha
  obtain ⟨h2, e2⟩ := List.getElem?_eq_some_iff.mp hb
  have := List.pairwise_iff_getElem.mp hL a b h1 h2 h
  rw [e1, e2] at this
  exact this
theorem next_at {L : List (Nat → Nat)} (hL : L.Pairwise lexL) {c : Nat} {y z : Nat → Nat} (hc : L[c]? = some y) (hz : z ∈ L) (h1 : lexL y z) (h2 : ∀ x, x ∈ L → lexL y x → x = z ∨ lexL z x) : L[c + 1]? = some z := by
  obtain ⟨d, hd⟩ := List.mem_iff_getElem?.mp hz
  have hcd : c < d := by
    rcases Nat.lt_trichotomy c d with h | h | h
    · exact h
    · rw [h, hd] at hc
      injection hc with hc
      rw [hc] at h1; exact absurd h1 (lex_irr _)
    · exact absurd (lex_tr h1 (pw_lt hL hd hc h)) (lex_irr _)
  by_cases e : d = c + 1
  · rw [← e]; exact hd
  · exfalso
    have hlt : c + 1 < L.length := by
      have := (List.getElem?_eq_some_iff.mp hd).1
      omega
    have hx : L[c + 1]? = some L[c + 1] := List.getElem?_eq_getElem hlt
    have k1 := pw_lt hL hc hx (by omega)
    have k2 := pw_lt hL hx hd (by omega)
    rcases h2 _ (List.getElem_mem hlt) k1 with e | e
    · rw [e] at k2; exact lex_irr _ k2
    · exact lex_irr _ (lex_tr k2 e)
theorem last_at {L : List (Nat → Nat)} (hL : L.Pairwise lexL) {c : Nat} {y : Nat → Nat} (hc : L[c]? = some y) (h2 : ∀ x, x ∈ L → ¬ lexL y x) : c + 1 = L.length := by
  have h1 := (List.getElem?_eq_some_iff.mp hc).1
  by_cases e : c + 1 = L.length
  · exact e
  · exfalso
    have hlt : c + 1 < L.length := by omega
    exact h2 _ (List.getElem_mem hlt) (pw_lt hL hc (List.getElem?_eq_getElem hlt) (by omega))
theorem first_at {L : List (Nat → Nat)} (hL : L.Pairwise lexL) {y : Nat → Nat} (hy : y ∈ L) (h2 : ∀ x, x ∈ L → x = y ∨ lexL y x) : L[0]? = some y := by
  obtain ⟨d, hd⟩ := List.mem_iff_getElem?.mp hy
  cases d with
  | zero => exact hd
  | succ d =>
    exfalso
    have hlt : 0 < L.length := by
      have := (List.getElem?_eq_some_iff.mp hd).1
      omega
    have k := pw_lt hL (List.getElem?_eq_getElem hlt) hd (by omega)
    rcases h2 _ (List.getElem_mem hlt) with e | e
    · rw [e] at k; exact lex_irr _ k
    · exact lex_irr _ (lex_tr k e)
end OPS
