/-! maps, node by node: all continuations of one that stands up to a node -/
def up (f : Nat → Nat) (a x : Nat) : Nat → Nat := fun b => if b < a then f b else if b = a then x else 0
abbrev Ch : Type := Nat → (Nat → Nat) → Nat → Bool
def LL (ch : Ch) (m : Nat) : Nat → Nat → (Nat → Nat) → List (Nat → Nat)
  | 0, _, f => [f]
  | k + 1, a, f => (List.range m).flatMap fun x => if ch a f x = true then LL ch m k (a + 1) (up f a x) else []
def LX (ch : Ch) (m k a : Nat) (f : Nat → Nat) (x : Nat) : List (Nat → Nat) := (List.range x).flatMap fun y => if ch a f y = true then LL ch m k (a + 1) (up f a y) else []
def Loc (ch : Ch) : Prop := ∀ a f g x, (∀ b, b < a → f b = g b) → ch a f x = ch a g x
def Can (a : Nat) (f : Nat → Nat) : Prop := ∀ b, a ≤ b → f b = 0
def f00 : Nat → Nat := fun _ => 0
theorem Can_0 : Can 0 f00 := fun _ _ => rfl
section MAPS
variable {ch : Ch} {m k a : Nat} {f g : Nat → Nat}
theorem up_lt {x b : Nat} (h : b < a) : up f a x b = f b := if_pos h
theorem up_at {x : Nat} : up f a x a = x := by unfold up; rw [if_neg (by omega), if_pos rfl]
theorem up_gt {x b : Nat} (h : a < b) : up f a x b = 0 := by unfold up; rw [if_neg (by omega), if_neg (by omega)]
theorem up_can {x : Nat} : Can (a + 1) (up f a x) := fun b hb => up_gt (by omega)
theorem up_cong {x : Nat} (h : ∀ b, b < a → f b = g b) : up f a x = up g a x := by
  funext b
  unfold up
  by_cases e : b < a
  · rw [if_pos e, if_pos e, h b e]
  · rw [if_neg e, if_neg e]
theorem up_eta (h : Can (a + 1) g) (h2 : ∀ b, b < a → f b = g b) : up f a (g a) = g := by
  funext b
  unfold up
  by_cases e : b < a
  · rw [if_pos e, h2 b e]
  · rw [if_neg e]
    by_cases e2 : b = a
    · rw [if_pos e2, e2]
    · rw [if_neg e2, h b (by omega)]
theorem LX_0 : LX ch m k a f 0 = [] := rfl
theorem LX_s (x : Nat) : LX ch m k a f (x + 1) = LX ch m k a f x ++ (if ch a f x = true then LL ch m k (a + 1) (up f a x) else []) := by
  unfold LX
  rw [List.range_succ, List.flatMap_append]
  congr 1
  simp only [List.flatMap_cons, List.flatMap_nil, List.append_nil]
theorem LX_t {x : Nat} (h : ch a f x = true) : LX ch m k a f (x + 1) = LX ch m k a f x ++ LL ch m k (a + 1) (up f a x) := by rw [LX_s, if_pos h]
theorem LX_f {x : Nat} (h : ch a f x = false) : LX ch m k a f (x + 1) = LX ch m k a f x := by rw [LX_s, if_neg (by rw [h]; exact Bool.false_ne_true), List.append_nil]
theorem LL_s : LL ch m (k + 1) a f = LX ch m k a f m := rfl
theorem LL_cong (hl : Loc ch) (h : ∀ b, b < a → f b = g b) (hk : k = 0 → f = g) : LL ch m k a f = LL ch m k a g := by
  cases k with
  | zero => rw [hk rfl]
  | succ k =>
    unfold LL
    congr 1
    funext x
    rw [hl a f g x h, up_cong h]
theorem LL_mem (hl : Loc ch) : ∀ {k a : Nat} {f : Nat → Nat}, Can a f → (g ∈ LL ch m k a f ↔ (∀ b, b < a → g b = f b) ∧ (∀ b, a ≤ b → b < a + k → g b < m ∧ ch b g (g b) = true) ∧ (∀ b, a + k ≤ b → g b = 0)) := by
  intro k
  induction k with
  | zero =>
    intro a f hc
    show g ∈ [f] ↔ _
    rw [List.mem_singleton]
    constructor
    · intro e; subst e; exact ⟨fun _ _ => rfl, fun b h1 h2 => by omega, fun b hb => hc b hb⟩
    · rintro ⟨h1, _, h3⟩
      funext b
      by_cases e : b < a
      · exact h1 b e
      · rw [h3 b (by omega), hc b (by omega)]
  | succ k ih =>
    intro a f hc
    unfold LL
    rw [List.mem_flatMap]
    constructor
    · rintro ⟨x, hx, h⟩
      rw [List.mem_range] at hx
      by_cases e : ch a f x = true
      · rw [if_pos e] at h
        obtain ⟨h1, h2, h3⟩ := (ih up_can).mp h
        have ga : g a = x := by rw [h1 a (by omega), up_at]
        have gb : ∀ b, b < a → g b = f b := fun b hb => by rw [h1 b (by omega), up_lt hb]
        refine ⟨gb, fun b hb hb2 => ?_, fun b hb => h3 b (by omega)⟩
        by_cases e2 : b = a
        · subst e2
          rw [ga, hl b g f x gb]
          exact ⟨hx, e⟩
        · exact h2 b (by omega) (by omega)
      · rw [if_neg e] at h; cases h
    · rintro ⟨h1, h2, h3⟩
      obtain ⟨h4, h5⟩ := h2 a (by omega) (by omega)
      refine ⟨g a, List.mem_range.mpr h4, ?_⟩
      rw [hl a g f (g a) h1] at h5
      rw [if_pos h5]
      refine (ih up_can).mpr ⟨fun b hb => ?_, fun b hb hb2 => h2 b (by omega) (by omega), fun b hb => h3 b (by omega)⟩
      by_cases e : b = a
      · rw [e, up_at]
      · rw [up_lt (by omega), h1 b (by omega)]
/-- what is asked of one at each place from a on -/
def allF (c : Nat → (Nat → Nat) → Bool) : Nat → Nat → (Nat → Nat) → Bool
  | _, 0, _ => true
  | a, k + 1, g => c a g && allF c (a + 1) k g
theorem allF_t {c : Nat → (Nat → Nat) → Bool} {g : Nat → Nat} : ∀ {k a : Nat}, allF c a k g = true ↔ ∀ b, a ≤ b → b < a + k → c b g = true := by
  intro k
  induction k with
  | zero => intro a; exact ⟨fun _ b h1 h2 => by omega, fun _ => rfl⟩
  | succ k ih =>
    intro a
    unfold allF
    rw [Bool.and_eq_true, ih]
    constructor
    · rintro ⟨h1, h2⟩ b hb hb2
      by_cases e : b = a
      · rw [e]; exact h1
      · exact h2 b (by omega) (by omega)
    · intro h
      exact ⟨h a (by omega) (by omega), fun b hb hb2 => h b (by omega) (by omega)⟩
def LocC (c : Nat → (Nat → Nat) → Bool) : Prop := ∀ a f g, (∀ b, b ≤ a → f b = g b) → c a f = c a g
theorem LL_filter {c : Nat → (Nat → Nat) → Bool} (hl : Loc ch) (hc : LocC c) : ∀ {k a : Nat} {f : Nat → Nat}, Can a f → LL (fun a f x => ch a f x && c a (up f a x)) m k a f = (LL ch m k a f).filter (allF c a k) := by
  intro k
  induction k with
  | zero => intro a f _; rfl
  | succ k ih =>
    intro a f _
    unfold LL
    rw [List.filter_flatMap]
    congr 1
    funext x
    by_cases e : ch a f x = true
    · rw [e, Bool.true_and, if_pos rfl]
      have key : ∀ g, g ∈ LL ch m k (a + 1) (up f a x) → allF c a (k + 1) g = (c a (up f a x) && allF c (a + 1) k g) := by
        intro g hg
        obtain ⟨h1, _, _⟩ := (LL_mem hl up_can).mp hg
        show (c a g && _) = _
        rw [hc a g (up f a x) (fun b hb => h1 b (by omega))]
      rw [List.filter_congr key]
      by_cases e2 : c a (up f a x) = true
      · rw [if_pos e2, ih up_can]
        apply List.filter_congr
        intro g _
        rw [e2, Bool.true_and]
      · rw [if_neg e2]
        symm
        rw [List.filter_eq_nil_iff]
        intro g _
        rw [Bool.not_eq_true] at e2
        rw [e2, Bool.false_and]
        exact Bool.false_ne_true
    · rw [if_neg (by rw [Bool.and_eq_true]; exact fun h => e h.1), if_neg e]
      rfl
theorem Loc_and {c : Nat → (Nat → Nat) → Bool} (hl : Loc ch) (hc : LocC c) : Loc (fun a f x => ch a f x && c a (up f a x)) := by
  intro a f g x h
  show (ch a f x && c a (up f a x)) = (ch a g x && c a (up g a x))
  rw [hl a f g x h, up_cong h]
theorem LL_ext {ch2 : Ch} (h : ∀ b f x, a ≤ b → b < a + k → x < m → ch b f x = ch2 b f x) : LL ch m k a f = LL ch2 m k a f := by
  induction k generalizing a f with
  | zero => rfl
  | succ k ih =>
    have e : ∀ x, x ≤ m → LX ch m k a f x = LX ch2 m k a f x := by
      intro x
      induction x with
      | zero => intro _; rfl
      | succ x ihx =>
        intro hx
        rw [LX_s, LX_s, ihx (by omega), h a f x (by omega) (by omega) (by omega), ih (fun b f x h1 h2 h3 => h b f x (by omega) (by omega) h3)]
    exact e m (Nat.le_refl m)
/-- lines to and from those ahead -/
def edg (E F : Nat → Nat → Bool) (f : Nat → Nat) (a x b : Nat) : Bool := (!(E a b) || F x (f b)) && (!(E b a) || F (f b) x)
def chB (E F M : Nat → Nat → Bool) : Ch := fun a f x => M a x && allN (edg E F f a x) a
theorem allN_c {p q : Nat → Bool} : ∀ {n : Nat}, (∀ k, k < n → p k = q k) → allN p n = allN q n := by
  intro n
  induction n with
  | zero => intro _; rfl
  | succ n ih => intro h; unfold allN; rw [ih (fun k hk => h k (by omega)), h n (by omega)]
theorem anyN_c {p q : Nat → Bool} : ∀ {n : Nat}, (∀ k, k < n → p k = q k) → anyN p n = anyN q n := by
  intro n
  induction n with
  | zero => intro _; rfl
  | succ n ih => intro h; unfold anyN; rw [ih (fun k hk => h k (by omega)), h n (by omega)]
theorem chB_loc (E F M : Nat → Nat → Bool) : Loc (chB E F M) := by
  intro a f g x h
  unfold chB
  congr 1
  apply allN_c
  intro b hb
  unfold edg
  rw [h b hb]
/-- those that nobody asks after count alike -/
theorem LL_ask {E F M : Nat → Nat → Bool} : ∀ {k a : Nat} {f g : Nat → Nat}, (∀ b, b < a → (∃ c, a ≤ c ∧ c < a + k ∧ (E b c = true ∨ E c b = true)) → f b = g b) → (LL (chB E F M) m k a f).length = (LL (chB E F M) m k a g).length := by
  intro k
  induction k with
  | zero => intro a f g _; rfl
  | succ k ih =>
    intro a f g h
    have hch : ∀ x, chB E F M a f x = chB E F M a g x := by
      intro x
      unfold chB
      congr 1
      apply allN_c
      intro b hb
      unfold edg
      cases e1 : E a b
      · cases e2 : E b a
        · rfl
        · rw [h b hb ⟨a, by omega, by omega, Or.inl e2⟩]
      · rw [h b hb ⟨a, by omega, by omega, Or.inr e1⟩]
    have e : ∀ x, (LX (chB E F M) m k a f x).length = (LX (chB E F M) m k a g x).length := by
      intro x
      induction x with
      | zero => rfl
      | succ x ihx =>
        rw [LX_s, LX_s, List.length_append, List.length_append, ihx, hch x]
        congr 1
        split
        · apply ih
          rintro b hb ⟨c, h1, h2, h3⟩
          by_cases e : b = a
          · rw [e, up_at, up_at]
          · rw [up_lt (by omega), up_lt (by omega)]
            exact h b (by omega) ⟨c, by omega, by omega, h3⟩
        · rfl
    exact e m
theorem LX_flat {c : Nat} (h : ∀ x, ch a f x = true → (LL ch m k (a + 1) (up f a x)).length = c) : ∀ x, (LX ch m k a f x).length = fb_ct (ch a f) x * c := by
  intro x
  induction x with
  | zero => rw [LX_0]; show 0 = 0 * c; rw [Nat.zero_mul]
  | succ x ih =>
    rw [LX_s, List.length_append, ih, fb_ct_succ]
    by_cases e : ch a f x = true
    · rw [if_pos e, if_pos e, h x e, Nat.add_mul, Nat.one_mul]
    · rw [if_neg e, if_neg e]; rfl
theorem LX_le {c : Nat} (h : ∀ x, x < m → ch a f x = true → (LL ch m k (a + 1) (up f a x)).length ≤ c) : ∀ x, x ≤ m → (LX ch m k a f x).length ≤ x * c := by
  intro x
  induction x with
  | zero => intro _; exact Nat.zero_le _
  | succ x ih =>
    intro hx
    rw [LX_s, List.length_append, Nat.add_mul, Nat.one_mul]
    have := ih (by omega)
    by_cases e : ch a f x = true
    · rw [if_pos e]
      have := h x (by omega) e
      omega
    · rw [if_neg e]
      show _ + 0 ≤ _
      omega
theorem LL_le : ∀ {k a : Nat} {f : Nat → Nat}, (LL ch m k a f).length ≤ m ^ k := by
  intro k
  induction k with
  | zero => intro a f; exact Nat.le_refl 1
  | succ k ih =>
    intro a f
    rw [Nat.pow_succ, Nat.mul_comm]
    exact LX_le (fun x _ _ => ih) m (Nat.le_refl m)
end MAPS
/-- tries till the first stands: how many, whether one does -/
def TX (g : Nat → Nat × Bool) (ch : Nat → Bool) : Nat → Nat × Bool
  | 0 => (0, false)
  | x + 1 => if (TX g ch x).2 = true then TX g ch x else if ch x = true then ((TX g ch x).1 + 1 + (g x).1, (g x).2) else TX g ch x
def TR (ch : Ch) (m : Nat) : Nat → Nat → (Nat → Nat) → Nat × Bool
  | 0, _, _ => (0, true)
  | k + 1, a, f => TX (fun x => TR ch m k (a + 1) (up f a x)) (ch a f) m
theorem TX_ok {ch : Ch} {m k a : Nat} {f : Nat → Nat} (h : ∀ x, (TR ch m k (a + 1) (up f a x)).2 = !(LL ch m k (a + 1) (up f a x)).isEmpty) : ∀ x, (TX (fun x => TR ch m k (a + 1) (up f a x)) (ch a f) x).2 = !(LX ch m k a f x).isEmpty := by
  intro x
  induction x with
  | zero => rfl
  | succ x ih =>
    unfold TX
    rw [LX_s]
    by_cases e : (TX (fun x => TR ch m k (a + 1) (up f a x)) (ch a f) x).2 = true
    · rw [if_pos e, e]
      rw [e] at ih
      cases hl : LX ch m k a f x with
      | nil => rw [hl] at ih; cases ih
      | cons y l => rfl
    · rw [if_neg e]
      rw [Bool.not_eq_true] at e
      rw [e] at ih
      cases hl : LX ch m k a f x with
      | cons y l => rw [hl] at ih; cases ih
      | nil =>
        by_cases e2 : ch a f x = true
        · rw [if_pos e2, if_pos e2, List.nil_append]; exact h x
        · rw [if_neg e2, if_neg e2, e]; rfl
theorem TR_ok {ch : Ch} {m : Nat} : ∀ {k a : Nat} {f : Nat → Nat}, (TR ch m k a f).2 = !(LL ch m k a f).isEmpty := by
  intro k
  induction k with
  | zero => intro a f; rfl
  | succ k ih => intro a f; exact TX_ok (fun x => ih) m
