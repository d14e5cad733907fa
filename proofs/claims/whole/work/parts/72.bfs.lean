/-! from one map to those beside it, step by step, whatever the order of neighbours -/
section BFS
variable {N st k len len2 : Nat} {adj : Nat → Nat → Prop} {V0 : Nat → Prop} {qf qf2 fr fr2 : Nat → Nat}
def BF (N st : Nat) (adj : Nat → Nat → Prop) (V0 : Nat → Prop) (qf : Nat → Nat) (len : Nat) (fr : Nat → Nat) (k : Nat) : Prop :=
  (∀ a, a < len → qf a < N ∧ ¬ V0 (qf a)) ∧ (∀ a b, a < len → b < len → qf a = qf b → a = b) ∧ (0 < len ∧ qf 0 = st ∧ fr st = 0) ∧
  (∀ a, a < len → a = 0 ∨ ∃ c, c < len ∧ adj (qf c) (qf a) ∧ fr (qf a) = fr (qf c) + 1) ∧ (∀ a b, a ≤ b → b < len → fr (qf a) ≤ fr (qf b)) ∧
  (k < len → ∀ a, a < len → fr (qf a) ≤ fr (qf k) + 1) ∧ (∀ a, a < k → a < len → ∀ j, j < N → adj (qf a) j → ∃ b, b < len ∧ qf b = j ∧ fr j ≤ fr (qf a) + 1)
def inQ (qf : Nat → Nat) (len j : Nat) : Prop := ∃ a, a < len ∧ qf a = j
def upF (f : Nat → Nat) (i x : Nat) : Nat → Nat := fun j => if j = i then x else f j
theorem upF_s {f : Nat → Nat} {i x : Nat} : upF f i x i = x := if_pos rfl
theorem upF_n {f : Nat → Nat} {i x j : Nat} (h : j ≠ i) : upF f i x j = f j := if_neg h
theorem BF_0 (hst : st < N) (hV : ¬ V0 st) (h0 : qf 0 = st) (hf : fr st = 0) : BF N st adj V0 qf 1 fr 0 := by
  have e : ∀ a, a < 1 → a = 0 := fun a h => by omega
  refine ⟨fun a h => ?_, fun a b h1 h2 _ => by omega, ⟨by omega, h0, hf⟩, fun a h => Or.inl (e a h), fun a b h1 h2 => ?_, fun _ a h => ?_, fun a h => by omega⟩
  · rw [e a h, h0]; exact ⟨hst, hV⟩
  · rw [show a = b by omega]; exact Nat.le_refl _
  · rw [e a h]; omega
theorem BF_add {j : Nat} (h : BF N st adj V0 qf len fr k) (hk : k < len) (hj : j < N) (hV : ¬ V0 j) (hq : ¬ inQ qf len j) (ha : adj (qf k) j) : BF N st adj V0 (upF qf len j) (len + 1) (upF fr j (fr (qf k) + 1)) k := by
  obtain ⟨b1, b2, ⟨b3, b31, b32⟩, b4, b5, b6, b7⟩ := h
  have q0 : ∀ a, a < len → upF qf len j a = qf a := fun a h => upF_n (by omega)
  have f0 : ∀ a, a < len → upF fr j (fr (qf k) + 1) (qf a) = fr (qf a) := fun a h => upF_n (fun e => hq ⟨a, h, e⟩)
  have ql : upF qf len j len = j := upF_s
  have fl : upF fr j (fr (qf k) + 1) j = fr (qf k) + 1 := upF_s
  refine ⟨fun a h => ?_, fun a b h1 h2 e => ?_, ⟨by omega, ?_, ?_⟩, fun a h => ?_, fun a b h1 h2 => ?_, fun _ a h => ?_, fun a h1 h2 j2 hj2 had => ?_⟩
  · by_cases c : a < len
    · rw [q0 a c]; exact b1 a c
    · rw [show a = len by omega, ql]; exact ⟨hj, hV⟩
  · by_cases c : a < len
    · by_cases d : b < len
      · rw [q0 a c, q0 b d] at e; exact b2 a b c d e
      · rw [q0 a c, show b = len by omega, ql] at e
        exact absurd ⟨a, c, e⟩ hq
    · by_cases d : b < len
      · rw [q0 b d, show a = len by omega, ql] at e
        exact absurd ⟨b, d, e.symm⟩ hq
      · omega
  · rw [q0 0 b3]; exact b31
  · rw [← b31, f0 0 b3, b31]; exact b32
  · by_cases c : a < len
    · rw [q0 a c, f0 a c]
      rcases b4 a c with d | ⟨c2, d1, d2, d3⟩
      · exact Or.inl d
      · exact Or.inr ⟨c2, by omega, by rw [q0 c2 d1]; exact d2, by rw [q0 c2 d1, f0 c2 d1]; exact d3⟩
    · rw [show a = len by omega, ql, fl]
      exact Or.inr ⟨k, by omega, by rw [q0 k hk]; exact ha, by rw [q0 k hk, f0 k hk]⟩
  · by_cases d : b < len
    · rw [q0 a (by omega), q0 b d, f0 a (by omega), f0 b d]; exact b5 a b h1 d
    · rw [show b = len by omega, ql, fl]
      by_cases c : a < len
      · rw [q0 a c, f0 a c]; exact b6 hk a c
      · rw [show a = len by omega, ql, fl]; exact Nat.le_refl _
  · rw [q0 k hk, f0 k hk]
    by_cases c : a < len
    · rw [q0 a c, f0 a c]; exact b6 hk a c
    · rw [show a = len by omega, ql, fl]; exact Nat.le_refl _
  · have h3 : a < len := by omega
    rw [q0 a h3] at had
    obtain ⟨b, x1, x2, x3⟩ := b7 a h1 h3 j2 hj2 had
    refine ⟨b, by omega, by rw [q0 b x1]; exact x2, ?_⟩
    rw [q0 a h3, f0 a h3, ← x2, f0 b x1, x2]; exact x3
theorem BF_next (h : BF N st adj V0 qf len fr k) (hk : k < len) (hall : ∀ j, j < N → adj (qf k) j → inQ qf len j) : BF N st adj V0 qf len fr (k + 1) := by
  obtain ⟨b1, b2, b3, b4, b5, b6, b7⟩ := h
  refine ⟨b1, b2, b3, b4, b5, fun h a ha => ?_, fun a h1 h2 j hj had => ?_⟩
  · have := b6 hk a ha
    have := b5 k (k + 1) (by omega) h
    omega
  · by_cases c : a < k
    · exact b7 a c h2 j hj had
    · have e : a = k := by omega
      subst e
      obtain ⟨b, x1, x2⟩ := hall j hj had
      exact ⟨b, x1, x2, by rw [← x2]; exact b6 hk b x1⟩
theorem BF_cnt (h : BF N st adj V0 qf len fr k) : fb_ct (fun j => anyN (fun a => decide (qf a = j)) len) N = len := by
  have main : ∀ l, l ≤ len → fb_ct (fun j => anyN (fun a => decide (qf a = j)) l) N = l := by
    intro l
    induction l with
    | zero =>
      intro _
      exact fb_ct_zero.2 fun k _ => rfl
    | succ l ih =>
      intro hl
      have h1 := fb_ct_upd (fun j => anyN (fun a => decide (qf a = j)) l) true (h.1 l (by omega)).1
      have h2 : anyN (fun a => decide (qf a = qf l)) l = false := by
        cases e : anyN (fun a => decide (qf a = qf l)) l
        · rfl
        · obtain ⟨a, ha, h3⟩ := anyN_t.1 e
          have := h.2.1 a l (by omega) (by omega) (of_decide_eq_true h3)
          omega
      rw [ih (by omega), h2, if_pos rfl, if_neg Bool.false_ne_true] at h1
      refine Eq.trans (fb_ct_cong fun j _ => ?_) h1
      show (anyN (fun a => decide (qf a = j)) l || decide (qf l = j)) = _
      by_cases c : j = qf l
      · rw [if_pos c, decide_eq_true c.symm, Bool.or_true]
      · rw [if_neg c, decide_eq_false (fun e => c e.symm), Bool.or_false]
  exact main len (Nat.le_refl _)
theorem BF_len (h : BF N st adj V0 qf len fr k) : len ≤ N := by
  have h1 := fb_ct_le (fun j => anyN (fun a => decide (qf a = j)) len) N
  rw [BF_cnt h] at h1
  exact h1
/-- half of it: what one order reaches, the other reaches no later -/
theorem BF_le (h : BF N st adj V0 qf len fr len) (h2 : BF N st adj V0 qf2 len2 fr2 len2) : ∀ d a, a < len2 → fr2 (qf2 a) = d → inQ qf len (qf2 a) ∧ fr (qf2 a) ≤ d := by
  obtain ⟨b1, b2, ⟨b3, b31, b32⟩, b4, b5, b6, b7⟩ := h
  obtain ⟨c1, c2, ⟨c3, c31, c32⟩, c4, c5, c6, c7⟩ := h2
  intro d
  induction d using Nat.strongRecOn with
  | ind d ih =>
    intro a ha hd
    rcases c4 a ha with e | ⟨c, x1, x2, x3⟩
    · rw [e, c31]
      exact ⟨⟨0, b3, b31⟩, by rw [b32]; exact Nat.zero_le _⟩
    · obtain ⟨⟨a2, y1, y2⟩, y3⟩ := ih (fr2 (qf2 c)) (by omega) c x1 rfl
      rw [← y2] at x2 y3
      obtain ⟨b, z1, z2, z3⟩ := b7 a2 y1 y1 (qf2 a) (c1 a ha).1 x2
      exact ⟨⟨b, z1, z2⟩, by rw [y2] at y3 z3; omega⟩
theorem BF_eq (h : BF N st adj V0 qf len fr len) (h2 : BF N st adj V0 qf2 len2 fr2 len2) : (∀ j, inQ qf len j ↔ inQ qf2 len2 j) ∧ (∀ j, inQ qf len j → fr j = fr2 j) ∧ len = len2 := by
  have e1 : ∀ j, inQ qf len j ↔ inQ qf2 len2 j := fun j => ⟨fun ⟨a, ha, e⟩ => by rw [← e]; exact (BF_le h2 h _ a ha rfl).1, fun ⟨a, ha, e⟩ => by rw [← e]; exact (BF_le h h2 _ a ha rfl).1⟩
  refine ⟨e1, fun j hj => ?_, ?_⟩
  · obtain ⟨a, ha, e⟩ := hj
    obtain ⟨b, hb, e'⟩ := (e1 j).1 ⟨a, ha, e⟩
    have x1 := (BF_le h2 h _ a ha rfl).2
    have x2 := (BF_le h h2 _ b hb rfl).2
    rw [e] at x1
    rw [e'] at x2
    omega
  · rw [← BF_cnt h, ← BF_cnt h2]
    refine fb_ct_cong fun j _ => ?_
    have h3 : (anyN (fun a => decide (qf a = j)) len = true) ↔ (anyN (fun a => decide (qf2 a = j)) len2 = true) := by
      rw [anyN_t, anyN_t]
      constructor
      · rintro ⟨a, ha, e⟩
        obtain ⟨b, hb, e'⟩ := (e1 j).1 ⟨a, ha, of_decide_eq_true e⟩
        exact ⟨b, hb, decide_eq_true e'⟩
      · rintro ⟨a, ha, e⟩
        obtain ⟨b, hb, e'⟩ := (e1 j).2 ⟨a, ha, of_decide_eq_true e⟩
        exact ⟨b, hb, decide_eq_true e'⟩
    cases c1 : anyN (fun a => decide (qf a = j)) len
    · cases c2 : anyN (fun a => decide (qf2 a = j)) len2
      · rfl
      · rw [h3.2 c2] at c1; cases c1
    · rw [h3.1 c1]
/-- what is reached holds all that is beside it -/
theorem BF_shut (h : BF N st adj V0 qf len fr len) {i j : Nat} (hi : inQ qf len i) (hj : j < N) (ha : adj i j) : inQ qf len j := by
  obtain ⟨a, ha1, e⟩ := hi
  rw [← e] at ha
  obtain ⟨b, x1, x2, _⟩ := h.2.2.2.2.2.2 a ha1 ha1 j hj ha
  exact ⟨b, x1, x2⟩
end BFS
