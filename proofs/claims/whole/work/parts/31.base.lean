/-! sets of bits, evaluation of the functions over the heap, the two worlds as pairs -/
def bsN (p : Nat → Bool) : Nat → BitVec 32
  | 0 => 0
  | n + 1 => bsN p n ||| (if p n = true then BitVec.twoPow 32 n else 0)
def bs (p : Nat → Bool) : Int32 := Int32.ofBitVec (bsN p 32)
theorem bsN_at (p : Nat → Bool) : ∀ (n i : Nat), i < 32 → (bsN p n).getLsbD i = (decide (i < n) && p i) := by
  intro n
  induction n with
  | zero => intro i hi; simp [bsN]
  | succ n ih =>
    intro i hi
    unfold bsN
    rw [BitVec.getLsbD_or, ih i hi]
    by_cases hn : p n = true
    · rw [if_pos hn, BitVec.getLsbD_twoPow]
      by_cases h : n = i
      · subst h; simp [hn, hi]
      · have e : decide (i < n + 1) = decide (i < n) := by
          apply decide_eq_decide.mpr; omega
        simp [e, h]
    · rw [if_neg hn]
      by_cases h : n = i
      · subst h; simp [hn]
      · have e : decide (i < n + 1) = decide (i < n) := by
          apply decide_eq_decide.mpr; omega
        simp [e]
theorem bt_bs (p : Nat → Bool) {i : Nat} (hi : i < 32) : bt (bs p) i = p i := by
  show (bsN p 32).getLsbD i = _
  rw [bsN_at p 32 i hi]; simp [hi]
theorem bs_congr {p q : Nat → Bool} (h : ∀ i, i < 32 → p i = q i) : bs p = bs q := b_ext fun i hi => by rw [bt_bs p hi, bt_bs q hi, h i hi]
theorem bs_ext {x : Int32} {q : Nat → Bool} (h : ∀ i, i < 32 → bt x i = q i) : x = bs q := b_ext fun i hi => by rw [bt_bs q hi, h i hi]
theorem bs_bt (x : Int32) : bs (bt x) = x := (bs_ext fun _ _ => rfl).symm
theorem bs_and (p q : Nat → Bool) : bs p &&& bs q = bs (fun i => p i && q i) := bs_ext fun i hi => by rw [b_and, bt_bs p hi, bt_bs q hi]
theorem bs_or (p q : Nat → Bool) : bs p ||| bs q = bs (fun i => p i || q i) := bs_ext fun i hi => by rw [b_or, bt_bs p hi, bt_bs q hi]
theorem b_not (x : Int32) {i : Nat} (hi : i < 32) : bt (x ^^^ (-1)) i = !(bt x i) := by rw [b_xor, b_m1 i hi]; cases bt x i <;> rfl
theorem bs_not (p : Nat → Bool) : bs p ^^^ (-1) = bs (fun i => !(p i)) := bs_ext fun i hi => by rw [b_not _ hi, bt_bs p hi]
theorem b_one {a i : Nat} (ha : a < 32) (hi : i < 32) : bt ((1 : Int32) <<< (nI a &&& 31)) i = decide (i = a) := by
  rw [b_shl a ha _ hi]
  have e : ∀ j, j < 32 → bt 1 j = decide (j = 0) := by decide +kernel
  rw [e _ (by omega)]
  by_cases h : i = a
  · subst h; simp
  · by_cases h2 : a ≤ i
    · have : ¬ i - a = 0 := by omega
      simp [h, this]
    · simp [h, h2]
theorem bs_one {a : Nat} (ha : a < 32) : (1 : Int32) <<< (nI a &&& 31) = bs (fun i => decide (i = a)) := bs_ext fun _ hi => b_one ha hi
theorem b_all : ∀ n, n < 32 → ∀ i, i < 32 → bt (((1 : Int32) <<< (nI n &&& 31)) - 1) i = decide (i < n) := by decide +kernel
theorem bs_all {n : Nat} (hn : n < 32) : ((1 : Int32) <<< (nI n &&& 31)) - 1 = bs (fun i => decide (i < n)) := bs_ext fun i hi => b_all n hn i hi
theorem bs_0 : (0 : Int32) = bs (fun _ => false) := bs_ext fun i _ => b_0 i
theorem b_127 : ∀ i, i < 32 → bt 127 i = decide (i < 7) := by decide +kernel
theorem bs_127 : (127 : Int32) = bs (fun i => decide (i < 7)) := bs_ext fun i hi => b_127 i hi
theorem b_z {x : Int32} : x = 0 ↔ ∀ i, i < 32 → bt x i = false := ⟨fun h i _ => by rw [h, b_0], fun h => b_ext fun i hi => by rw [h i hi, b_0]⟩
theorem bs_z {p : Nat → Bool} : bs p = 0 ↔ ∀ i, i < 32 → p i = false := b_z.trans ⟨fun h i hi => by rw [← h i hi, bt_bs p hi], fun h i hi => by rw [bt_bs p hi, h i hi]⟩
theorem b_eq {x y : Int32} : x = y ↔ ∀ i, i < 32 → bt x i = bt y i := ⟨fun h _ _ => by rw [h], b_ext⟩
theorem bs_eq {p q : Nat → Bool} : bs p = bs q ↔ ∀ i, i < 32 → p i = q i := b_eq.trans ⟨fun h i hi => by have := h i hi; rwa [bt_bs p hi, bt_bs q hi] at this, fun h i hi => by rw [bt_bs p hi, bt_bs q hi, h i hi]⟩
theorem b_and1 (y : Int32) : y &&& 1 = if bt y 0 = true then 1 else 0 := by
  have e : ∀ j, j < 32 → bt 1 j = decide (j = 0) := by decide +kernel
  apply b_ext
  intro i hi
  rw [b_and, e i hi]
  by_cases h : i = 0
  · subst h
    cases hb : bt y 0
    · rw [if_neg (by simp), b_0]; simp
    · rw [if_pos rfl, e 0 hi]; simp
  · cases hb : bt y 0
    · rw [if_neg (by simp), b_0]; simp [h]
    · rw [if_pos rfl, e i hi]; simp [h]
theorem b_bit (x : Int32) {a : Nat} (ha : a < 32) : (x >>> (nI a &&& 31)) &&& 1 = if bt x a = true then 1 else 0 := by
  rw [b_and1, b_sshr a ha x (by omega)]
  simp [ha]
def bI (b : Bool) : Int32 := if b = true then 1 else 0
theorem bI_t : bI true = 1 := rfl
theorem bI_f : bI false = 0 := rfl
theorem bI_0 (b : Bool) : (bI b = 0) = (b = false) := by cases b <;> simp [bI]
theorem bI_1 (b : Bool) : (bI b = 1) = (b = true) := by cases b <;> simp [bI]
theorem bI_zz (b : Bool) : zz (bI b) = some () := by cases b <;> rfl
theorem bI_01 (b : Bool) : bI b = 0 ∨ bI b = 1 := by cases b <;> simp [bI]
theorem b_bI (x : Int32) {a : Nat} (ha : a < 32) : (x >>> (nI a &&& 31)) &&& 1 = bI (bt x a) := b_bit x ha
theorem zz_0 : zz 0 = some () := rfl
theorem zz_1 : zz 1 = some () := rfl
theorem i10 : ((1 : Int32) = 0) = False := eq_false (by decide)
theorem i01 : ((0 : Int32) = 1) = False := eq_false (by decide)
theorem gO_s {α β : Type} (a : α) (g : α → Option β) : gO (some a) g = g a := rfl
theorem bO_s {α β : Type} (a : α) (s : Hp) (g : α → Hp → Option (β × Hp)) : bO (some (a, s)) g = g a s := rfl
theorem lt_e {α β : Sort _} (a : α) (g : α → β) : lt' a g = g a := rfl
-- loops
theorem wh_inl {V X : Type} {f : V → Hp → Option ((V ⊕ X) × Hp)} {v v' : V} {σ σ' : Hp} (h : f v σ = some (.inl v', σ')) : wh f v σ = wh f v' σ' := by
  rw [wh_eq f v σ, h]; rfl
theorem wh_inr {V X : Type} {f : V → Hp → Option ((V ⊕ X) × Hp)} {v : V} {x : X} {σ σ' : Hp} (h : f v σ = some (.inr x, σ')) : wh f v σ = some (x, σ') := by
  rw [wh_eq f v σ, h]; rfl
theorem wh_tr {V X : Type} {f : V → Hp → Option ((V ⊕ X) × Hp)} (F : Nat → V) (S : Nat → Hp) : ∀ (n k : Nat), (∀ i, k ≤ i → i < k + n → f (F i) (S i) = some (.inl (F (i + 1)), S (i + 1))) → wh f (F k) (S k) = wh f (F (k + n)) (S (k + n)) := by
  intro n
  induction n with
  | zero => intro k _; rfl
  | succ n ih =>
    intro k h
    rw [wh_inl (h k (Nat.le_refl _) (by omega)), ih (k + 1) (fun i h1 h2 => h i (by omega) (by omega)), show k + 1 + n = k + (n + 1) by omega]
/-- a loop that counts, its values in closed form -/
theorem wh_cnt {V X : Type} {f : V → Hp → Option ((V ⊕ X) × Hp)} (n : Nat) (F : Nat → V) (S : Nat → Hp) {x : X} {σ' : Hp} (hs : ∀ i, i < n → f (F i) (S i) = some (.inl (F (i + 1)), S (i + 1))) (he : f (F n) (S n) = some (.inr x, σ')) : wh f (F 0) (S 0) = some (x, σ') := by
  rw [wh_tr F S n 0 (fun i _ h2 => hs i (by omega)), Nat.zero_add, wh_inr he]
/-- the same without a change of the heap -/
theorem wh_pure {V X : Type} {f : V → Hp → Option ((V ⊕ X) × Hp)} {σ : Hp} (n : Nat) (F : Nat → V) {x : X} (hs : ∀ i, i < n → f (F i) σ = some (.inl (F (i + 1)), σ)) (he : f (F n) σ = some (.inr x, σ)) : wh f (F 0) σ = some (x, σ) := wh_cnt n F (fun _ => σ) hs he
/-- a loop that counts, with what holds at each turn; it may end early -/
theorem wh_up {V X : Type} {f : V → Hp → Option ((V ⊕ X) × Hp)} (n : Nat) (I : Nat → V → Hp → Prop) {Q : X → Hp → Prop} (hs : ∀ k v σ, k < n → I k v σ → ∃ y σ', f v σ = some (y, σ') ∧ Sum.elim (fun v' => I (k + 1) v' σ') (fun x => Q x σ') y) (he : ∀ v σ, I n v σ → ∃ x σ', f v σ = some (.inr x, σ') ∧ Q x σ') : ∀ {k : Nat} {v : V} {σ : Hp}, k ≤ n → I k v σ → ∃ x σ', wh f v σ = some (x, σ') ∧ Q x σ' := by
  have main : ∀ (m k : Nat) (v : V) (σ : Hp), k + m = n → I k v σ → ∃ x σ', wh f v σ = some (x, σ') ∧ Q x σ' := by
    intro m
    induction m with
    | zero =>
      intro k v σ hk h
      have e : k = n := by omega
      subst e
      obtain ⟨x, σ', h1, h2⟩ := he v σ h
      exact ⟨x, σ', wh_inr h1, h2⟩
    | succ m ih =>
      intro k v σ hk h
      obtain ⟨y, σ', h1, h2⟩ := hs k v σ (by omega) h
      cases y with
      | inl v' =>
        obtain ⟨x, τ, h3, h4⟩ := ih (k + 1) v' σ' (by omega) h2
        exact ⟨x, τ, by rw [wh_inl h1, h3], h4⟩
      | inr x => exact ⟨x, σ', wh_inr h1, h2⟩
  intro k v σ hk h
  exact main (n - k) k v σ (by omega) h
/-- a loop with a measure -/
theorem wh_ms {V X : Type} {f : V → Hp → Option ((V ⊕ X) × Hp)} (I : Nat → V → Hp → Prop) {Q : X → Hp → Prop} (hs : ∀ k v σ, I k v σ → ∃ y σ', f v σ = some (y, σ') ∧ Sum.elim (fun v' => ∃ j, j < k ∧ I j v' σ') (fun x => Q x σ') y) : ∀ (k : Nat) {v : V} {σ : Hp}, I k v σ → ∃ x σ', wh f v σ = some (x, σ') ∧ Q x σ' := by
  intro k
  induction k using Nat.strongRecOn with
  | ind k ih =>
    intro v σ h
    obtain ⟨y, σ', h1, h2⟩ := hs k v σ h
    cases y with
    | inl v' =>
      obtain ⟨j, hj, h2⟩ := h2
      obtain ⟨x, τ, h3, h4⟩ := ih j hj h2
      exact ⟨x, τ, by rw [wh_inl h1, h3], h4⟩
    | inr x => exact ⟨x, σ', wh_inr h1, h2⟩
-- the heap
def st2 (s : Nat → Nat → Int32) (k j : Nat) (x : Int32) : Nat → Nat → Int32 := fun a b => if a = k then (if b = j then x else s a b) else s a b
theorem st2_s (s : Nat → Nat → Int32) (k j : Nat) (x : Int32) : st2 s k j x k j = x := by simp [st2]
theorem st2_n (s : Nat → Nat → Int32) {k j i : Nat} (x : Int32) (h : i ≠ j) : st2 s k j x k i = s k i := by simp [st2, h]
theorem st2_o (s : Nat → Nat → Int32) {k j a : Nat} (x : Int32) (h : a ≠ k) : st2 s k j x a = s a := by funext b; simp [st2, h]
theorem st2_k (s : Nat → Nat → Int32) (k j : Nat) (x : Int32) (i : Nat) : st2 s k j x k i = if i = j then x else s k i := by simp [st2]
theorem setI_e (s : Nat → Nat → Int32) (ρ : Nat → Nat → Option Nat) (k j : Nat) (x : Int32) : setI (s, ρ) k j x = (st2 s k j x, ρ) := rfl
theorem gI_ok {sh : List Shp} {c k j : Nat} {s : Nat → Nat → Int32} {ρ : Nat → Nat → Option Nat} (h : sh[k]? = some (.inl c)) : getI sh c k j (s, ρ) = some (s k j) := if_pos h
theorem pI_ok {sh : List Shp} {c k j : Nat} {x : Int32} {s : Nat → Nat → Int32} {ρ : Nat → Nat → Option Nat} (h : sh[k]? = some (.inl c)) : putI sh c k j x (s, ρ) = some (st2 s k j x, ρ) := if_pos h
theorem pZ_ok {sh : List Shp} {c k j : Nat} {x : Int32} {s : Nat → Nat → Int32} {ρ : Nat → Nat → Option Nat} (h : sh[k]? = some (.inl c)) (hx : x = 0 ∨ x = 1) : putZ sh c k j x (s, ρ) = some (st2 s k j x, ρ) := if_pos ⟨h, hx⟩
theorem gR_ok {sh : List Shp} {c k j r : Nat} {s : Nat → Nat → Int32} {ρ : Nat → Nat → Option Nat} (h : sh[k]? = some (.inl c)) (h2 : ρ k j = some r) : getR sh c k j (s, ρ) = some r := (if_pos h).trans h2
theorem pk_ok {sh : List Shp} {k c : Nat} (h : sh[k]? = some (.inl c)) : chk sh k c = some () := if_pos h
theorem ar_ok {sh : List Shp} {k t n : Nat} (h : sh[k]? = some (.inr (t, n))) : arrN sh t k = n := by
  unfold arrN; rw [h]; exact if_pos rfl
theorem al_ok {sh : List Shp} {k n : Nat} (h : sh[k]? = some (.inr (0, n))) : alen sh 0 k = some (nI n) := by
  unfold alen; rw [h]; exact if_pos rfl
theorem ld_ok {sh : List Shp} {k t n i : Nat} {s : Nat → Nat → Int32} {ρ : Nat → Nat → Option Nat} (h : sh[k]? = some (.inr (t, n))) (hi : i < n) (hn : n < 2147483648) : aldI sh t k (nI i) (s, ρ) = some (s k i) := by
  have e := nI_clamp (n := i) (by omega)
  unfold aldI
  rw [if_pos ⟨nI_pos (by omega), by rw [ar_ok h, e]; exact hi⟩, e]
theorem lR_ok {sh : List Shp} {k t n i : Nat} {s : Nat → Nat → Int32} {ρ : Nat → Nat → Option Nat} (h : sh[k]? = some (.inr (t, n))) (hi : i < n) (hn : n < 2147483648) : aldR sh t k (nI i) (s, ρ) = ρ k i := by
  have e := nI_clamp (n := i) (by omega)
  unfold aldR
  rw [if_pos ⟨nI_pos (by omega), by rw [ar_ok h, e]; exact hi⟩, e]
theorem st_ok {sh : List Shp} {k t n i : Nat} {x : Int32} {s : Nat → Nat → Int32} {ρ : Nat → Nat → Option Nat} (h : sh[k]? = some (.inr (t, n))) (hi : i < n) (hn : n < 2147483648) : astI sh t k (nI i) x (s, ρ) = some (st2 s k i (narT t x), ρ) := by
  have e := nI_clamp (n := i) (by omega)
  unfold astI
  rw [if_pos ⟨nI_pos (by omega), by rw [ar_ok h, e]; exact hi⟩, e]
  rfl
theorem st_ok0 {sh : List Shp} {k n i : Nat} {x : Int32} {s : Nat → Nat → Int32} {ρ : Nat → Nat → Option Nat} (h : sh[k]? = some (.inr (0, n))) (hi : i < n) (hn : n < 2147483648) : astI sh 0 k (nI i) x (s, ρ) = some (st2 s k i x, ρ) := st_ok h hi hn
/-- cells outside a list are as they were -/
def Fr (L : List Nat) (s s' : Nat → Nat → Int32) : Prop := ∀ k, k ∉ L → s' k = s k
theorem Fr_r (L : List Nat) (s : Nat → Nat → Int32) : Fr L s s := fun _ _ => rfl
theorem Fr_t {L : List Nat} {s t u : Nat → Nat → Int32} (h1 : Fr L s t) (h2 : Fr L t u) : Fr L s u := fun k hk => (h2 k hk).trans (h1 k hk)
theorem Fr_st {L : List Nat} {s t : Nat → Nat → Int32} {k j : Nat} {x : Int32} (h : Fr L s t) (hk : k ∈ L) : Fr L s (st2 t k j x) := fun a ha => by
  rw [st2_o t x (fun e => ha (by rw [e]; exact hk))]; exact h a ha
theorem Fr_m {L M : List Nat} {s t : Nat → Nat → Int32} (h : Fr L s t) (hs : ∀ k, k ∈ L → k ∈ M) : Fr M s t := fun k hk => h k (fun e => hk (hs k e))
-- the class's references
def rC (g h : Nat) : Nat → Nat → Option Nat := fun k j => match shC[k]? with
  | some (.inl 0) => [none, none, none, some 264, some 265, some 266][j]?.getD none
  | some (.inl 1) => if j = 1 then some (k + 1) else if j = 2 then some (k + 2) else none
  | some (.inl 2) => if j = 0 then some 246 else none
  | some (.inl 3) => [some 259, some 260, some 261, some 262][j]?.getD none
  | some (.inl 4) => [some g, some h, some 256, some 257][j]?.getD none
  | some (.inl 5) => if j = 0 then some (k + 1) else if j = 1 then some (k + 2) else if j = 2 then some (k + 3) else none
  | some (.inl 6) => [some 1, some 23, none, some 244, none, some 245, some 249, some 252, some 258, some 263, some 267, some 268, some 269][j]?.getD none
  | some (.inr (3, _)) => some (k + 3 + 3 * j)
  | some (.inr (4, _)) => some (24 + 22 * j)
  | _ => none
def rM : Nat → Nat → Option Nat := fun _ j => [some 1, some 2, some 3, some 4, some 5, some 6, none, none, none, some 7, some 8, none, none, none, none, none, some 9, some 10, some 11, none, none, some 12, some 13, some 14, none, some 15, some 16, none, none, some 17, some 18, none, none, none, none, some 19, some 20, some 21, some 22, some 23][j]?.getD none
def isN (r : Nat) : Prop := shC[r]? = some (.inl 1)
theorem isN_all : ∀ r, r < 270 → shC[r]? = some (.inl 1) → shC[r + 1]? = some (.inr (0, 27)) ∧ shC[r + 2]? = some (.inr (0, 27)) := by decide +kernel
theorem shC_len : shC.length = 270 := by decide +kernel
theorem isN_lt {r : Nat} (h : isN r) : r < 270 := by
  obtain ⟨h1, _⟩ := List.getElem?_eq_some_iff.mp h
  rw [shC_len] at h1
  exact h1
theorem isN_1 {r : Nat} (h : isN r) : shC[r + 1]? = some (.inr (0, 27)) := (isN_all r (isN_lt h) h).1
theorem isN_2 {r : Nat} (h : isN r) : shC[r + 2]? = some (.inr (0, 27)) := (isN_all r (isN_lt h) h).2
theorem rC_1 {r g h : Nat} (hr : isN r) : rC g h r 1 = some (r + 1) := by unfold rC; rw [hr]; rfl
theorem rC_2 {r g h : Nat} (hr : isN r) : rC g h r 2 = some (r + 2) := by unfold rC; rw [hr]; rfl
theorem bO_e {α β : Type} {x : Option (α × Hp)} {g : α → Hp → Option (β × Hp)} {a : α} {t : Hp} (h : x = some (a, t)) : bO x g = g a t := by rw [h]; rfl
theorem gO_e {α β : Type} {x : Option α} {a : α} {g : α → Option β} (h : x = some a) : gO x g = g a := by rw [h]; rfl
theorem nle {a b : Nat} (ha : a < 2147483648) (hb : b < 2147483648) : (nI a ≤ nI b) = (a ≤ b) := propext (nI_leI ha hb)
theorem nlt {a b : Nat} (ha : a < 2147483648) (hb : b < 2147483648) : (nI a < nI b) = (a < b) := propext (nI_ltI ha hb)
theorem neq {a b : Nat} (ha : a < 2147483648) (hb : b < 2147483648) : (nI a = nI b) = (a = b) := propext (nI_eq ha hb)
theorem neq0 {a : Nat} (ha : a < 2147483648) : (nI a = 0) = (a = 0) := propext (nI_eq (b := 0) ha (by omega))
theorem neq1 {a : Nat} (ha : a < 2147483648) : (nI a = 1) = (a = 1) := propext (nI_eq (b := 1) ha (by omega))
theorem nlt0 {a : Nat} (ha : a < 2147483648) : (nI a < 0) = False := eq_false (nI_pos ha)
theorem nle0 {a : Nat} (ha : a < 2147483648) : (nI a ≤ 0) = (a = 0) := (propext (nI_leI (b := 0) ha (by omega))).trans (propext (Nat.le_zero))
theorem n0le {a : Nat} (ha : a < 2147483648) : (0 ≤ nI a) = True := eq_true (nI_pos' ha)
theorem n0lt {a : Nat} (ha : a < 2147483648) : (0 < nI a) = (0 < a) := propext (nI_ltI (a := 0) (by omega) ha)
theorem nlt1 {a : Nat} (ha : a < 2147483648) : (nI a < 1) = (a < 1) := propext (nI_ltI (b := 1) ha (by omega))
theorem n1le {a : Nat} (ha : a < 2147483648) : (1 ≤ nI a) = (1 ≤ a) := propext (nI_leI (a := 1) (by omega) ha)
theorem n7m (d : Nat) : 7 * nI d = nI (7 * d) := pk_mul 7 d
theorem l2 : (2 : Int32) = nI 2 := rfl
theorem l3 : (3 : Int32) = nI 3 := rfl
theorem l4 : (4 : Int32) = nI 4 := rfl
theorem l5 : (5 : Int32) = nI 5 := rfl
theorem l6 : (6 : Int32) = nI 6 := rfl
theorem l7 : (7 : Int32) = nI 7 := rfl
theorem l8 : (8 : Int32) = nI 8 := rfl
theorem l9 : (9 : Int32) = nI 9 := rfl
theorem l10 : (10 : Int32) = nI 10 := rfl
theorem l13 : (13 : Int32) = nI 13 := rfl
theorem l16 : (16 : Int32) = nI 16 := rfl
theorem l20 : (20 : Int32) = nI 20 := rfl
theorem l26 : (26 : Int32) = nI 26 := rfl
theorem l27 : (27 : Int32) = nI 27 := rfl
theorem l32 : (32 : Int32) = nI 32 := rfl
theorem l48 : (48 : Int32) = nI 48 := rfl
theorem l57 : (57 : Int32) = nI 57 := rfl
theorem l58 : (58 : Int32) = nI 58 := rfl
theorem l60 : (60 : Int32) = nI 60 := rfl
theorem l62 : (62 : Int32) = nI 62 := rfl
theorem l70 : (70 : Int32) = nI 70 := rfl
theorem l80 : (80 : Int32) = nI 80 := rfl
theorem l90 : (90 : Int32) = nI 90 := rfl
theorem l128 : (128 : Int32) = nI 128 := rfl
theorem l140 : (140 : Int32) = nI 140 := rfl
theorem l160 : (160 : Int32) = nI 160 := rfl
theorem l420 : (420 : Int32) = nI 420 := rfl
theorem l2000 : (2000 : Int32) = nI 2000 := rfl
theorem l2001 : (2001 : Int32) = nI 2001 := rfl
def sumI (f : Nat → Int32) : Nat → Int32
  | 0 => 0
  | n + 1 => sumI f n + f n
def orI (f : Nat → Int32) : Nat → Int32
  | 0 => 0
  | n + 1 => orI f n ||| f n
theorem sumI_s (f : Nat → Int32) (n : Nat) : sumI f (n + 1) = sumI f n + f n := rfl
theorem orI_s (f : Nat → Int32) (n : Nat) : orI f (n + 1) = orI f n ||| f n := rfl
theorem sumI_c {f g : Nat → Int32} : ∀ {n : Nat}, (∀ k, k < n → f k = g k) → sumI f n = sumI g n := by
  intro n
  induction n with
  | zero => intro _; rfl
  | succ n ih => intro h; rw [sumI_s, sumI_s, ih (fun k hk => h k (by omega)), h n (by omega)]
theorem orI_c {f g : Nat → Int32} : ∀ {n : Nat}, (∀ k, k < n → f k = g k) → orI f n = orI g n := by
  intro n
  induction n with
  | zero => intro _; rfl
  | succ n ih => intro h; rw [orI_s, orI_s, ih (fun k hk => h k (by omega)), h n (by omega)]
theorem sumI_n (f : Nat → Nat) : ∀ n, sumI (fun k => nI (f k)) n = nI (fb_sm f n) := by
  intro n
  induction n with
  | zero => rfl
  | succ n ih => rw [sumI_s, ih, fb_sm_succ, nI_add]
def anyN (p : Nat → Bool) : Nat → Bool
  | 0 => false
  | n + 1 => anyN p n || p n
theorem anyN_t {p : Nat → Bool} : ∀ {n : Nat}, anyN p n = true ↔ ∃ k, k < n ∧ p k = true := by
  intro n
  induction n with
  | zero =>
    constructor
    · intro h; cases h
    · rintro ⟨k, hk, _⟩; omega
  | succ n ih =>
    unfold anyN
    rw [Bool.or_eq_true, ih]
    constructor
    · rintro (⟨k, hk, h⟩ | h)
      · exact ⟨k, by omega, h⟩
      · exact ⟨n, by omega, h⟩
    · rintro ⟨k, hk, h⟩
      by_cases e : k = n
      · subst e; exact Or.inr h
      · exact Or.inl ⟨k, by omega, h⟩
def allN (p : Nat → Bool) : Nat → Bool
  | 0 => true
  | n + 1 => allN p n && p n
theorem allN_t {p : Nat → Bool} : ∀ {n : Nat}, allN p n = true ↔ ∀ k, k < n → p k = true := by
  intro n
  induction n with
  | zero => exact ⟨fun _ k hk => by omega, fun _ => rfl⟩
  | succ n ih =>
    unfold allN
    rw [Bool.and_eq_true, ih]
    constructor
    · rintro ⟨h1, h2⟩ k hk
      by_cases e : k = n
      · subst e; exact h2
      · exact h1 k (by omega)
    · intro h
      exact ⟨fun k hk => h k (by omega), h n (by omega)⟩
theorem b_orI (f : Nat → Int32) (i : Nat) : ∀ n, bt (orI f n) i = anyN (fun a => bt (f a) i) n := by
  intro n
  induction n with
  | zero => exact b_0 i
  | succ n ih => rw [orI_s, b_or, ih]; rfl
def lo (k : Nat) (x : Int32) : Prop := ∀ i, k ≤ i → i < 32 → bt x i = false
def cI (x : Int32) : Nat := fb_ct (bt x) 7
theorem lo_7 {x : Int32} (h : lo 7 x) : ∃ k, k < 128 ∧ x = nI k := by
  obtain ⟨j, hj, e⟩ := pk_andE x (m := 127) 7 rfl
  refine ⟨j, hj, ?_⟩
  rw [← e]
  apply b_ext
  intro i hi
  rw [b_and, b_127 i hi]
  by_cases h7 : i < 7
  · simp [h7]
  · rw [h i (by omega) hi]; rfl
theorem s_bc {sh : List Shp} {x : Int32} (hx : lo 7 x) (σ : Hp) : f_J6_bitCount_0f7a4 sh x σ = some (nI (cI x), σ) := by
  obtain ⟨k, hk, e⟩ := lo_7 hx
  subst e
  have main : ∀ k, k < 128 → (fun x0 : Int32 => (fun t1 : Int32 => (fun t2 : Int32 => (fun t3 : Int32 => (fun t4 : Int32 => t4 &&& 63) ((t3 + (ushr' t3 8)) + (ushr' (t3 + (ushr' t3 8)) 16))) ((t2 + (ushr' t2 4)) &&& 252645135)) ((t1 &&& 858993459) + ((ushr' t1 2) &&& 858993459))) (x0 - ((ushr' x0 1) &&& 1431655765))) (nI k) = nI (cI (nI k)) := by decide +kernel
  exact congrArg (fun z => some (z, σ)) (main k hk)
def btI (v : Int32 × Int32) : Int32 × Int32 := (v.1 + 1, v.2 &&& (v.2 - 1))
def btn (x : Int32) : Nat → Int32 × Int32
  | 0 => (0, x)
  | n + 1 => btI (btn x n)
theorem s_bits {x : Int32} (hx : lo 7 x) (σ : Hp) : f_X7_bits x σ = some (nI (cI x), σ) := by
  obtain ⟨k, hk, e⟩ := lo_7 hx
  subst e
  have main : ∀ k, k < 128 → (∀ i, i < cI (nI k) → ¬ (btn (nI k) i).2 = 0) ∧ btn (nI k) (cI (nI k)) = (nI (cI (nI k)), 0) := by decide +kernel
  obtain ⟨h1, h2⟩ := main k hk
  have key := wh_pure (f := f_X7_bits_L4) (σ := σ) (cI (nI k)) (btn (nI k)) (x := nI (cI (nI k))) (fun i hi => by unfold f_X7_bits_L4; rw [if_neg (h1 i hi)]; rfl) (by unfold f_X7_bits_L4; rw [h2]; rfl)
  unfold f_X7_bits
  exact bO_e key
def lw (x : Int32) : Nat := if bt x 0 = true then 0 else if bt x 1 = true then 1 else if bt x 2 = true then 2 else if bt x 3 = true then 3 else if bt x 4 = true then 4 else if bt x 5 = true then 5 else 6
theorem lw_at {x : Int32} (hx : lo 7 x) (h0 : ¬ x = 0) : lw x < 7 ∧ bt x (lw x) = true ∧ ∀ i, i < lw x → bt x i = false := by
  obtain ⟨k, hk, e⟩ := lo_7 hx
  subst e
  have main : ∀ k, k < 128 → ¬ nI k = 0 → lw (nI k) < 7 ∧ bt (nI k) (lw (nI k)) = true ∧ ∀ i, i < lw (nI k) → bt (nI k) i = false := by decide +kernel
  exact main k hk h0
theorem b_dec {x : Int32} (hx : lo 7 x) (h0 : ¬ x = 0) : ∀ i, i < 32 → bt (x &&& (x - 1)) i = (bt x i && !(decide (i = lw x))) := by
  obtain ⟨k, hk, e⟩ := lo_7 hx
  subst e
  have main : ∀ k, k < 128 → ¬ nI k = 0 → ∀ i, i < 32 → bt (nI k &&& (nI k - 1)) i = (bt (nI k) i && !(decide (i = lw (nI k)))) := by decide +kernel
  exact main k hk h0
theorem b_low {x : Int32} (hx : lo 7 x) (h0 : ¬ x = 0) : ∀ i, i < 32 → bt (x &&& (-x)) i = decide (i = lw x) := by
  obtain ⟨k, hk, e⟩ := lo_7 hx
  subst e
  have main : ∀ k, k < 128 → ¬ nI k = 0 → ∀ i, i < 32 → bt (nI k &&& (-(nI k))) i = decide (i = lw (nI k)) := by decide +kernel
  exact main k hk h0
theorem s_lowest {x : Int32} (hx : lo 7 x) (h0 : ¬ x = 0) (σ : Hp) : f_X7_lowest x σ = some (nI (lw x), σ) := by
  obtain ⟨h1, h2, h3⟩ := lw_at hx h0
  have key := wh_pure (f := f_X7_lowest_L2 x) (σ := σ) (lw x) (fun i => nI i) (x := nI (lw x)) (fun i hi => by
    show f_X7_lowest_L2 x (nI i) σ = _
    unfold f_X7_lowest_L2
    rw [b_bI x (by omega), h3 i hi, bI_f, if_pos rfl, nI_1]) (by
    show f_X7_lowest_L2 x (nI (lw x)) σ = _
    unfold f_X7_lowest_L2
    rw [b_bI x (by omega), h2, bI_t]; rfl)
  unfold f_X7_lowest
  exact bO_e key
-- nets
def rT (E : Nat → Nat → Bool) (a : Nat) : Int32 := bs (E a)
def rF (E : Nat → Nat → Bool) (a : Nat) : Int32 := bs (fun b => E b a)
def NetC (s : Nat → Nat → Int32) (r n : Nat) (E : Nat → Nat → Bool) : Prop := s r 0 = nI n ∧ (∀ a, a < 27 → s (r + 1) a = rT E a) ∧ (∀ a, a < 27 → s (r + 2) a = rF E a)
def NetM (s : Nat → Nat → Int32) (d n : Nat) (E : Nat → Nat → Bool) : Prop := s 1 d = nI n ∧ (∀ a, a < n → s 2 (7 * d + a) = rT E a) ∧ (∀ a, a < n → s 3 (7 * d + a) = rF E a)
def Sup (n : Nat) (E : Nat → Nat → Bool) : Prop := ∀ a b, E a b = true → a < n ∧ b < n
theorem NetC_fr {L : List Nat} {s s' : Nat → Nat → Int32} {r n : Nat} {E : Nat → Nat → Bool} (h : NetC s r n E) (f : Fr L s s') (h0 : r ∉ L) (h1 : r + 1 ∉ L) (h2 : r + 2 ∉ L) : NetC s' r n E := by
  unfold NetC
  rw [f _ h0, f _ h1, f _ h2]
  exact h
theorem Sup_f {n a b : Nat} {E : Nat → Nat → Bool} (h : Sup n E) (hb : n ≤ a ∨ n ≤ b) : E a b = false := by
  cases e : E a b
  · rfl
  · have := h a b e; omega
theorem lo_T {n k a : Nat} {E : Nat → Nat → Bool} (h : Sup n E) (hk : n ≤ k) : lo k (rT E a) := fun i hi h2 => by
  unfold rT; rw [bt_bs _ h2]; exact Sup_f h (Or.inr (by omega))
theorem lo_F {n k a : Nat} {E : Nat → Nat → Bool} (h : Sup n E) (hk : n ≤ k) : lo k (rF E a) := fun i hi h2 => by
  unfold rF; rw [bt_bs _ h2]; exact Sup_f h (Or.inl (by omega))
theorem b_T (E : Nat → Nat → Bool) (a : Nat) {b : Nat} (hb : b < 32) : bt (rT E a) b = E a b := bt_bs _ hb
theorem b_F (E : Nat → Nat → Bool) (a : Nat) {b : Nat} (hb : b < 32) : bt (rF E a) b = E b a := bt_bs _ hb
section NETC
variable {r g h : Nat} {s : Nat → Nat → Int32}
theorem nc_n (hr : isN r) (j : Nat) : getI shC 1 r j (s, rC g h) = some (s r j) := gI_ok hr
theorem nc_p (hr : isN r) (j : Nat) (x : Int32) : putI shC 1 r j x (s, rC g h) = some (st2 s r j x, rC g h) := pI_ok hr
theorem nc_t (hr : isN r) : getR shC 1 r 1 (s, rC g h) = some (r + 1) := gR_ok hr (rC_1 hr)
theorem nc_f (hr : isN r) : getR shC 1 r 2 (s, rC g h) = some (r + 2) := gR_ok hr (rC_2 hr)
theorem nc_lt (hr : isN r) {a : Nat} (ha : a < 27) : aldI shC 0 (r + 1) (nI a) (s, rC g h) = some (s (r + 1) a) := ld_ok (isN_1 hr) ha (by omega)
theorem nc_lf (hr : isN r) {a : Nat} (ha : a < 27) : aldI shC 0 (r + 2) (nI a) (s, rC g h) = some (s (r + 2) a) := ld_ok (isN_2 hr) ha (by omega)
theorem nc_st (hr : isN r) {a : Nat} (ha : a < 27) (x : Int32) : astI shC 0 (r + 1) (nI a) x (s, rC g h) = some (st2 s (r + 1) a x, rC g h) := st_ok0 (isN_1 hr) ha (by omega)
theorem nc_sf (hr : isN r) {a : Nat} (ha : a < 27) (x : Int32) : astI shC 0 (r + 2) (nI a) x (s, rC g h) = some (st2 s (r + 2) a x, rC g h) := st_ok0 (isN_2 hr) ha (by omega)
theorem nc_k (hr : isN r) : chk shC r 1 = some () := pk_ok hr
theorem mI (j : Nat) : getI shM 7 0 j (s, rM) = some (s 0 j) := gI_ok (by decide)
theorem mp (j : Nat) (x : Int32) : putI shM 7 0 j x (s, rM) = some (st2 s 0 j x, rM) := pI_ok (by decide)
theorem mk : chk shM 0 7 = some () := pk_ok (by decide)
theorem mR0 : getR shM 7 0 0 (s, rM) = some 1 := gR_ok (by decide) rfl
theorem mR1 : getR shM 7 0 1 (s, rM) = some 2 := gR_ok (by decide) rfl
theorem mR2 : getR shM 7 0 2 (s, rM) = some 3 := gR_ok (by decide) rfl
theorem mR3 : getR shM 7 0 3 (s, rM) = some 4 := gR_ok (by decide) rfl
theorem mR4 : getR shM 7 0 4 (s, rM) = some 5 := gR_ok (by decide) rfl
theorem mR5 : getR shM 7 0 5 (s, rM) = some 6 := gR_ok (by decide) rfl
theorem mR9 : getR shM 7 0 9 (s, rM) = some 7 := gR_ok (by decide) rfl
theorem mR10 : getR shM 7 0 10 (s, rM) = some 8 := gR_ok (by decide) rfl
theorem mR16 : getR shM 7 0 16 (s, rM) = some 9 := gR_ok (by decide) rfl
theorem mR17 : getR shM 7 0 17 (s, rM) = some 10 := gR_ok (by decide) rfl
theorem mR18 : getR shM 7 0 18 (s, rM) = some 11 := gR_ok (by decide) rfl
theorem mR21 : getR shM 7 0 21 (s, rM) = some 12 := gR_ok (by decide) rfl
theorem mR22 : getR shM 7 0 22 (s, rM) = some 13 := gR_ok (by decide) rfl
theorem mR23 : getR shM 7 0 23 (s, rM) = some 14 := gR_ok (by decide) rfl
theorem mR25 : getR shM 7 0 25 (s, rM) = some 15 := gR_ok (by decide) rfl
theorem mR26 : getR shM 7 0 26 (s, rM) = some 16 := gR_ok (by decide) rfl
theorem mR29 : getR shM 7 0 29 (s, rM) = some 17 := gR_ok (by decide) rfl
theorem mR30 : getR shM 7 0 30 (s, rM) = some 18 := gR_ok (by decide) rfl
theorem mR35 : getR shM 7 0 35 (s, rM) = some 19 := gR_ok (by decide) rfl
theorem mR36 : getR shM 7 0 36 (s, rM) = some 20 := gR_ok (by decide) rfl
theorem mR37 : getR shM 7 0 37 (s, rM) = some 21 := gR_ok (by decide) rfl
theorem mR38 : getR shM 7 0 38 (s, rM) = some 22 := gR_ok (by decide) rfl
theorem mR39 : getR shM 7 0 39 (s, rM) = some 23 := gR_ok (by decide) rfl
theorem ml1 {i : Nat} (hi : i < 8) : aldI shM 0 1 (nI i) (s, rM) = some (s 1 i) := ld_ok (n := 8) (by decide) hi (by omega)
theorem ms1 {i : Nat} {x : Int32} (hi : i < 8) : astI shM 0 1 (nI i) x (s, rM) = some (st2 s 1 i x, rM) := st_ok0 (n := 8) (by decide) hi (by omega)
theorem ml2 {i : Nat} (hi : i < 56) : aldI shM 0 2 (nI i) (s, rM) = some (s 2 i) := ld_ok (n := 56) (by decide) hi (by omega)
theorem ms2 {i : Nat} {x : Int32} (hi : i < 56) : astI shM 0 2 (nI i) x (s, rM) = some (st2 s 2 i x, rM) := st_ok0 (n := 56) (by decide) hi (by omega)
theorem ml3 {i : Nat} (hi : i < 56) : aldI shM 0 3 (nI i) (s, rM) = some (s 3 i) := ld_ok (n := 56) (by decide) hi (by omega)
theorem ms3 {i : Nat} {x : Int32} (hi : i < 56) : astI shM 0 3 (nI i) x (s, rM) = some (st2 s 3 i x, rM) := st_ok0 (n := 56) (by decide) hi (by omega)
theorem ml4 {i : Nat} (hi : i < 7) : aldI shM 0 4 (nI i) (s, rM) = some (s 4 i) := ld_ok (n := 7) (by decide) hi (by omega)
theorem ms4 {i : Nat} {x : Int32} (hi : i < 7) : astI shM 0 4 (nI i) x (s, rM) = some (st2 s 4 i x, rM) := st_ok0 (n := 7) (by decide) hi (by omega)
theorem ml5 {i : Nat} (hi : i < 7) : aldI shM 0 5 (nI i) (s, rM) = some (s 5 i) := ld_ok (n := 7) (by decide) hi (by omega)
theorem ms5 {i : Nat} {x : Int32} (hi : i < 7) : astI shM 0 5 (nI i) x (s, rM) = some (st2 s 5 i x, rM) := st_ok0 (n := 7) (by decide) hi (by omega)
theorem ml6 {i : Nat} (hi : i < 160) : aldI shM 1 6 (nI i) (s, rM) = some (s 6 i) := ld_ok (n := 160) (by decide) hi (by omega)
theorem ms6 {i : Nat} {x : Int32} (hi : i < 160) : astI shM 1 6 (nI i) x (s, rM) = some (st2 s 6 i (narT 1 x), rM) := st_ok (n := 160) (by decide) hi (by omega)
theorem ml7 {i : Nat} (hi : i < 7) : aldI shM 0 7 (nI i) (s, rM) = some (s 7 i) := ld_ok (n := 7) (by decide) hi (by omega)
theorem ms7 {i : Nat} {x : Int32} (hi : i < 7) : astI shM 0 7 (nI i) x (s, rM) = some (st2 s 7 i x, rM) := st_ok0 (n := 7) (by decide) hi (by omega)
theorem ml8 {i : Nat} (hi : i < 7) : aldI shM 0 8 (nI i) (s, rM) = some (s 8 i) := ld_ok (n := 7) (by decide) hi (by omega)
theorem ms8 {i : Nat} {x : Int32} (hi : i < 7) : astI shM 0 8 (nI i) x (s, rM) = some (st2 s 8 i x, rM) := st_ok0 (n := 7) (by decide) hi (by omega)
theorem ml9 {i : Nat} (hi : i < 7) : aldI shM 0 9 (nI i) (s, rM) = some (s 9 i) := ld_ok (n := 7) (by decide) hi (by omega)
theorem ms9 {i : Nat} {x : Int32} (hi : i < 7) : astI shM 0 9 (nI i) x (s, rM) = some (st2 s 9 i x, rM) := st_ok0 (n := 7) (by decide) hi (by omega)
theorem ml10 {i : Nat} (hi : i < 7) : aldI shM 0 10 (nI i) (s, rM) = some (s 10 i) := ld_ok (n := 7) (by decide) hi (by omega)
theorem ms10 {i : Nat} {x : Int32} (hi : i < 7) : astI shM 0 10 (nI i) x (s, rM) = some (st2 s 10 i x, rM) := st_ok0 (n := 7) (by decide) hi (by omega)
theorem ml11 {i : Nat} (hi : i < 128) : aldI shM 2 11 (nI i) (s, rM) = some (s 11 i) := ld_ok (n := 128) (by decide) hi (by omega)
theorem ms11 {i : Nat} {x : Int32} (hi : i < 128) : astI shM 2 11 (nI i) x (s, rM) = some (st2 s 11 i (narT 2 x), rM) := st_ok (n := 128) (by decide) hi (by omega)
theorem ml12 {i : Nat} (hi : i < 2001) : aldI shM 0 12 (nI i) (s, rM) = some (s 12 i) := ld_ok (n := 2001) (by decide) hi (by omega)
theorem ms12 {i : Nat} {x : Int32} (hi : i < 2001) : astI shM 0 12 (nI i) x (s, rM) = some (st2 s 12 i x, rM) := st_ok0 (n := 2001) (by decide) hi (by omega)
theorem ml13 {i : Nat} (hi : i < 2000) : aldI shM 0 13 (nI i) (s, rM) = some (s 13 i) := ld_ok (n := 2000) (by decide) hi (by omega)
theorem ms13 {i : Nat} {x : Int32} (hi : i < 2000) : astI shM 0 13 (nI i) x (s, rM) = some (st2 s 13 i x, rM) := st_ok0 (n := 2000) (by decide) hi (by omega)
theorem ml14 {i : Nat} (hi : i < 2000) : aldI shM 0 14 (nI i) (s, rM) = some (s 14 i) := ld_ok (n := 2000) (by decide) hi (by omega)
theorem ms14 {i : Nat} {x : Int32} (hi : i < 2000) : astI shM 0 14 (nI i) x (s, rM) = some (st2 s 14 i x, rM) := st_ok0 (n := 2000) (by decide) hi (by omega)
theorem ml15 {i : Nat} (hi : i < 27) : aldI shM 0 15 (nI i) (s, rM) = some (s 15 i) := ld_ok (n := 27) (by decide) hi (by omega)
theorem ms15 {i : Nat} {x : Int32} (hi : i < 27) : astI shM 0 15 (nI i) x (s, rM) = some (st2 s 15 i x, rM) := st_ok0 (n := 27) (by decide) hi (by omega)
theorem ml16 {i : Nat} (hi : i < 27) : aldI shM 2 16 (nI i) (s, rM) = some (s 16 i) := ld_ok (n := 27) (by decide) hi (by omega)
theorem ms16 {i : Nat} {x : Int32} (hi : i < 27) : astI shM 2 16 (nI i) x (s, rM) = some (st2 s 16 i (narT 2 x), rM) := st_ok (n := 27) (by decide) hi (by omega)
theorem ml17 {i : Nat} (hi : i < 7) : aldI shM 0 17 (nI i) (s, rM) = some (s 17 i) := ld_ok (n := 7) (by decide) hi (by omega)
theorem ms17 {i : Nat} {x : Int32} (hi : i < 7) : astI shM 0 17 (nI i) x (s, rM) = some (st2 s 17 i x, rM) := st_ok0 (n := 7) (by decide) hi (by omega)
theorem ml18 {i : Nat} (hi : i < 7) : aldI shM 0 18 (nI i) (s, rM) = some (s 18 i) := ld_ok (n := 7) (by decide) hi (by omega)
theorem ms18 {i : Nat} {x : Int32} (hi : i < 7) : astI shM 0 18 (nI i) x (s, rM) = some (st2 s 18 i x, rM) := st_ok0 (n := 7) (by decide) hi (by omega)
theorem ml19 {i : Nat} (hi : i < 60) : aldI shM 0 19 (nI i) (s, rM) = some (s 19 i) := ld_ok (n := 60) (by decide) hi (by omega)
theorem ms19 {i : Nat} {x : Int32} (hi : i < 60) : astI shM 0 19 (nI i) x (s, rM) = some (st2 s 19 i x, rM) := st_ok0 (n := 60) (by decide) hi (by omega)
theorem ml20 {i : Nat} (hi : i < 420) : aldI shM 0 20 (nI i) (s, rM) = some (s 20 i) := ld_ok (n := 420) (by decide) hi (by omega)
theorem ms20 {i : Nat} {x : Int32} (hi : i < 420) : astI shM 0 20 (nI i) x (s, rM) = some (st2 s 20 i x, rM) := st_ok0 (n := 420) (by decide) hi (by omega)
theorem ml21 {i : Nat} (hi : i < 420) : aldI shM 0 21 (nI i) (s, rM) = some (s 21 i) := ld_ok (n := 420) (by decide) hi (by omega)
theorem ms21 {i : Nat} {x : Int32} (hi : i < 420) : astI shM 0 21 (nI i) x (s, rM) = some (st2 s 21 i x, rM) := st_ok0 (n := 420) (by decide) hi (by omega)
theorem ml22 {i : Nat} (hi : i < 70) : aldI shM 0 22 (nI i) (s, rM) = some (s 22 i) := ld_ok (n := 70) (by decide) hi (by omega)
theorem ms22 {i : Nat} {x : Int32} (hi : i < 70) : astI shM 0 22 (nI i) x (s, rM) = some (st2 s 22 i x, rM) := st_ok0 (n := 70) (by decide) hi (by omega)
theorem ml23 {i : Nat} (hi : i < 70) : aldI shM 0 23 (nI i) (s, rM) = some (s 23 i) := ld_ok (n := 70) (by decide) hi (by omega)
theorem ms23 {i : Nat} {x : Int32} (hi : i < 70) : astI shM 0 23 (nI i) x (s, rM) = some (st2 s 23 i x, rM) := st_ok0 (n := 70) (by decide) hi (by omega)
end NETC
