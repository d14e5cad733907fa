/-! THE FRAME: a heap as two functions (ints, references) over numbered cells; WW: the machine at a place of a method, with the world as such a heap; rows over WW. -/
abbrev Hp : Type := (Nat → Nat → Int32) × (Nat → Nat → Option Nat)
abbrev Shp : Type := Nat ⊕ (Nat × Nat)
def tysOf (dA : Nat → ClassId) : List (ClassId × FieldType) := [(dA 0, .int), (dA 1, .byte), (dA 2, .boolean), (dA 3, .object RX1), (dA 4, .object RX5)]
def frefs : List (List Bool) := [[false, false, false, true, true, true, false], [false, true, true], [true, false, false, false], [true, true, true, true, false], [true, true, true, true, false, false, false, false, false], [true, true, true], [true, true, false, true, false, true, true, true, true, true, true, true, true], [true, true, true, true, true, true, false, false, false, true, true, false, false, false, false, false, true, true, true, false, false, true, true, true, false, true, true, false, false, true, true, false, false, false, false, true, true, true, true, true]]
def fref (c j : Nat) : Bool := (frefs.getD c []).getD j false
def nFld (c : Nat) : Nat := (vwCl[c]?).elim 0 (fun q => q.2.2)
def fval (ad : Nat → Nat) (σ : Hp) (c k j : Nat) : Value := if fref c j = true then va_rf ((σ.2 k j).map ad) else .int (σ.1 k j)
def cellE (dA : Nat → ClassId) (ad : Nat → Nat) (σ : Hp) (k : Nat) (q : Shp) : va_E := match q with
  | .inl c => .inr (c, (List.range (nFld c)).map (fval ad σ c k))
  | .inr (t, n) => .inl (dA t, n, if t < 3 then .inl (σ.1 k) else .inr (.inr (.inr (.inr (fun j => (σ.2 k j).map ad)))))
def wsOf (dA : Nat → ClassId) (ad : Nat → Nat) (sh : List Shp) (σ : Hp) : va_W := sh.mapIdx (fun k q => (ad k, cellE dA ad σ k q))
def setI (σ : Hp) (k j : Nat) (x : Int32) : Hp := (fun a b => if a = k then (if b = j then x else σ.1 a b) else σ.1 a b, σ.2)
def setR (σ : Hp) (k j : Nat) (x : Nat) : Hp := (σ.1, fun a b => if a = k then (if b = j then some x else σ.2 a b) else σ.2 a b)
theorem ws_get {dA : Nat → ClassId} {ad : Nat → Nat} {sh : List Shp} {σ : Hp} {k : Nat} {q : Shp} (h : sh[k]? = some q) : (wsOf dA ad sh σ)[k]? = some (ad k, cellE dA ad σ k q) := by
  unfold wsOf
  rw [List.getElem?_mapIdx, h]
  rfl
theorem cellE_at {dA : Nat → ClassId} {ad : Nat → Nat} {σ τ : Hp} {k : Nat} (q : Shp) (h1 : σ.1 k = τ.1 k) (h2 : σ.2 k = τ.2 k) : cellE dA ad σ k q = cellE dA ad τ k q := by
  unfold cellE fval
  rw [h1, h2]
theorem ws_set {dA : Nat → ClassId} {ad : Nat → Nat} {sh : List Shp} {σ τ : Hp} {k : Nat} {q : Shp} (h : sh[k]? = some q) (h1 : ∀ i, i ≠ k → σ.1 i = τ.1 i) (h2 : ∀ i, i ≠ k → σ.2 i = τ.2 i) : (wsOf dA ad sh σ).set k (ad k, cellE dA ad τ k q) = wsOf dA ad sh τ := by
  apply List.ext_getElem?
  intro i
  rw [List.getElem?_set]
  by_cases hik : k = i
  · subst hik
    have hl : k < sh.length := (List.getElem?_eq_some_iff.mp h).1
    have hl2 : k < (wsOf dA ad sh σ).length := by unfold wsOf; rw [List.length_mapIdx]; exact hl
    rw [if_pos rfl, if_pos hl2, ws_get h]
  · rw [if_neg hik]
    unfold wsOf
    rw [List.getElem?_mapIdx, List.getElem?_mapIdx]
    cases sh[i]? with
    | none => rfl
    | some q2 =>
      show some (ad i, _) = some (ad i, _)
      rw [cellE_at q2 (h1 i (fun e => hik e.symm)) (h2 i (fun e => hik e.symm))]
theorem ws_D {dA : Nat → ClassId} {ad : Nat → Nat} {sh : List Shp} {σ τ : Hp} {A : Nat → Prop} (h : va_D A (wsOf dA ad sh σ)) : va_D A (wsOf dA ad sh τ) := by
  have key : ∀ (k : Nat) (q : Nat × va_E), (wsOf dA ad sh τ)[k]? = some q → ∃ q', (wsOf dA ad sh σ)[k]? = some q' ∧ q'.1 = q.1 := by
    intro k q hq
    unfold wsOf at hq ⊢
    rw [List.getElem?_mapIdx] at hq ⊢
    cases hs : sh[k]? with
    | none => rw [hs] at hq; cases hq
    | some x => rw [hs] at hq; cases hq; exact ⟨_, rfl, rfl⟩
  refine ⟨fun i j p q hp hq hpq => ?_, fun k q hq => ?_⟩
  · obtain ⟨p', a1, a2⟩ := key i p hp
    obtain ⟨q', b1, b2⟩ := key j q hq
    exact h.1 i j p' q' a1 b1 (by rw [a2, b2]; exact hpq)
  · obtain ⟨q', a1, a2⟩ := key k q hq
    rw [← a2]; exact h.2 k q' a1
theorem ws_A {dA : Nat → ClassId} {ad : Nat → Nat} {sh : List Shp} {σ τ : Hp} {sz q : Nat} (h : va_A (wsOf dA ad sh σ) sz q) : va_A (wsOf dA ad sh τ) sz q := by
  rcases h with ⟨k, e, h⟩ | h
  · left
    unfold wsOf at h ⊢
    rw [List.getElem?_mapIdx] at h
    cases hs : sh[k]? with
    | none => rw [hs] at h; cases h
    | some x => rw [hs] at h; cases h; exact ⟨k, _, by rw [List.getElem?_mapIdx, hs]; rfl⟩
  · exact Or.inr h
-- the tables' words, and room by levels
def tblG : List Cond := lw_tbl.filter goodWord
def nestW : List Cond := [.methodLinkNest "NetMaps$State" 24 ⟨"NetMaps$Net", "<init>", "()V"⟩ "NetMaps", .methodLinkNest "NetMaps" 26 ⟨"NetMaps$Reader", "<init>", "()V"⟩ "NetMaps", .methodLinkNest "NetMaps$Reader" 11 ⟨"NetMaps$Net", "<init>", "()V"⟩ "NetMaps", .methodLinkNest "NetMaps" 33 ⟨"NetMaps$Net", "<init>", "()V"⟩ "NetMaps", .methodLinkNest "NetMaps" 40 ⟨"NetMaps$Search", "<init>", "()V"⟩ "NetMaps", .methodLinkNest "NetMaps$Search" 11 ⟨"NetMaps$Net", "<init>", "()V"⟩ "NetMaps", .methodLinkNest "NetMaps" 47 ⟨"NetMaps$Scale", "<init>", "()V"⟩ "NetMaps", .methodLinkNest "NetMaps" 54 ⟨"NetMaps$Crowd", "<init>", "()V"⟩ "NetMaps", .methodLinkNest "NetMaps$Net" 26 ⟨"NetMaps", "has", "(II)Z"⟩ "NetMaps", .methodLinkNest "NetMaps$Search" 70 ⟨"NetMaps", "has", "(II)Z"⟩ "NetMaps", .methodLinkNest "NetMaps$Scale" 59 ⟨"NetMaps", "has", "(II)Z"⟩ "NetMaps", .methodLinkNest "NetMaps$Crowd" 51 ⟨"NetMaps", "has", "(II)Z"⟩ "NetMaps"]
def Lv (d : Nat) : Room := { frames := d, cells := 0, slots := 0, locals := 48 * d }
theorem tbl_in {w : Cond} (i : Nat) (h : tables_1[i]? = some w) (hg : goodWord w = true) : w ∈ tblG := List.mem_filter.mpr ⟨List.mem_append_right _ (List.mem_of_getElem? h), hg⟩
theorem sel_in {w : Cond} (i : Nat) (h : (k2_sels lw_privs)[i]? = some w) (hg : goodWord w = true) : w ∈ tblG := List.mem_filter.mpr ⟨List.mem_append_left _ (List.mem_of_getElem? h), hg⟩
theorem tbl_good {y : MethodName} {b : ByteArray} {n : Nat} {r : Option FieldType} (h : Cond.code y b n r ∈ tblG) : GoodIn tblG (Cond.code y b n r :: tblG) := by
  intro w hw
  have h2 : w ∈ tblG := by
    rcases List.mem_cons.mp hw with e | e
    · rw [e]; exact h
    · exact e
  exact ⟨h2, good_of_word (List.mem_filter.mp h2).2⟩
-- a method's contract: with these arguments, over this heap, it answers this, and leaves that heap
def Mpre (D : va_G) (dA : Nat → ClassId) (ad : Nat → Nat) (sh : List Shp) (sz : Nat) (av : List Value) (σ : Hp) : Array Value → State → Prop := va_Pc av (fun U => U.heap.size = sz ∧ va_P D vwCl (wsOf dA ad sh σ) U.heap ∧ va_K D vwCl (tysOf dA) U ∧ va_D (fun _ => True) (wsOf dA ad sh σ) ∧ ∀ w ∈ nestW, va_Nw w U)
def Mpost (D : va_G) (dA : Nat → ClassId) (ad : Nat → Nat) (sh : List Shp) (sz : Nat) (σ : Hp) (v : Option Value) (σ' : Hp) : Array Value → State → Outcome → State → Prop := fun _ st oc t => oc = .returned v ∧ va_P D vwCl (wsOf dA ad sh σ') t.heap ∧ va_F (va_A (wsOf dA ad sh σ) sz) st t
def Mt (l : Launch) (y : MethodName) (b : ByteArray) (n : Nat) (r : Option FieldType) (d : Nat) (sh : List Shp) (av : (Nat → Nat) → List Value) (σ : Hp) (v : (Nat → Nat) → Option Value) (σ' : Hp) : Prop :=
  ∀ (D : va_G) (dA : Nat → ClassId) (ad : Nat → Nat) (sz : Nat), Met l y (Cond.code y b n r :: tblG) (Lv d) (Mpre D dA ad sh sz (av ad) σ) (Mpost D dA ad sh sz σ (v ad) σ') 0 0 (va_A (wsOf dA ad sh σ) sz)
-- a place in a method
abbrev Gm : Type := Program × Env × State × MethodId × Array Value × List Frame × Method × Code × va_G × (Nat → ClassId) × (Nat → Prop) × (State → Prop)
def WW (l : Launch) (γ : Gm) (d nL : Nat) (ad : Nat → Nat) (sh : List Shp) (pc : Nat) (lv : List (Nat × Value)) (st : List Value) (σ : Hp) : Prop := match γ with
  | (p, e, s, m, args, below, meth, c, D, dA, A, Q) => ∀ (H : Heap) (locs : List Loc) (ls : Array Slot), va_P D vwCl (wsOf dA ad sh σ) H → va_S A s.heap H locs → lv_has ls nL lv → W p l e (Lv d) s m args below meth c H locs 0 0 Q (F0 m pc ls st)
/-- what holds all through a method: own, code, return type, room, K: what its answer must be -/
def Cx (l : Launch) (γ : Gm) (d nL : Nat) (ad : Nat → Nat) (sh : List Shp) (own : String) (cc : ByteArray) (ret : Option FieldType) (K : Option Value → Hp → Prop) : Prop := match γ with
  | (p, _, s, m, args, below, meth, c, D, dA, A, Q) => p.tables.exec = Jvm.exec ∧ c.code = cc ∧ c.maxLocals = nL ∧ s.vm.findClass own = some m.cls ∧ (∀ w ∈ tblG, w.before args s = true) ∧ (∀ w ∈ nestW, va_Nw w s) ∧ va_K D vwCl (tysOf dA) s ∧ (∀ σ, va_D A (wsOf dA ad sh σ)) ∧ (∀ q, s.heap.size ≤ q → A q) ∧ meth.locks = false ∧ meth.sig.returnType = ret ∧ ∃ (Qc : Array Value → State → Outcome → State → Prop), Q = MQ below Qc args s 0 0 A ∧ ∀ (v : Option Value) (σ : Hp), K v σ → ∀ t : State, va_P D vwCl (wsOf dA ad sh σ) t.heap → va_F A s t → Qc args s (.returned v) t
-- options of answers
def wpO {α : Type} (x : Option (α × Hp)) (K : α → Hp → Prop) : Prop := ∃ (a : α) (s : Hp), x = some (a, s) ∧ K a s
def bO {α β : Type} (x : Option (α × Hp)) (g : α → Hp → Option (β × Hp)) : Option (β × Hp) := match x with
  | none => none
  | some (a, s) => g a s
def gO {α β : Type} (x : Option α) (g : α → Option β) : Option β := match x with
  | none => none
  | some a => g a
def lt' {α β : Sort _} (a : α) (g : α → β) : β := g a
theorem wp_b {α β : Type} {x : Option (α × Hp)} {g : α → Hp → Option (β × Hp)} {K : β → Hp → Prop} (h : wpO (bO x g) K) : ∃ (a : α) (s : Hp), x = some (a, s) ∧ wpO (g a s) K := by
  obtain ⟨a, s, h1, h2⟩ := h
  cases x with
  | none => cases h1
  | some y => exact ⟨y.1, y.2, rfl, a, s, h1, h2⟩
theorem wp_g {α β : Type} {x : Option α} {g : α → Option (β × Hp)} {K : β → Hp → Prop} (h : wpO (gO x g) K) : ∃ a : α, x = some a ∧ wpO (g a) K := by
  obtain ⟨a, s, h1, h2⟩ := h
  cases x with
  | none => cases h1
  | some y => exact ⟨y, rfl, a, s, h1, h2⟩
theorem wp_l {α β : Type} {a : α} {g : α → Option (β × Hp)} {K : β → Hp → Prop} (h : wpO (lt' a g) K) : ∃ x : α, x = a ∧ wpO (g x) K := ⟨a, rfl, h⟩
theorem wp_t {β : Type} {c : Prop} [Decidable c] {A B : Option (β × Hp)} {K : β → Hp → Prop} (hc : c) (h : wpO (if c then A else B) K) : wpO A K := by rw [if_pos hc] at h; exact h
theorem wp_f {β : Type} {c : Prop} [Decidable c] {A B : Option (β × Hp)} {K : β → Hp → Prop} (hc : ¬ c) (h : wpO (if c then A else B) K) : wpO B K := by rw [if_neg hc] at h; exact h
theorem wp_v {β : Type} {a : β} {s : Hp} {K : β → Hp → Prop} (h : wpO (some (a, s)) K) : K a s := by
  obtain ⟨_, _, h1, h2⟩ := h
  cases h1
  exact h2
theorem wp_m {β : Type} {x : Option (β × Hp)} {K : β → Hp → Prop} {r : β} {s : Hp} (h : x = some (r, s)) (hk : K r s) : wpO x K := ⟨r, s, h, hk⟩
-- loops
def whn {V X : Type} (f : V → Hp → Option ((V ⊕ X) × Hp)) : Nat → V → Hp → Option (X × Hp)
  | 0, _, _ => none
  | n + 1, v, σ => match f v σ with
    | none => none
    | some (.inl v', σ') => whn f n v' σ'
    | some (.inr x, σ') => some (x, σ')
theorem whn_up {V X : Type} {f : V → Hp → Option ((V ⊕ X) × Hp)} : ∀ (n : Nat) (v : V) (σ : Hp) (r : X × Hp), whn f n v σ = some r → whn f (n + 1) v σ = some r := by
  intro n
  induction n with
  | zero => intro v σ r h; cases h
  | succ n ih =>
    intro v σ r h
    unfold whn at h ⊢
    split at h
    · cases h
    · rename_i v' σ' he; exact ih v' σ' r h
    · rename_i x σ' he; exact h
theorem whn_le {V X : Type} {f : V → Hp → Option ((V ⊕ X) × Hp)} {n k : Nat} (hk : n ≤ k) {v : V} {σ : Hp} {r : X × Hp} (h : whn f n v σ = some r) : whn f k v σ = some r := by
  induction hk with
  | refl => exact h
  | step _ ih => exact whn_up _ _ _ _ ih
noncomputable def wh {V X : Type} (f : V → Hp → Option ((V ⊕ X) × Hp)) (v : V) (σ : Hp) : Option (X × Hp) := @dite _ (∃ (r : X × Hp) (n : Nat), whn f n v σ = some r) (Classical.propDecidable _) (fun h => some h.choose) (fun _ => none)
theorem wh_of {V X : Type} {f : V → Hp → Option ((V ⊕ X) × Hp)} {n : Nat} {v : V} {σ : Hp} {r : X × Hp} (h : whn f n v σ = some r) : wh f v σ = some r := by
  have hx : ∃ (r : X × Hp) (n : Nat), whn f n v σ = some r := ⟨r, n, h⟩
  unfold wh
  rw [dif_pos hx]
  obtain ⟨k, hk⟩ := hx.choose_spec
  have h1 := whn_le (Nat.le_max_left n k) h
  have h2 := whn_le (Nat.le_max_right n k) hk
  rw [← h2, h1]
theorem wh_n {V X : Type} {f : V → Hp → Option ((V ⊕ X) × Hp)} {v : V} {σ : Hp} {r : X × Hp} (h : wh f v σ = some r) : ∃ n, whn f n v σ = some r := by
  unfold wh at h
  by_cases hx : ∃ (r : X × Hp) (n : Nat), whn f n v σ = some r
  · rw [dif_pos hx] at h
    cases h
    exact hx.choose_spec
  · rw [dif_neg hx] at h; cases h
theorem wh_eq {V X : Type} (f : V → Hp → Option ((V ⊕ X) × Hp)) (v : V) (σ : Hp) : wh f v σ = bO (f v σ) (fun y σ' => Sum.elim (fun v' => wh f v' σ') (fun x => some (x, σ')) y) := by
  cases hf : f v σ with
  | none =>
    show _ = none
    unfold wh
    rw [dif_neg]
    rintro ⟨r, n, h⟩
    cases n with
    | zero => cases h
    | succ n => unfold whn at h; rw [hf] at h; cases h
  | some y =>
    obtain ⟨y, σ'⟩ := y
    cases y with
    | inr x =>
      show _ = some (x, σ')
      exact wh_of (n := 1) (by unfold whn; rw [hf])
    | inl v' =>
      show _ = wh f v' σ'
      cases hw : wh f v' σ' with
      | some r =>
        obtain ⟨n, hn⟩ := wh_n hw
        exact wh_of (n := n + 1) (by unfold whn; rw [hf]; exact hn)
      | none =>
        cases hv : wh f v σ with
        | none => rfl
        | some r =>
          obtain ⟨n, hn⟩ := wh_n hv
          cases n with
          | zero => cases hn
          | succ n =>
            unfold whn at hn
            rw [hf] at hn
            rw [wh_of hn] at hw
            cases hw
theorem wh_W {V X : Type} {f : V → Hp → Option ((V ⊕ X) × Hp)} {P : V → Hp → Prop} {KX : X → Hp → Prop} (hs : ∀ v σ, wpO (f v σ) (fun y σ' => Sum.elim (fun v' => P v' σ') (fun x => KX x σ') y) → P v σ) {v : V} {σ : Hp} (h : wpO (wh f v σ) KX) : P v σ := by
  obtain ⟨x, σ2, h1, h2⟩ := h
  obtain ⟨n, hn⟩ := wh_n h1
  revert v σ
  induction n with
  | zero => intro v σ h1 hn; cases hn
  | succ n ih =>
    intro v σ h1 hn
    apply hs
    unfold whn at hn
    cases hf : f v σ with
    | none => rw [hf] at hn; cases hn
    | some y =>
      obtain ⟨y, σ'⟩ := y
      rw [hf] at hn
      refine ⟨y, σ', rfl, ?_⟩
      cases y with
      | inl v' => exact ih (wh_of hn) hn
      | inr z => cases hn; exact h2
-- heap operations
def getI (sh : List Shp) (c k j : Nat) (σ : Hp) : Option Int32 := if sh[k]? = some (.inl c) then some (σ.1 k j) else none
def getR (sh : List Shp) (c k j : Nat) (σ : Hp) : Option Nat := if sh[k]? = some (.inl c) then σ.2 k j else none
def putI (sh : List Shp) (c k j : Nat) (x : Int32) (σ : Hp) : Option Hp := if sh[k]? = some (.inl c) then some (setI σ k j x) else none
def putZ (sh : List Shp) (c k j : Nat) (x : Int32) (σ : Hp) : Option Hp := if sh[k]? = some (.inl c) ∧ (x = 0 ∨ x = 1) then some (setI σ k j x) else none
def putR (sh : List Shp) (c k j : Nat) (x : Nat) (σ : Hp) : Option Hp := if sh[k]? = some (.inl c) then some (setR σ k j x) else none
def arrN (sh : List Shp) (t k : Nat) : Nat := match sh[k]? with
  | some (.inr (t', n)) => if t' = t then n else 0
  | _ => 0
section ROWS
variable {l : Launch} {γ : Gm} {d nL : Nat} {ad : Nat → Nat} {sh : List Shp} {own : String} {cc : ByteArray} {ret : Option FieldType} {K : Option Value → Hp → Prop} {pc : Nat} {lv lv' : List (Nat × Value)} {st : List Value} {σ : Hp}
theorem r_iconst (hc : Cx l γ d nL ad sh own cc ret K) {n : Int} {v : Int32} (hv : Int32.ofInt n = v) (hd : decode cc pc = .ok (.iconst n, 1)) (k : WW l γ d nL ad sh (pc + 1) lv (.int v :: st) σ) : WW l γ d nL ad sh pc lv st σ := by
  obtain ⟨p, e, s, m, args, below, meth, c, D, dA, A, Q⟩ := γ
  obtain ⟨hx, hb, hml, hown, hts, hnw, hK, hD, hA, hlk, hr, Qc, hQ, hret⟩ := hc
  intro H locs ls hP hS hl
  exact lv_iconst hx hb hd hv (k H locs ls hP hS hl)
theorem r_bipush (hc : Cx l γ d nL ad sh own cc ret K) {n : Int} {v : Int32} (hv : (Int8.ofInt n).toInt32 = v) (hd : decode cc pc = .ok (.bipush n, 2)) (k : WW l γ d nL ad sh (pc + 2) lv (.int v :: st) σ) : WW l γ d nL ad sh pc lv st σ := by
  obtain ⟨p, e, s, m, args, below, meth, c, D, dA, A, Q⟩ := γ
  obtain ⟨hx, hb, hml, hown, hts, hnw, hK, hD, hA, hlk, hr, Qc, hQ, hret⟩ := hc
  intro H locs ls hP hS hl
  exact lv_bipush hx hb hd hv (k H locs ls hP hS hl)
theorem r_sipush (hc : Cx l γ d nL ad sh own cc ret K) {n : Int} {v : Int32} (hv : (Int16.ofInt n).toInt32 = v) (hd : decode cc pc = .ok (.sipush n, 3)) (k : WW l γ d nL ad sh (pc + 3) lv (.int v :: st) σ) : WW l γ d nL ad sh pc lv st σ := by
  obtain ⟨p, e, s, m, args, below, meth, c, D, dA, A, Q⟩ := γ
  obtain ⟨hx, hb, hml, hown, hts, hnw, hK, hD, hA, hlk, hr, Qc, hQ, hret⟩ := hc
  intro H locs ls hP hS hl
  exact lv_sipush hx hb hd hv (k H locs ls hP hS hl)
theorem r_ldc (hc : Cx l γ d nL ad sh own cc ret K) {n : Nat} {v : Int32} (hw : Cond.constant own n v ∈ tblG) (hd : decode cc pc = .ok (.ldc n, 2)) (k : WW l γ d nL ad sh (pc + 2) lv (.int v :: st) σ) : WW l γ d nL ad sh pc lv st σ := by
  obtain ⟨p, e, s, m, args, below, meth, c, D, dA, A, Q⟩ := γ
  obtain ⟨hx, hb, hml, hown, hts, hnw, hK, hD, hA, hlk, hr, Qc, hQ, hret⟩ := hc
  intro H locs ls hP hS hl
  exact lv_ldc hx hb hown (hts _ hw) hd (k H locs ls hP hS hl)
theorem r_ldcw (hc : Cx l γ d nL ad sh own cc ret K) {n : Nat} {v : Int32} (hw : Cond.constant own n v ∈ tblG) (hd : decode cc pc = .ok (.ldc_w n, 3)) (k : WW l γ d nL ad sh (pc + 3) lv (.int v :: st) σ) : WW l γ d nL ad sh pc lv st σ := by
  obtain ⟨p, e, s, m, args, below, meth, c, D, dA, A, Q⟩ := γ
  obtain ⟨hx, hb, hml, hown, hts, hnw, hK, hD, hA, hlk, hr, Qc, hQ, hret⟩ := hc
  intro H locs ls hP hS hl
  exact lv_ldcw hx hb hown (hts _ hw) hd (k H locs ls hP hS hl)
theorem r_iload_n (hc : Cx l γ d nL ad sh own cc ret K) {n : Fin 4} {i : Nat} {x : Int32} (j : Nat) (hi : (n : Nat) = i) (hj : lv[j]? = some (i, .int x)) (hd : decode cc pc = .ok (.iload_n n, 1)) (k : WW l γ d nL ad sh (pc + 1) lv (.int x :: st) σ) : WW l γ d nL ad sh pc lv st σ := by
  obtain ⟨p, e, s, m, args, below, meth, c, D, dA, A, Q⟩ := γ
  obtain ⟨hx, hb, hml, hown, hts, hnw, hK, hD, hA, hlk, hr, Qc, hQ, hret⟩ := hc
  intro H locs ls hP hS hl
  exact lv_iload_n hx hb hd hi (lv_at hl j hj) (k H locs ls hP hS hl)
theorem r_iload (hc : Cx l γ d nL ad sh own cc ret K) {i : Nat} {x : Int32} (j : Nat) (hj : lv[j]? = some (i, .int x)) (hd : decode cc pc = .ok (.iload i, 2)) (k : WW l γ d nL ad sh (pc + 2) lv (.int x :: st) σ) : WW l γ d nL ad sh pc lv st σ := by
  obtain ⟨p, e, s, m, args, below, meth, c, D, dA, A, Q⟩ := γ
  obtain ⟨hx, hb, hml, hown, hts, hnw, hK, hD, hA, hlk, hr, Qc, hQ, hret⟩ := hc
  intro H locs ls hP hS hl
  exact lv_iload hx hb hd (lv_at hl j hj) (k H locs ls hP hS hl)
theorem r_aload_n (hc : Cx l γ d nL ad sh own cc ret K) {n : Fin 4} {i : Nat} {x : Nat} (j : Nat) (hi : (n : Nat) = i) (hj : lv[j]? = some (i, .ref x)) (hd : decode cc pc = .ok (.aload_n n, 1)) (k : WW l γ d nL ad sh (pc + 1) lv (.ref x :: st) σ) : WW l γ d nL ad sh pc lv st σ := by
  obtain ⟨p, e, s, m, args, below, meth, c, D, dA, A, Q⟩ := γ
  obtain ⟨hx, hb, hml, hown, hts, hnw, hK, hD, hA, hlk, hr, Qc, hQ, hret⟩ := hc
  intro H locs ls hP hS hl
  exact lv_aload_n hx hb hd hi (lv_at hl j hj) (k H locs ls hP hS hl)
theorem r_aload (hc : Cx l γ d nL ad sh own cc ret K) {i : Nat} {x : Nat} (j : Nat) (hj : lv[j]? = some (i, .ref x)) (hd : decode cc pc = .ok (.aload i, 2)) (k : WW l γ d nL ad sh (pc + 2) lv (.ref x :: st) σ) : WW l γ d nL ad sh pc lv st σ := by
  obtain ⟨p, e, s, m, args, below, meth, c, D, dA, A, Q⟩ := γ
  obtain ⟨hx, hb, hml, hown, hts, hnw, hK, hD, hA, hlk, hr, Qc, hQ, hret⟩ := hc
  intro H locs ls hP hS hl
  exact lv_aload hx hb hd (lv_at hl j hj) (k H locs ls hP hS hl)
theorem r_istore_n (hc : Cx l γ d nL ad sh own cc ret K) {n : Fin 4} {i : Nat} {x : Int32} (hi : (n : Nat) = i) (hn : i < nL) (hv : (i, Value.int x) :: lv.filter (fun q => !(q.1 == i) && !(q.1 + 1 == i && q.2.category == 2)) = lv') (hd : decode cc pc = .ok (.istore_n n, 1)) (k : WW l γ d nL ad sh (pc + 1) lv' st σ) : WW l γ d nL ad sh pc lv (.int x :: st) σ := by
  obtain ⟨p, e, s, m, args, below, meth, c, D, dA, A, Q⟩ := γ
  obtain ⟨hx, hb, hml, hown, hts, hnw, hK, hD, hA, hlk, hr, Qc, hQ, hret⟩ := hc
  intro H locs ls hP hS hl
  exact lv_istore_n hx hb hd hi hl hn hv (fun ls hl => k H locs ls hP hS hl)
theorem r_istore (hc : Cx l γ d nL ad sh own cc ret K)  {i : Nat} {x : Int32}  (hn : i < nL) (hv : (i, Value.int x) :: lv.filter (fun q => !(q.1 == i) && !(q.1 + 1 == i && q.2.category == 2)) = lv') (hd : decode cc pc = .ok (.istore i, 2)) (k : WW l γ d nL ad sh (pc + 2) lv' st σ) : WW l γ d nL ad sh pc lv (.int x :: st) σ := by
  obtain ⟨p, e, s, m, args, below, meth, c, D, dA, A, Q⟩ := γ
  obtain ⟨hx, hb, hml, hown, hts, hnw, hK, hD, hA, hlk, hr, Qc, hQ, hret⟩ := hc
  intro H locs ls hP hS hl
  exact lv_istore hx hb hd  hl hn hv (fun ls hl => k H locs ls hP hS hl)
theorem r_astore_n (hc : Cx l γ d nL ad sh own cc ret K) {n : Fin 4} {i : Nat} {x : Nat} (hi : (n : Nat) = i) (hn : i < nL) (hv : (i, Value.ref x) :: lv.filter (fun q => !(q.1 == i) && !(q.1 + 1 == i && q.2.category == 2)) = lv') (hd : decode cc pc = .ok (.astore_n n, 1)) (k : WW l γ d nL ad sh (pc + 1) lv' st σ) : WW l γ d nL ad sh pc lv (.ref x :: st) σ := by
  obtain ⟨p, e, s, m, args, below, meth, c, D, dA, A, Q⟩ := γ
  obtain ⟨hx, hb, hml, hown, hts, hnw, hK, hD, hA, hlk, hr, Qc, hQ, hret⟩ := hc
  intro H locs ls hP hS hl
  exact lv_astore_n hx hb hd hi hl hn hv (fun ls hl => k H locs ls hP hS hl)
theorem r_astore (hc : Cx l γ d nL ad sh own cc ret K)  {i : Nat} {x : Nat}  (hn : i < nL) (hv : (i, Value.ref x) :: lv.filter (fun q => !(q.1 == i) && !(q.1 + 1 == i && q.2.category == 2)) = lv') (hd : decode cc pc = .ok (.astore i, 2)) (k : WW l γ d nL ad sh (pc + 2) lv' st σ) : WW l γ d nL ad sh pc lv (.ref x :: st) σ := by
  obtain ⟨p, e, s, m, args, below, meth, c, D, dA, A, Q⟩ := γ
  obtain ⟨hx, hb, hml, hown, hts, hnw, hK, hD, hA, hlk, hr, Qc, hQ, hret⟩ := hc
  intro H locs ls hP hS hl
  exact lv_astore hx hb hd  hl hn hv (fun ls hl => k H locs ls hP hS hl)
theorem r_iinc (hc : Cx l γ d nL ad sh own cc ret K) {i j : Nat} {n : Int} {x v : Int32} (hj : lv[j]? = some (i, .int x)) (hx2 : x + Int32.ofInt n = v) (hn : i < nL) (hv : (i, Value.int v) :: lv.filter (fun q => !(q.1 == i) && !(q.1 + 1 == i && q.2.category == 2)) = lv') (hd : decode cc pc = .ok (.iinc i n, 3)) (k : WW l γ d nL ad sh (pc + 3) lv' st σ) : WW l γ d nL ad sh pc lv st σ := by
  obtain ⟨p, e, s, m, args, below, meth, c, D, dA, A, Q⟩ := γ
  obtain ⟨hx, hb, hml, hown, hts, hnw, hK, hD, hA, hlk, hr, Qc, hQ, hret⟩ := hc
  intro H locs ls hP hS hl
  exact lv_iinc hx hb hd hl hj hx2 hn hv (fun ls hl => k H locs ls hP hS hl)
theorem r_iadd (hc : Cx l γ d nL ad sh own cc ret K) {x y : Int32} (hd : decode cc pc = .ok (.iadd, 1)) (k : WW l γ d nL ad sh (pc + 1) lv (.int (x + y) :: st) σ) : WW l γ d nL ad sh pc lv (.int y :: .int x :: st) σ := by
  obtain ⟨p, e, s, m, args, below, meth, c, D, dA, A, Q⟩ := γ
  obtain ⟨hx, hb, hml, hown, hts, hnw, hK, hD, hA, hlk, hr, Qc, hQ, hret⟩ := hc
  intro H locs ls hP hS hl
  exact lv_iadd hx hb hd (k H locs ls hP hS hl)
theorem r_isub (hc : Cx l γ d nL ad sh own cc ret K) {x y : Int32} (hd : decode cc pc = .ok (.isub, 1)) (k : WW l γ d nL ad sh (pc + 1) lv (.int (x - y) :: st) σ) : WW l γ d nL ad sh pc lv (.int y :: .int x :: st) σ := by
  obtain ⟨p, e, s, m, args, below, meth, c, D, dA, A, Q⟩ := γ
  obtain ⟨hx, hb, hml, hown, hts, hnw, hK, hD, hA, hlk, hr, Qc, hQ, hret⟩ := hc
  intro H locs ls hP hS hl
  exact lv_isub hx hb hd (k H locs ls hP hS hl)
theorem r_imul (hc : Cx l γ d nL ad sh own cc ret K) {x y : Int32} (hd : decode cc pc = .ok (.imul, 1)) (k : WW l γ d nL ad sh (pc + 1) lv (.int (x * y) :: st) σ) : WW l γ d nL ad sh pc lv (.int y :: .int x :: st) σ := by
  obtain ⟨p, e, s, m, args, below, meth, c, D, dA, A, Q⟩ := γ
  obtain ⟨hx, hb, hml, hown, hts, hnw, hK, hD, hA, hlk, hr, Qc, hQ, hret⟩ := hc
  intro H locs ls hP hS hl
  exact lv_imul hx hb hd (k H locs ls hP hS hl)
theorem r_iand (hc : Cx l γ d nL ad sh own cc ret K) {x y : Int32} (hd : decode cc pc = .ok (.iand, 1)) (k : WW l γ d nL ad sh (pc + 1) lv (.int (x &&& y) :: st) σ) : WW l γ d nL ad sh pc lv (.int y :: .int x :: st) σ := by
  obtain ⟨p, e, s, m, args, below, meth, c, D, dA, A, Q⟩ := γ
  obtain ⟨hx, hb, hml, hown, hts, hnw, hK, hD, hA, hlk, hr, Qc, hQ, hret⟩ := hc
  intro H locs ls hP hS hl
  exact lv_iand hx hb hd (k H locs ls hP hS hl)
theorem r_ior (hc : Cx l γ d nL ad sh own cc ret K) {x y : Int32} (hd : decode cc pc = .ok (.ior, 1)) (k : WW l γ d nL ad sh (pc + 1) lv (.int (x ||| y) :: st) σ) : WW l γ d nL ad sh pc lv (.int y :: .int x :: st) σ := by
  obtain ⟨p, e, s, m, args, below, meth, c, D, dA, A, Q⟩ := γ
  obtain ⟨hx, hb, hml, hown, hts, hnw, hK, hD, hA, hlk, hr, Qc, hQ, hret⟩ := hc
  intro H locs ls hP hS hl
  exact lv_ior hx hb hd (k H locs ls hP hS hl)
theorem r_ixor (hc : Cx l γ d nL ad sh own cc ret K) {x y : Int32} (hd : decode cc pc = .ok (.ixor, 1)) (k : WW l γ d nL ad sh (pc + 1) lv (.int (x ^^^ y) :: st) σ) : WW l γ d nL ad sh pc lv (.int y :: .int x :: st) σ := by
  obtain ⟨p, e, s, m, args, below, meth, c, D, dA, A, Q⟩ := γ
  obtain ⟨hx, hb, hml, hown, hts, hnw, hK, hD, hA, hlk, hr, Qc, hQ, hret⟩ := hc
  intro H locs ls hP hS hl
  exact lv_ixor hx hb hd (k H locs ls hP hS hl)
theorem r_ishl (hc : Cx l γ d nL ad sh own cc ret K) {x y : Int32} (hd : decode cc pc = .ok (.ishl, 1)) (k : WW l γ d nL ad sh (pc + 1) lv (.int (x <<< (y &&& 31)) :: st) σ) : WW l γ d nL ad sh pc lv (.int y :: .int x :: st) σ := by
  obtain ⟨p, e, s, m, args, below, meth, c, D, dA, A, Q⟩ := γ
  obtain ⟨hx, hb, hml, hown, hts, hnw, hK, hD, hA, hlk, hr, Qc, hQ, hret⟩ := hc
  intro H locs ls hP hS hl
  exact lv_ishl hx hb hd (k H locs ls hP hS hl)
theorem r_ishr (hc : Cx l γ d nL ad sh own cc ret K) {x y : Int32} (hd : decode cc pc = .ok (.ishr, 1)) (k : WW l γ d nL ad sh (pc + 1) lv (.int (x >>> (y &&& 31)) :: st) σ) : WW l γ d nL ad sh pc lv (.int y :: .int x :: st) σ := by
  obtain ⟨p, e, s, m, args, below, meth, c, D, dA, A, Q⟩ := γ
  obtain ⟨hx, hb, hml, hown, hts, hnw, hK, hD, hA, hlk, hr, Qc, hQ, hret⟩ := hc
  intro H locs ls hP hS hl
  exact lv_ishr hx hb hd (k H locs ls hP hS hl)
end ROWS
def ushr' (x y : Int32) : Int32 := (x.toUInt32 >>> (y.toUInt32 &&& Int32.toUInt32 31)).toInt32
def irm (x y : Int32) : Int32 := x - x / y * y
def nz (y : Int32) : Option Int32 := if y = 0 then none else some y
def i2b' (x : Int32) : Int32 := x.toInt8.toInt32
section ROWS
variable {l : Launch} {γ : Gm} {d nL : Nat} {ad : Nat → Nat} {sh : List Shp} {own : String} {cc : ByteArray} {ret : Option FieldType} {K : Option Value → Hp → Prop} {pc : Nat} {lv lv' : List (Nat × Value)} {st : List Value} {σ : Hp}
theorem r_iushr (hc : Cx l γ d nL ad sh own cc ret K) {x y : Int32} (hd : decode cc pc = .ok (.iushr, 1)) (k : WW l γ d nL ad sh (pc + 1) lv (.int (ushr' x y) :: st) σ) : WW l γ d nL ad sh pc lv (.int y :: .int x :: st) σ := by
  obtain ⟨p, e, s, m, args, below, meth, c, D, dA, A, Q⟩ := γ
  obtain ⟨hx, hb, hml, hown, hts, hnw, hK, hD, hA, hlk, hr, Qc, hQ, hret⟩ := hc
  intro H locs ls hP hS hl
  exact lv_iushr hx hb hd rfl (k H locs ls hP hS hl)
theorem r_ineg (hc : Cx l γ d nL ad sh own cc ret K) {x : Int32} (hd : decode cc pc = .ok (.ineg, 1)) (k : WW l γ d nL ad sh (pc + 1) lv (.int (-x) :: st) σ) : WW l γ d nL ad sh pc lv (.int x :: st) σ := by
  obtain ⟨p, e, s, m, args, below, meth, c, D, dA, A, Q⟩ := γ
  obtain ⟨hx, hb, hml, hown, hts, hnw, hK, hD, hA, hlk, hr, Qc, hQ, hret⟩ := hc
  intro H locs ls hP hS hl
  exact lv_ineg hx hb hd (k H locs ls hP hS hl)
theorem r_i2b (hc : Cx l γ d nL ad sh own cc ret K) {x : Int32} (hd : decode cc pc = .ok (.i2b, 1)) (k : WW l γ d nL ad sh (pc + 1) lv (.int (i2b' x) :: st) σ) : WW l γ d nL ad sh pc lv (.int x :: st) σ := by
  obtain ⟨p, e, s, m, args, below, meth, c, D, dA, A, Q⟩ := γ
  obtain ⟨hx, hb, hml, hown, hts, hnw, hK, hD, hA, hlk, hr, Qc, hQ, hret⟩ := hc
  intro H locs ls hP hS hl
  exact lv_i2b hx hb hd rfl (k H locs ls hP hS hl)
theorem nz_of {y z : Int32} (h : nz y = some z) : ¬ y = 0 ∧ z = y := by
  unfold nz at h
  split at h
  · cases h
  · cases h; exact ⟨by assumption, rfl⟩
theorem r_idiv (hc : Cx l γ d nL ad sh own cc ret K) {x y z : Int32} (hz : nz y = some z) (hd : decode cc pc = .ok (.idiv, 1)) (k : WW l γ d nL ad sh (pc + 1) lv (.int (x / y) :: st) σ) : WW l γ d nL ad sh pc lv (.int y :: .int x :: st) σ := by
  obtain ⟨p, e, s, m, args, below, meth, c, D, dA, A, Q⟩ := γ
  obtain ⟨hx, hb, hml, hown, hts, hnw, hK, hD, hA, hlk, hr, Qc, hQ, hret⟩ := hc
  intro H locs ls hP hS hl
  exact lv_idiv hx hb hd (nz_of hz).1 (k H locs ls hP hS hl)
theorem r_irem (hc : Cx l γ d nL ad sh own cc ret K) {x y z : Int32} (hz : nz y = some z) (hd : decode cc pc = .ok (.irem, 1)) (k : WW l γ d nL ad sh (pc + 1) lv (.int (irm x y) :: st) σ) : WW l γ d nL ad sh pc lv (.int y :: .int x :: st) σ := by
  obtain ⟨p, e, s, m, args, below, meth, c, D, dA, A, Q⟩ := γ
  obtain ⟨hx, hb, hml, hown, hts, hnw, hK, hD, hA, hlk, hr, Qc, hQ, hret⟩ := hc
  intro H locs ls hP hS hl
  exact lv_irem hx hb hd (nz_of hz).1 (k H locs ls hP hS hl)
theorem r_dup (hc : Cx l γ d nL ad sh own cc ret K) {v : Value} (h1 : v.category = 1) (hd : decode cc pc = .ok (.dup, 1)) (k : WW l γ d nL ad sh (pc + 1) lv (v :: v :: st) σ) : WW l γ d nL ad sh pc lv (v :: st) σ := by
  obtain ⟨p, e, s, m, args, below, meth, c, D, dA, A, Q⟩ := γ
  obtain ⟨hx, hb, hml, hown, hts, hnw, hK, hD, hA, hlk, hr, Qc, hQ, hret⟩ := hc
  intro H locs ls hP hS hl
  exact lv_dup hx hb hd h1 (k H locs ls hP hS hl)
theorem r_dup2 (hc : Cx l γ d nL ad sh own cc ret K) {v w : Value} (h1 : v.category = 1) (h2 : w.category = 1) (hd : decode cc pc = .ok (.dup2, 1)) (k : WW l γ d nL ad sh (pc + 1) lv (v :: w :: v :: w :: st) σ) : WW l γ d nL ad sh pc lv (v :: w :: st) σ := by
  obtain ⟨p, e, s, m, args, below, meth, c, D, dA, A, Q⟩ := γ
  obtain ⟨hx, hb, hml, hown, hts, hnw, hK, hD, hA, hlk, hr, Qc, hQ, hret⟩ := hc
  intro H locs ls hP hS hl
  exact lv_dup2_11 hx hb hd h1 h2 (k H locs ls hP hS hl)
theorem r_pop (hc : Cx l γ d nL ad sh own cc ret K) {v : Value} (h1 : v.category = 1) (hd : decode cc pc = .ok (.pop, 1)) (k : WW l γ d nL ad sh (pc + 1) lv st σ) : WW l γ d nL ad sh pc lv (v :: st) σ := by
  obtain ⟨p, e, s, m, args, below, meth, c, D, dA, A, Q⟩ := γ
  obtain ⟨hx, hb, hml, hown, hts, hnw, hK, hD, hA, hlk, hr, Qc, hQ, hret⟩ := hc
  intro H locs ls hP hS hl
  exact lv_pop hx hb hd h1 (k H locs ls hP hS hl)
theorem r_goto (hc : Cx l γ d nL ad sh own cc ret K) {off : Int} {tgt : Nat} (hd : decode cc pc = .ok (.goto off, 3)) (ht : (pc : Int) + off = (tgt : Int)) (k : WW l γ d nL ad sh tgt lv st σ) : WW l γ d nL ad sh pc lv st σ := by
  obtain ⟨p, e, s, m, args, below, meth, c, D, dA, A, Q⟩ := γ
  obtain ⟨hx, hb, hml, hown, hts, hnw, hK, hD, hA, hlk, hr, Qc, hQ, hret⟩ := hc
  intro H locs ls hP hS hl
  exact lv_goto hx hb hd ht (k H locs ls hP hS hl)
theorem r_if_eq (hc : Cx l γ d nL ad sh own cc ret K) {x : Int32} {off : Int} {tgt : Nat} (hd : decode cc pc = .ok (.ifCond .eq off, 3)) (ht : (pc : Int) + off = (tgt : Int)) (kt : (x = 0) → WW l γ d nL ad sh tgt lv st σ) (kf : ¬ (x = 0) → WW l γ d nL ad sh (pc + 3) lv st σ) : WW l γ d nL ad sh pc lv (.int x :: st) σ := by
  obtain ⟨p, e, s, m, args, below, meth, c, D, dA, A, Q⟩ := γ
  obtain ⟨hx, hb, hml, hown, hts, hnw, hK, hD, hA, hlk, hr, Qc, hQ, hret⟩ := hc
  intro H locs ls hP hS hl
  exact lv_if_eq hx hb hd ht (fun c => kt c H locs ls hP hS hl) (fun c => kf c H locs ls hP hS hl)
theorem r_icmp_eq (hc : Cx l γ d nL ad sh own cc ret K) {x y : Int32} {off : Int} {tgt : Nat} (hd : decode cc pc = .ok (.if_icmp .eq off, 3)) (ht : (pc : Int) + off = (tgt : Int)) (kt : (x = y) → WW l γ d nL ad sh tgt lv st σ) (kf : ¬ (x = y) → WW l γ d nL ad sh (pc + 3) lv st σ) : WW l γ d nL ad sh pc lv (.int y :: .int x :: st) σ := by
  obtain ⟨p, e, s, m, args, below, meth, c, D, dA, A, Q⟩ := γ
  obtain ⟨hx, hb, hml, hown, hts, hnw, hK, hD, hA, hlk, hr, Qc, hQ, hret⟩ := hc
  intro H locs ls hP hS hl
  exact lv_icmp_eq hx hb hd ht (fun c => kt c H locs ls hP hS hl) (fun c => kf c H locs ls hP hS hl)
theorem r_if_ne (hc : Cx l γ d nL ad sh own cc ret K) {x : Int32} {off : Int} {tgt : Nat} (hd : decode cc pc = .ok (.ifCond .ne off, 3)) (ht : (pc : Int) + off = (tgt : Int)) (kt : (¬ x = 0) → WW l γ d nL ad sh tgt lv st σ) (kf : x = 0 → WW l γ d nL ad sh (pc + 3) lv st σ) : WW l γ d nL ad sh pc lv (.int x :: st) σ := by
  obtain ⟨p, e, s, m, args, below, meth, c, D, dA, A, Q⟩ := γ
  obtain ⟨hx, hb, hml, hown, hts, hnw, hK, hD, hA, hlk, hr, Qc, hQ, hret⟩ := hc
  intro H locs ls hP hS hl
  exact lv_if_ne hx hb hd ht (fun c => kt c H locs ls hP hS hl) (fun c => kf c H locs ls hP hS hl)
theorem r_icmp_ne (hc : Cx l γ d nL ad sh own cc ret K) {x y : Int32} {off : Int} {tgt : Nat} (hd : decode cc pc = .ok (.if_icmp .ne off, 3)) (ht : (pc : Int) + off = (tgt : Int)) (kt : (¬ x = y) → WW l γ d nL ad sh tgt lv st σ) (kf : x = y → WW l γ d nL ad sh (pc + 3) lv st σ) : WW l γ d nL ad sh pc lv (.int y :: .int x :: st) σ := by
  obtain ⟨p, e, s, m, args, below, meth, c, D, dA, A, Q⟩ := γ
  obtain ⟨hx, hb, hml, hown, hts, hnw, hK, hD, hA, hlk, hr, Qc, hQ, hret⟩ := hc
  intro H locs ls hP hS hl
  exact lv_icmp_ne hx hb hd ht (fun c => kt c H locs ls hP hS hl) (fun c => kf c H locs ls hP hS hl)
theorem r_if_lt (hc : Cx l γ d nL ad sh own cc ret K) {x : Int32} {off : Int} {tgt : Nat} (hd : decode cc pc = .ok (.ifCond .lt off, 3)) (ht : (pc : Int) + off = (tgt : Int)) (kt : (x < 0) → WW l γ d nL ad sh tgt lv st σ) (kf : ¬ (x < 0) → WW l γ d nL ad sh (pc + 3) lv st σ) : WW l γ d nL ad sh pc lv (.int x :: st) σ := by
  obtain ⟨p, e, s, m, args, below, meth, c, D, dA, A, Q⟩ := γ
  obtain ⟨hx, hb, hml, hown, hts, hnw, hK, hD, hA, hlk, hr, Qc, hQ, hret⟩ := hc
  intro H locs ls hP hS hl
  exact lv_if_lt hx hb hd ht (fun c => kt c H locs ls hP hS hl) (fun c => kf c H locs ls hP hS hl)
theorem r_icmp_lt (hc : Cx l γ d nL ad sh own cc ret K) {x y : Int32} {off : Int} {tgt : Nat} (hd : decode cc pc = .ok (.if_icmp .lt off, 3)) (ht : (pc : Int) + off = (tgt : Int)) (kt : (x < y) → WW l γ d nL ad sh tgt lv st σ) (kf : ¬ (x < y) → WW l γ d nL ad sh (pc + 3) lv st σ) : WW l γ d nL ad sh pc lv (.int y :: .int x :: st) σ := by
  obtain ⟨p, e, s, m, args, below, meth, c, D, dA, A, Q⟩ := γ
  obtain ⟨hx, hb, hml, hown, hts, hnw, hK, hD, hA, hlk, hr, Qc, hQ, hret⟩ := hc
  intro H locs ls hP hS hl
  exact lv_icmp_lt hx hb hd ht (fun c => kt c H locs ls hP hS hl) (fun c => kf c H locs ls hP hS hl)
theorem r_if_ge (hc : Cx l γ d nL ad sh own cc ret K) {x : Int32} {off : Int} {tgt : Nat} (hd : decode cc pc = .ok (.ifCond .ge off, 3)) (ht : (pc : Int) + off = (tgt : Int)) (kt : (0 ≤ x) → WW l γ d nL ad sh tgt lv st σ) (kf : ¬ (0 ≤ x) → WW l γ d nL ad sh (pc + 3) lv st σ) : WW l γ d nL ad sh pc lv (.int x :: st) σ := by
  obtain ⟨p, e, s, m, args, below, meth, c, D, dA, A, Q⟩ := γ
  obtain ⟨hx, hb, hml, hown, hts, hnw, hK, hD, hA, hlk, hr, Qc, hQ, hret⟩ := hc
  intro H locs ls hP hS hl
  exact lv_if_ge hx hb hd ht (fun c => kt c H locs ls hP hS hl) (fun c => kf c H locs ls hP hS hl)
theorem r_icmp_ge (hc : Cx l γ d nL ad sh own cc ret K) {x y : Int32} {off : Int} {tgt : Nat} (hd : decode cc pc = .ok (.if_icmp .ge off, 3)) (ht : (pc : Int) + off = (tgt : Int)) (kt : (y ≤ x) → WW l γ d nL ad sh tgt lv st σ) (kf : ¬ (y ≤ x) → WW l γ d nL ad sh (pc + 3) lv st σ) : WW l γ d nL ad sh pc lv (.int y :: .int x :: st) σ := by
  obtain ⟨p, e, s, m, args, below, meth, c, D, dA, A, Q⟩ := γ
  obtain ⟨hx, hb, hml, hown, hts, hnw, hK, hD, hA, hlk, hr, Qc, hQ, hret⟩ := hc
  intro H locs ls hP hS hl
  exact lv_icmp_ge hx hb hd ht (fun c => kt c H locs ls hP hS hl) (fun c => kf c H locs ls hP hS hl)
theorem r_if_gt (hc : Cx l γ d nL ad sh own cc ret K) {x : Int32} {off : Int} {tgt : Nat} (hd : decode cc pc = .ok (.ifCond .gt off, 3)) (ht : (pc : Int) + off = (tgt : Int)) (kt : (0 < x) → WW l γ d nL ad sh tgt lv st σ) (kf : ¬ (0 < x) → WW l γ d nL ad sh (pc + 3) lv st σ) : WW l γ d nL ad sh pc lv (.int x :: st) σ := by
  obtain ⟨p, e, s, m, args, below, meth, c, D, dA, A, Q⟩ := γ
  obtain ⟨hx, hb, hml, hown, hts, hnw, hK, hD, hA, hlk, hr, Qc, hQ, hret⟩ := hc
  intro H locs ls hP hS hl
  exact lv_if_gt hx hb hd ht (fun c => kt c H locs ls hP hS hl) (fun c => kf c H locs ls hP hS hl)
theorem r_icmp_gt (hc : Cx l γ d nL ad sh own cc ret K) {x y : Int32} {off : Int} {tgt : Nat} (hd : decode cc pc = .ok (.if_icmp .gt off, 3)) (ht : (pc : Int) + off = (tgt : Int)) (kt : (y < x) → WW l γ d nL ad sh tgt lv st σ) (kf : ¬ (y < x) → WW l γ d nL ad sh (pc + 3) lv st σ) : WW l γ d nL ad sh pc lv (.int y :: .int x :: st) σ := by
  obtain ⟨p, e, s, m, args, below, meth, c, D, dA, A, Q⟩ := γ
  obtain ⟨hx, hb, hml, hown, hts, hnw, hK, hD, hA, hlk, hr, Qc, hQ, hret⟩ := hc
  intro H locs ls hP hS hl
  exact lv_icmp_gt hx hb hd ht (fun c => kt c H locs ls hP hS hl) (fun c => kf c H locs ls hP hS hl)
theorem r_if_le (hc : Cx l γ d nL ad sh own cc ret K) {x : Int32} {off : Int} {tgt : Nat} (hd : decode cc pc = .ok (.ifCond .le off, 3)) (ht : (pc : Int) + off = (tgt : Int)) (kt : (x ≤ 0) → WW l γ d nL ad sh tgt lv st σ) (kf : ¬ (x ≤ 0) → WW l γ d nL ad sh (pc + 3) lv st σ) : WW l γ d nL ad sh pc lv (.int x :: st) σ := by
  obtain ⟨p, e, s, m, args, below, meth, c, D, dA, A, Q⟩ := γ
  obtain ⟨hx, hb, hml, hown, hts, hnw, hK, hD, hA, hlk, hr, Qc, hQ, hret⟩ := hc
  intro H locs ls hP hS hl
  exact lv_if_le hx hb hd ht (fun c => kt c H locs ls hP hS hl) (fun c => kf c H locs ls hP hS hl)
theorem r_icmp_le (hc : Cx l γ d nL ad sh own cc ret K) {x y : Int32} {off : Int} {tgt : Nat} (hd : decode cc pc = .ok (.if_icmp .le off, 3)) (ht : (pc : Int) + off = (tgt : Int)) (kt : (x ≤ y) → WW l γ d nL ad sh tgt lv st σ) (kf : ¬ (x ≤ y) → WW l γ d nL ad sh (pc + 3) lv st σ) : WW l γ d nL ad sh pc lv (.int y :: .int x :: st) σ := by
  obtain ⟨p, e, s, m, args, below, meth, c, D, dA, A, Q⟩ := γ
  obtain ⟨hx, hb, hml, hown, hts, hnw, hK, hD, hA, hlk, hr, Qc, hQ, hret⟩ := hc
  intro H locs ls hP hS hl
  exact lv_icmp_le hx hb hd ht (fun c => kt c H locs ls hP hS hl) (fun c => kf c H locs ls hP hS hl)
theorem r_tabIn (hc : Cx l γ d nL ad sh own cc ret K) {dflt lo hi : Int} {offs : Array Int} {len : Nat} {x k0 : Int32} {off : Int} {tgt : Nat} (hd : decode cc pc = .ok (.tableswitch dflt lo hi offs, len)) (hx0 : x = k0) (h1 : ¬ k0.toInt < lo) (h2 : ¬ hi < k0.toInt) (ho : offs[(k0.toInt - lo).toNat]? = some off) (ht : (pc : Int) + off = (tgt : Int)) (k : WW l γ d nL ad sh tgt lv st σ) : WW l γ d nL ad sh pc lv (.int x :: st) σ := by
  obtain ⟨p, e, s, m, args, below, meth, c, D, dA, A, Q⟩ := γ
  obtain ⟨hx, hb, hml, hown, hts, hnw, hK, hD, hA, hlk, hr, Qc, hQ, hret⟩ := hc
  intro H locs ls hP hS hl
  subst hx0
  exact lv_tableIn hx hb hd h1 h2 ho ht (k H locs ls hP hS hl)
theorem r_tabOut (hc : Cx l γ d nL ad sh own cc ret K) {dflt lo hi : Int} {offs : Array Int} {len : Nat} {x : Int32} {tgt : Nat} (hd : decode cc pc = .ok (.tableswitch dflt lo hi offs, len)) (h : x.toInt < lo ∨ hi < x.toInt) (ht : (pc : Int) + dflt = (tgt : Int)) (k : WW l γ d nL ad sh tgt lv st σ) : WW l γ d nL ad sh pc lv (.int x :: st) σ := by
  obtain ⟨p, e, s, m, args, below, meth, c, D, dA, A, Q⟩ := γ
  obtain ⟨hx, hb, hml, hown, hts, hnw, hK, hD, hA, hlk, hr, Qc, hQ, hret⟩ := hc
  intro H locs ls hP hS hl
  exact lv_tableOut hx hb hd h ht (k H locs ls hP hS hl)
theorem r_lookup (hc : Cx l γ d nL ad sh own cc ret K) {dflt : Int} {ps : Array (Int × Int)} {len : Nat} {x : Int32} {off : Int} {tgt : Nat} (hd : decode cc pc = .ok (.lookupswitch dflt ps, len)) (hp : (ps.toList.zip (ps.toList.drop 1)).all (fun (a, next) => a.1 < next.1) = true) (ho : Op.lookupswitch.offset ps.toList dflt x.toInt = off) (ht : (pc : Int) + off = (tgt : Int)) (k : WW l γ d nL ad sh tgt lv st σ) : WW l γ d nL ad sh pc lv (.int x :: st) σ := by
  obtain ⟨p, e, s, m, args, below, meth, c, D, dA, A, Q⟩ := γ
  obtain ⟨hx, hb, hml, hown, hts, hnw, hK, hD, hA, hlk, hr, Qc, hQ, hret⟩ := hc
  intro H locs ls hP hS hl
  exact lv_lookup hx hb hd hp ho ht (k H locs ls hP hS hl)
theorem r_sub (is : List Nat) (hs : lv_pick lv is = lv') (k : WW l γ d nL ad sh pc lv' st σ) : WW l γ d nL ad sh pc lv st σ := by
  obtain ⟨p, e, s, m, args, below, meth, c, D, dA, A, Q⟩ := γ
  intro H locs ls hP hS hl
  exact k H locs ls hP hS (lv_sub hl is hs)
end ROWS
-- heap operations on arrays
def aldI (sh : List Shp) (t k : Nat) (i : Int32) (σ : Hp) : Option Int32 := if ¬ i < 0 ∧ i.toNatClampNeg < arrN sh t k then some (σ.1 k i.toNatClampNeg) else none
def aldR (sh : List Shp) (t k : Nat) (i : Int32) (σ : Hp) : Option Nat := if ¬ i < 0 ∧ i.toNatClampNeg < arrN sh t k then σ.2 k i.toNatClampNeg else none
def narT (t : Nat) (x : Int32) : Int32 := match t with
  | 0 => x
  | 1 => vp_nar .byte x
  | _ => vp_nar .boolean x
def astI (sh : List Shp) (t k : Nat) (i x : Int32) (σ : Hp) : Option Hp := if ¬ i < 0 ∧ i.toNatClampNeg < arrN sh t k then some (setI σ k i.toNatClampNeg (narT t x)) else none
def alen (sh : List Shp) (t k : Nat) : Option Int32 := match sh[k]? with
  | some (.inr (t', n)) => if t' = t then some (Int32.ofNat n) else none
  | _ => none
def chk (sh : List Shp) (k c : Nat) : Option Unit := if sh[k]? = some (.inl c) then some () else none
theorem chk_of {sh : List Shp} {k c : Nat} {u : Unit} (h : chk sh k c = some u) : sh[k]? = some (.inl c) := by
  unfold chk at h
  split at h
  · assumption
  · cases h
theorem getI_of {sh : List Shp} {c k j : Nat} {σ : Hp} {x : Int32} (h : getI sh c k j σ = some x) : sh[k]? = some (.inl c) ∧ x = σ.1 k j := by
  unfold getI at h
  split at h
  · cases h; exact ⟨by assumption, rfl⟩
  · cases h
theorem getR_of {sh : List Shp} {c k j : Nat} {σ : Hp} {x : Nat} (h : getR sh c k j σ = some x) : sh[k]? = some (.inl c) ∧ σ.2 k j = some x := by
  unfold getR at h
  split at h
  · exact ⟨by assumption, h⟩
  · cases h
theorem putI_of {sh : List Shp} {c k j : Nat} {x : Int32} {σ σ' : Hp} (h : putI sh c k j x σ = some σ') : sh[k]? = some (.inl c) ∧ σ' = setI σ k j x := by
  unfold putI at h
  split at h
  · cases h; exact ⟨by assumption, rfl⟩
  · cases h
theorem putZ_of {sh : List Shp} {c k j : Nat} {x : Int32} {σ σ' : Hp} (h : putZ sh c k j x σ = some σ') : sh[k]? = some (.inl c) ∧ (x = 0 ∨ x = 1) ∧ σ' = setI σ k j x := by
  unfold putZ at h
  split at h
  · rename_i hh; cases h; exact ⟨hh.1, hh.2, rfl⟩
  · cases h
theorem putR_of {sh : List Shp} {c k j : Nat} {x : Nat} {σ σ' : Hp} (h : putR sh c k j x σ = some σ') : sh[k]? = some (.inl c) ∧ σ' = setR σ k j x := by
  unfold putR at h
  split at h
  · cases h; exact ⟨by assumption, rfl⟩
  · cases h
theorem arrN_of {sh : List Shp} {t k i : Nat} (h : i < arrN sh t k) : ∃ n, sh[k]? = some (.inr (t, n)) ∧ i < n := by
  unfold arrN at h
  split at h
  · rename_i t' n he
    by_cases ht : t' = t
    · rw [if_pos ht] at h; exact ⟨n, by rw [he, ht], h⟩
    · rw [if_neg ht] at h; exact absurd h (Nat.not_lt_zero _)
  · exact absurd h (Nat.not_lt_zero _)
theorem aldI_of {sh : List Shp} {t k : Nat} {i x : Int32} {σ : Hp} (h : aldI sh t k i σ = some x) : ∃ n, sh[k]? = some (.inr (t, n)) ∧ vp_in i n ∧ x = σ.1 k i.toNatClampNeg := by
  unfold aldI at h
  split at h
  · rename_i hh
    obtain ⟨n, h1, h2⟩ := arrN_of hh.2
    cases h
    exact ⟨n, h1, fun q => q.elim hh.1 (fun q => Nat.not_le.mpr h2 q), rfl⟩
  · cases h
theorem aldR_of {sh : List Shp} {t k : Nat} {i : Int32} {x : Nat} {σ : Hp} (h : aldR sh t k i σ = some x) : ∃ n, sh[k]? = some (.inr (t, n)) ∧ vp_in i n ∧ σ.2 k i.toNatClampNeg = some x := by
  unfold aldR at h
  split at h
  · rename_i hh
    obtain ⟨n, h1, h2⟩ := arrN_of hh.2
    exact ⟨n, h1, fun q => q.elim hh.1 (fun q => Nat.not_le.mpr h2 q), h⟩
  · cases h
theorem astI_of {sh : List Shp} {t k : Nat} {i x : Int32} {σ σ' : Hp} (h : astI sh t k i x σ = some σ') : ∃ n, sh[k]? = some (.inr (t, n)) ∧ vp_in i n ∧ σ' = setI σ k i.toNatClampNeg (narT t x) := by
  unfold astI at h
  split at h
  · rename_i hh
    obtain ⟨n, h1, h2⟩ := arrN_of hh.2
    cases h
    exact ⟨n, h1, fun q => q.elim hh.1 (fun q => Nat.not_le.mpr h2 q), rfl⟩
  · cases h
theorem alen_of {sh : List Shp} {t k : Nat} {x : Int32} (h : alen sh t k = some x) : ∃ n, sh[k]? = some (.inr (t, n)) ∧ Int32.ofNat n = x := by
  unfold alen at h
  split at h
  · rename_i t' n he
    by_cases ht : t' = t
    · rw [if_pos ht] at h; cases h; exact ⟨n, by rw [he, ht], rfl⟩
    · rw [if_neg ht] at h; cases h
  · cases h
-- classes by number
def clsN (ci : Nat) : String := (vwCl[ci]?).elim "" (fun q => q.1)
def clsT (ci : Nat) : u_T := (vwCl[ci]?).elim (fun _ => ("", "", "", false)) (fun q => q.2.1)
def ClsOk (ci : Nat) : Prop := vwCl[ci]? = some (clsN ci, clsT ci, nFld ci) ∧ (∀ w ∈ u_ws (clsN ci) (clsT ci) (nFld ci), w ∈ tblG) ∧ (∃ ty0 : Nat → FieldType, ∀ k, k < nFld ci → parseFieldDescriptor (clsT ci k).2.2.1 = some (ty0 k)) ∧ (∀ a, a < nFld ci → ∀ b, b < nFld ci → a ≠ b → (clsT ci a).2.1 ≠ (clsT ci b).2.1)
def Fld (own : String) (idx ci j : Nat) : Prop := ClsOk ci ∧ j < nFld ci ∧ (clsT ci j).1 = clsN ci ∧ Cond.fieldLink own idx (clsN ci) (clsT ci j).2.1 (clsT ci j).2.2.1 ∈ tblG
def FldP (own : String) (idx ci j : Nat) (ty : FieldType) : Prop := Fld own idx ci j ∧ (clsT ci j).2.2.2 = false ∧ parseFieldDescriptor (clsT ci j).2.2.1 = some ty
section ROWS
variable {l : Launch} {γ : Gm} {d nL : Nat} {ad : Nat → Nat} {sh : List Shp} {own : String} {cc : ByteArray} {ret : Option FieldType} {K : Option Value → Hp → Prop} {pc : Nat} {lv lv' : List (Nat × Value)} {st : List Value} {σ : Hp}
theorem fs_at {σ : Hp} {ci k j : Nat} (hj : j < nFld ci) : ((List.range (nFld ci)).map (fval ad σ ci k))[j]? = some (fval ad σ ci k j) := by
  rw [List.getElem?_map, List.getElem?_range hj]; rfl
theorem fs_set {σ τ : Hp} {ci k j : Nat} {v : Value} (hj : fval ad τ ci k j = v) (ho : ∀ i, i ≠ j → fval ad τ ci k i = fval ad σ ci k i) : ((List.range (nFld ci)).map (fval ad σ ci k)).set j v = (List.range (nFld ci)).map (fval ad τ ci k) := by
  apply List.ext_getElem?
  intro i
  rw [List.getElem?_set]
  by_cases hij : j = i
  · subst hij
    by_cases hl : j < nFld ci
    · rw [if_pos rfl, if_pos (by simpa using hl), fs_at hl, hj]
    · rw [if_pos rfl, if_neg (by simpa using hl)]
      symm
      rw [List.getElem?_eq_none_iff]; simpa using Nat.le_of_not_lt hl
  · rw [if_neg hij]
    by_cases hl : i < nFld ci
    · rw [fs_at hl, fs_at hl, ho i (fun e => hij e.symm)]
    · rw [List.getElem?_eq_none_iff.mpr (by simpa using Nat.le_of_not_lt hl), List.getElem?_eq_none_iff.mpr (by simpa using Nat.le_of_not_lt hl)]
theorem r_getI (hc : Cx l γ d nL ad sh own cc ret K) {idx ci k0 j : Nat} {x : Int32} (hg : getI sh ci k0 j σ = some x) (F : Fld own idx ci j) (hf : fref ci j = false) (hd : decode cc pc = .ok (.getfield idx, 3)) (k : WW l γ d nL ad sh (pc + 3) lv (.int x :: st) σ) : WW l γ d nL ad sh pc lv (.ref (ad k0) :: st) σ := by
  obtain ⟨p, e, s, m, args, below, meth, c, D, dA, A, Q⟩ := γ
  obtain ⟨hx, hb, hml, hown, hts, hnw, hK, hD, hA, hlk, hr, Qc, hQ, hret⟩ := hc
  intro H locs ls hP hS hl
  obtain ⟨⟨h1, h2, -, -⟩, hj, hC, hw⟩ := F
  obtain ⟨hs, hv⟩ := getI_of hg
  exact va_get hx hb hts h2 hown hK hP k0 (ws_get hs) h1 j hj (hts _ hw) (fun x h => by rw [← hC]; exact h) (by rw [fs_at hj]; unfold fval; rw [hf]; rw [hv]; rfl) hd (k H locs ls hP hS hl)
theorem r_getR (hc : Cx l γ d nL ad sh own cc ret K) {idx ci k0 j : Nat} {x : Nat} (hg : getR sh ci k0 j σ = some x) (F : Fld own idx ci j) (hf : fref ci j = true) (hd : decode cc pc = .ok (.getfield idx, 3)) (k : WW l γ d nL ad sh (pc + 3) lv (.ref (ad x) :: st) σ) : WW l γ d nL ad sh pc lv (.ref (ad k0) :: st) σ := by
  obtain ⟨p, e, s, m, args, below, meth, c, D, dA, A, Q⟩ := γ
  obtain ⟨hx, hb, hml, hown, hts, hnw, hK, hD, hA, hlk, hr, Qc, hQ, hret⟩ := hc
  intro H locs ls hP hS hl
  obtain ⟨⟨h1, h2, -, -⟩, hj, hC, hw⟩ := F
  obtain ⟨hs, hv⟩ := getR_of hg
  exact va_get hx hb hts h2 hown hK hP k0 (ws_get hs) h1 j hj (hts _ hw) (fun x h => by rw [← hC]; exact h) (by rw [fs_at hj]; unfold fval; rw [hf]; rw [if_pos rfl, hv]; rfl) hd (k H locs ls hP hS hl)
theorem r_putI (hc : Cx l γ d nL ad sh own cc ret K) {idx ci k0 j : Nat} {x : Int32} {σ' : Hp}  (hg : putI sh ci k0 j x σ = some σ') (F : FldP own idx ci j .int) (hf : fref ci j = false) (hd : decode cc pc = .ok (.putfield idx, 3)) (k : WW l γ d nL ad sh (pc + 3) lv st σ') : WW l γ d nL ad sh pc lv (.int x :: .ref (ad k0) :: st) σ := by
  obtain ⟨p, e, s, m, args, below, meth, c, D, dA, A, Q⟩ := γ
  obtain ⟨hx, hb, hml, hown, hts, hnw, hK, hD, hA, hlk, hr, Qc, hQ, hret⟩ := hc
  intro H locs ls hP hS hl
  obtain ⟨⟨⟨h1, h2, ⟨ty0, h3⟩, h4⟩, hj, hC, hw⟩, hfin, hty⟩ := F
  obtain ⟨hs, heq⟩ := putI_of hg
  subst heq
  refine va_put hx hb hts h2 ty0 h3 h4 hown hK hP (hD σ) hS k0 (ws_get hs) h1 j hj (hts _ hw) (fun x h => by rw [← hC]; exact h) hfin hty rfl rfl (by simpa using hj) hd (fun H1 locs1 hP1 _ hS1 => k H1 locs1 ls ?_ hS1 hl)
  rw [fs_set (τ := setI σ k0 j x) (by unfold fval; rw [hf]; simp [setI, va_rf]) (fun i hi => by unfold fval; simp [setI, hi])] at hP1
  have e : (ad k0, (Sum.inr (ci, (List.range (nFld ci)).map (fval ad (setI σ k0 j x) ci k0)) : va_E)) = (ad k0, cellE dA ad (setI σ k0 j x) k0 (.inl ci)) := rfl
  rw [e, ws_set hs (fun i hi => by funext b; simp [setI, hi]) (fun i hi => by funext b; simp [setI, hi])] at hP1
  exact hP1
theorem r_putZ (hc : Cx l γ d nL ad sh own cc ret K) {idx ci k0 j : Nat} {x : Int32} {σ' : Hp}  (hg : putZ sh ci k0 j x σ = some σ') (F : FldP own idx ci j .boolean) (hf : fref ci j = false) (hd : decode cc pc = .ok (.putfield idx, 3)) (k : WW l γ d nL ad sh (pc + 3) lv st σ') : WW l γ d nL ad sh pc lv (.int x :: .ref (ad k0) :: st) σ := by
  obtain ⟨p, e, s, m, args, below, meth, c, D, dA, A, Q⟩ := γ
  obtain ⟨hx, hb, hml, hown, hts, hnw, hK, hD, hA, hlk, hr, Qc, hQ, hret⟩ := hc
  intro H locs ls hP hS hl
  obtain ⟨⟨⟨h1, h2, ⟨ty0, h3⟩, h4⟩, hj, hC, hw⟩, hfin, hty⟩ := F
  obtain ⟨hs, hz, heq⟩ := putZ_of hg
  subst heq
  refine va_put hx hb hts h2 ty0 h3 h4 hown hK hP (hD σ) hS k0 (ws_get hs) h1 j hj (hts _ hw) (fun x h => by rw [← hC]; exact h) hfin hty (by rcases hz with rfl | rfl <;> rfl) (by rcases hz with rfl | rfl <;> rfl) (by simpa using hj) hd (fun H1 locs1 hP1 _ hS1 => k H1 locs1 ls ?_ hS1 hl)
  rw [fs_set (τ := setI σ k0 j x) (by unfold fval; rw [hf]; simp [setI, va_rf]) (fun i hi => by unfold fval; simp [setI, hi])] at hP1
  have e : (ad k0, (Sum.inr (ci, (List.range (nFld ci)).map (fval ad (setI σ k0 j x) ci k0)) : va_E)) = (ad k0, cellE dA ad (setI σ k0 j x) k0 (.inl ci)) := rfl
  rw [e, ws_set hs (fun i hi => by funext b; simp [setI, hi]) (fun i hi => by funext b; simp [setI, hi])] at hP1
  exact hP1
theorem r_putR (hc : Cx l γ d nL ad sh own cc ret K) {idx ci k0 j : Nat} {x : Nat} {σ' : Hp} {ty : FieldType} (hty2 : (∃ n, ty = .object n) ∨ ∃ t, ty = .array t) (hg : putR sh ci k0 j x σ = some σ') (F : FldP own idx ci j ty) (hf : fref ci j = true) (hd : decode cc pc = .ok (.putfield idx, 3)) (k : WW l γ d nL ad sh (pc + 3) lv st σ') : WW l γ d nL ad sh pc lv (.ref (ad x) :: .ref (ad k0) :: st) σ := by
  obtain ⟨p, e, s, m, args, below, meth, c, D, dA, A, Q⟩ := γ
  obtain ⟨hx, hb, hml, hown, hts, hnw, hK, hD, hA, hlk, hr, Qc, hQ, hret⟩ := hc
  intro H locs ls hP hS hl
  obtain ⟨⟨⟨h1, h2, ⟨ty0, h3⟩, h4⟩, hj, hC, hw⟩, hfin, hty⟩ := F
  obtain ⟨hs, heq⟩ := putR_of hg
  subst heq
  refine va_put hx hb hts h2 ty0 h3 h4 hown hK hP (hD σ) hS k0 (ws_get hs) h1 j hj (hts _ hw) (fun x h => by rw [← hC]; exact h) hfin hty (by rcases hty2 with ⟨n, rfl⟩ | ⟨t, rfl⟩ <;> rfl) (by rcases hty2 with ⟨n, rfl⟩ | ⟨t, rfl⟩ <;> rfl) (by simpa using hj) hd (fun H1 locs1 hP1 _ hS1 => k H1 locs1 ls ?_ hS1 hl)
  rw [fs_set (τ := setR σ k0 j x) (by unfold fval; rw [hf]; simp [setR, va_rf]) (fun i hi => by unfold fval; simp [setR, hi])] at hP1
  have e : (ad k0, (Sum.inr (ci, (List.range (nFld ci)).map (fval ad (setR σ k0 j x) ci k0)) : va_E)) = (ad k0, cellE dA ad (setR σ k0 j x) k0 (.inl ci)) := rfl
  rw [e, ws_set hs (fun i hi => by funext b; simp [setR, hi]) (fun i hi => by funext b; simp [setR, hi])] at hP1
  exact hP1
theorem r_iald (hc : Cx l γ d nL ad sh own cc ret K) {k0 : Nat} {i x : Int32} (hg : aldI sh 0 k0 i σ = some x) (hd : decode cc pc = .ok (.iaload, 1)) (k : WW l γ d nL ad sh (pc + 1) lv (.int x :: st) σ) : WW l γ d nL ad sh pc lv (.int i :: .ref (ad k0) :: st) σ := by
  obtain ⟨p, e, s, m, args, below, meth, c, D, dA, A, Q⟩ := γ
  obtain ⟨hx, hb, hml, hown, hts, hnw, hK, hD, hA, hlk, hr, Qc, hQ, hret⟩ := hc
  intro H locs ls hP hS hl
  obtain ⟨n, hs, hin, hv⟩ := aldI_of hg
  subst hv
  exact va_iald hx hb hK hP k0 0 (ws_get hs) rfl hin hd (k H locs ls hP hS hl)
theorem r_bald (hc : Cx l γ d nL ad sh own cc ret K) {k0 : Nat} {i x : Int32} (hg : aldI sh 1 k0 i σ = some x) (hd : decode cc pc = .ok (.baload, 1)) (k : WW l γ d nL ad sh (pc + 1) lv (.int x :: st) σ) : WW l γ d nL ad sh pc lv (.int i :: .ref (ad k0) :: st) σ := by
  obtain ⟨p, e, s, m, args, below, meth, c, D, dA, A, Q⟩ := γ
  obtain ⟨hx, hb, hml, hown, hts, hnw, hK, hD, hA, hlk, hr, Qc, hQ, hret⟩ := hc
  intro H locs ls hP hS hl
  obtain ⟨n, hs, hin, hv⟩ := aldI_of hg
  subst hv
  exact va_bald hx hb hK hP k0 1 (ws_get hs) rfl hin hd (k H locs ls hP hS hl)
theorem r_zald (hc : Cx l γ d nL ad sh own cc ret K) {k0 : Nat} {i x : Int32} (hg : aldI sh 2 k0 i σ = some x) (hd : decode cc pc = .ok (.baload, 1)) (k : WW l γ d nL ad sh (pc + 1) lv (.int x :: st) σ) : WW l γ d nL ad sh pc lv (.int i :: .ref (ad k0) :: st) σ := by
  obtain ⟨p, e, s, m, args, below, meth, c, D, dA, A, Q⟩ := γ
  obtain ⟨hx, hb, hml, hown, hts, hnw, hK, hD, hA, hlk, hr, Qc, hQ, hret⟩ := hc
  intro H locs ls hP hS hl
  obtain ⟨n, hs, hin, hv⟩ := aldI_of hg
  subst hv
  exact va_zald hx hb hK hP k0 2 (ws_get hs) rfl hin hd (k H locs ls hP hS hl)
theorem r_iast (hc : Cx l γ d nL ad sh own cc ret K) {k0 : Nat} {i x : Int32} {σ' : Hp} (hg : astI sh 0 k0 i x σ = some σ') (hd : decode cc pc = .ok (.iastore, 1)) (k : WW l γ d nL ad sh (pc + 1) lv st σ') : WW l γ d nL ad sh pc lv (.int x :: .int i :: .ref (ad k0) :: st) σ := by
  obtain ⟨p, e, s, m, args, below, meth, c, D, dA, A, Q⟩ := γ
  obtain ⟨hx, hb, hml, hown, hts, hnw, hK, hD, hA, hlk, hr, Qc, hQ, hret⟩ := hc
  intro H locs ls hP hS hl
  obtain ⟨n, hs, hin, heq⟩ := astI_of hg
  subst heq
  refine va_iast hx hb hK hP (hD σ) hS k0 0 (ws_get hs) rfl hin hd (fun H1 locs1 hP1 _ hS1 => k H1 locs1 ls ?_ hS1 hl)
  have e : (ad k0, (Sum.inl (dA 0, n, Sum.inl (upd (σ.1 k0) i.toNatClampNeg (narT 0 x))) : va_E)) = (ad k0, cellE dA ad (setI σ k0 i.toNatClampNeg (narT 0 x)) k0 (.inr (0, n))) := by
    show _ = (ad k0, (Sum.inl (dA 0, n, if 0 < 3 then Sum.inl ((setI σ k0 i.toNatClampNeg (narT 0 x)).1 k0) else _) : va_E))
    rw [if_pos (by decide)]
    have e2 : (setI σ k0 i.toNatClampNeg (narT 0 x)).1 k0 = upd (σ.1 k0) i.toNatClampNeg (narT 0 x) := by
      funext b
      simp [setI, upd]
    rw [e2]
  have hP2 : va_P D vwCl ((wsOf dA ad sh σ).set k0 (ad k0, (Sum.inl (dA 0, n, Sum.inl (upd (σ.1 k0) i.toNatClampNeg (narT 0 x))) : va_E))) H1 := hP1
  rw [e, ws_set hs (fun j hj => by funext b; simp [setI, hj]) (fun j hj => by funext b; simp [setI])] at hP2
  exact hP2
theorem r_bast (hc : Cx l γ d nL ad sh own cc ret K) {k0 : Nat} {i x : Int32} {σ' : Hp} (hg : astI sh 1 k0 i x σ = some σ') (hd : decode cc pc = .ok (.bastore, 1)) (k : WW l γ d nL ad sh (pc + 1) lv st σ') : WW l γ d nL ad sh pc lv (.int x :: .int i :: .ref (ad k0) :: st) σ := by
  obtain ⟨p, e, s, m, args, below, meth, c, D, dA, A, Q⟩ := γ
  obtain ⟨hx, hb, hml, hown, hts, hnw, hK, hD, hA, hlk, hr, Qc, hQ, hret⟩ := hc
  intro H locs ls hP hS hl
  obtain ⟨n, hs, hin, heq⟩ := astI_of hg
  subst heq
  refine va_bast hx hb hK hP (hD σ) hS k0 1 (ws_get hs) rfl hin hd (fun H1 locs1 hP1 _ hS1 => k H1 locs1 ls ?_ hS1 hl)
  have e : (ad k0, (Sum.inl (dA 1, n, Sum.inl (upd (σ.1 k0) i.toNatClampNeg (narT 1 x))) : va_E)) = (ad k0, cellE dA ad (setI σ k0 i.toNatClampNeg (narT 1 x)) k0 (.inr (1, n))) := by
    show _ = (ad k0, (Sum.inl (dA 1, n, if 1 < 3 then Sum.inl ((setI σ k0 i.toNatClampNeg (narT 1 x)).1 k0) else _) : va_E))
    rw [if_pos (by decide)]
    have e2 : (setI σ k0 i.toNatClampNeg (narT 1 x)).1 k0 = upd (σ.1 k0) i.toNatClampNeg (narT 1 x) := by
      funext b
      simp [setI, upd]
    rw [e2]
  have hP2 : va_P D vwCl ((wsOf dA ad sh σ).set k0 (ad k0, (Sum.inl (dA 1, n, Sum.inl (upd (σ.1 k0) i.toNatClampNeg (narT 1 x))) : va_E))) H1 := hP1
  rw [e, ws_set hs (fun j hj => by funext b; simp [setI, hj]) (fun j hj => by funext b; simp [setI])] at hP2
  exact hP2
theorem r_zast (hc : Cx l γ d nL ad sh own cc ret K) {k0 : Nat} {i x : Int32} {σ' : Hp} (hg : astI sh 2 k0 i x σ = some σ') (hd : decode cc pc = .ok (.bastore, 1)) (k : WW l γ d nL ad sh (pc + 1) lv st σ') : WW l γ d nL ad sh pc lv (.int x :: .int i :: .ref (ad k0) :: st) σ := by
  obtain ⟨p, e, s, m, args, below, meth, c, D, dA, A, Q⟩ := γ
  obtain ⟨hx, hb, hml, hown, hts, hnw, hK, hD, hA, hlk, hr, Qc, hQ, hret⟩ := hc
  intro H locs ls hP hS hl
  obtain ⟨n, hs, hin, heq⟩ := astI_of hg
  subst heq
  refine va_zast hx hb hK hP (hD σ) hS k0 2 (ws_get hs) rfl hin hd (fun H1 locs1 hP1 _ hS1 => k H1 locs1 ls ?_ hS1 hl)
  have e : (ad k0, (Sum.inl (dA 2, n, Sum.inl (upd (σ.1 k0) i.toNatClampNeg (narT 2 x))) : va_E)) = (ad k0, cellE dA ad (setI σ k0 i.toNatClampNeg (narT 2 x)) k0 (.inr (2, n))) := by
    show _ = (ad k0, (Sum.inl (dA 2, n, if 2 < 3 then Sum.inl ((setI σ k0 i.toNatClampNeg (narT 2 x)).1 k0) else _) : va_E))
    rw [if_pos (by decide)]
    have e2 : (setI σ k0 i.toNatClampNeg (narT 2 x)).1 k0 = upd (σ.1 k0) i.toNatClampNeg (narT 2 x) := by
      funext b
      simp [setI, upd]
    rw [e2]
  have hP2 : va_P D vwCl ((wsOf dA ad sh σ).set k0 (ad k0, (Sum.inl (dA 2, n, Sum.inl (upd (σ.1 k0) i.toNatClampNeg (narT 2 x))) : va_E))) H1 := hP1
  rw [e, ws_set hs (fun j hj => by funext b; simp [setI, hj]) (fun j hj => by funext b; simp [setI])] at hP2
  exact hP2
theorem r_aald3 (hc : Cx l γ d nL ad sh own cc ret K) {k0 : Nat} {i : Int32} {x : Nat} (hg : aldR sh 3 k0 i σ = some x) (hd : decode cc pc = .ok (.aaload, 1)) (k : WW l γ d nL ad sh (pc + 1) lv (.ref (ad x) :: st) σ) : WW l γ d nL ad sh pc lv (.int i :: .ref (ad k0) :: st) σ := by
  obtain ⟨p, e, s, m, args, below, meth, c, D, dA, A, Q⟩ := γ
  obtain ⟨hx, hb, hml, hown, hts, hnw, hK, hD, hA, hlk, hr, Qc, hQ, hret⟩ := hc
  intro H locs ls hP hS hl
  obtain ⟨n, hs, hin, hv⟩ := aldR_of hg
  refine va_aldq hx hb hK hP k0 3 (ws_get hs) rfl hin hd ?_
  rw [hv]
  exact k H locs ls hP hS hl
theorem r_aald4 (hc : Cx l γ d nL ad sh own cc ret K) {k0 : Nat} {i : Int32} {x : Nat} (hg : aldR sh 4 k0 i σ = some x) (hd : decode cc pc = .ok (.aaload, 1)) (k : WW l γ d nL ad sh (pc + 1) lv (.ref (ad x) :: st) σ) : WW l γ d nL ad sh pc lv (.int i :: .ref (ad k0) :: st) σ := by
  obtain ⟨p, e, s, m, args, below, meth, c, D, dA, A, Q⟩ := γ
  obtain ⟨hx, hb, hml, hown, hts, hnw, hK, hD, hA, hlk, hr, Qc, hQ, hret⟩ := hc
  intro H locs ls hP hS hl
  obtain ⟨n, hs, hin, hv⟩ := aldR_of hg
  refine va_aldq hx hb hK hP k0 4 (ws_get hs) rfl hin hd ?_
  rw [hv]
  exact k H locs ls hP hS hl
theorem r_alen (hc : Cx l γ d nL ad sh own cc ret K) {k0 : Nat} {x : Int32} (hg : alen sh 0 k0 = some x) (hd : decode cc pc = .ok (.arraylength, 1)) (k : WW l γ d nL ad sh (pc + 1) lv (.int x :: st) σ) : WW l γ d nL ad sh pc lv (.ref (ad k0) :: st) σ := by
  obtain ⟨p, e, s, m, args, below, meth, c, D, dA, A, Q⟩ := γ
  obtain ⟨hx, hb, hml, hown, hts, hnw, hK, hD, hA, hlk, hr, Qc, hQ, hret⟩ := hc
  intro H locs ls hP hS hl
  obtain ⟨n, hs, hv⟩ := alen_of hg
  exact va_alen hx hb hK hP k0 0 (ws_get hs) rfl hv hd (k H locs ls hP hS hl)
theorem r_iret (hc : Cx l γ d nL ad sh own cc (some .int) K) {x : Int32} (hk : K (some (.int x)) σ) (hd : decode cc pc = .ok (.ireturn, 1)) : WW l γ d nL ad sh pc lv [.int x] σ := by
  obtain ⟨p, e, s, m, args, below, meth, c, D, dA, A, Q⟩ := γ
  obtain ⟨hx, hb, hml, hown, hts, hnw, hK, hD, hA, hlk, hr, Qc, hQ, hret⟩ := hc
  intro H locs ls hP hS hl
  subst hQ
  exact W.iret hx hb hr (fun t ht hW => hret _ _ hk t (by rw [ht]; exact hP) (hS.F ht)) hS.2.2 hd hlk
theorem r_zret (hc : Cx l γ d nL ad sh own cc (some .boolean) K) {x : Int32} (hk : K (some (.int x)) σ) (hz : x = 0 ∨ x = 1) (hd : decode cc pc = .ok (.ireturn, 1)) : WW l γ d nL ad sh pc lv [.int x] σ := by
  obtain ⟨p, e, s, m, args, below, meth, c, D, dA, A, Q⟩ := γ
  obtain ⟨hx, hb, hml, hown, hts, hnw, hK, hD, hA, hlk, hr, Qc, hQ, hret⟩ := hc
  intro H locs ls hP hS hl
  subst hQ
  exact W.zret hx hb hr (by rcases hz with rfl | rfl <;> rfl) (fun t ht hW => hret _ _ hk t (by rw [ht]; exact hP) (hS.F ht)) hS.2.2 hd hlk
theorem r_vret (hc : Cx l γ d nL ad sh own cc none K) (hk : K none σ) (hd : decode cc pc = .ok (.return_, 1)) : WW l γ d nL ad sh pc lv [] σ := by
  obtain ⟨p, e, s, m, args, below, meth, c, D, dA, A, Q⟩ := γ
  obtain ⟨hx, hb, hml, hown, hts, hnw, hK, hD, hA, hlk, hr, Qc, hQ, hret⟩ := hc
  intro H locs ls hP hS hl
  subst hQ
  exact W.vret hx hb hr (fun t ht hW => hret _ _ hk t (by rw [ht]; exact hP) (hS.F ht)) hS.2.2 hd hlk
theorem r_aret {C : String} (hc : Cx l γ d nL ad sh own cc (some (.object C)) K) {x : Nat} (hk : K (some (.ref (ad x))) σ) (hd : decode cc pc = .ok (.areturn, 1)) : WW l γ d nL ad sh pc lv [.ref (ad x)] σ := by
  obtain ⟨p, e, s, m, args, below, meth, c, D, dA, A, Q⟩ := γ
  obtain ⟨hx, hb, hml, hown, hts, hnw, hK, hD, hA, hlk, hr, Qc, hQ, hret⟩ := hc
  intro H locs ls hP hS hl
  subst hQ
  exact W.aret hx hb hr (Or.inl ⟨_, rfl⟩) (Or.inr ⟨_, rfl⟩) (fun t ht hW => hret _ _ hk t (by rw [ht]; exact hP) (hS.F ht)) hS.2.2 hd hlk
end ROWS
