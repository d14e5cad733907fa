/-! the best of a list: how good, how many, the first -/
abbrev Sum4 : Type := Nat × Nat × Nat × Nat
def bst (least : Bool) (v b : Nat) : Bool := if least = true then decide (v < b) else decide (b < v)
def sf1 (least : Bool) (a : Sum4) (v : Nat) : Sum4 := if a.2.1 = 0 ∨ bst least v a.1 = true then (v, 1, a.2.2.2, a.2.2.2 + 1) else if v = a.1 then (a.1, a.2.1 + 1, a.2.2.1, a.2.2.2 + 1) else (a.1, a.2.1, a.2.2.1, a.2.2.2 + 1)
def SF (least : Bool) (l : List Nat) : Sum4 := l.foldl (sf1 least) (0, 0, 0, 0)
def cmb (least : Bool) (a b : Sum4) : Sum4 := if b.2.1 = 0 then (a.1, a.2.1, a.2.2.1, a.2.2.2 + b.2.2.2) else if a.2.1 = 0 ∨ bst least b.1 a.1 = true then (b.1, b.2.1, a.2.2.2 + b.2.2.1, a.2.2.2 + b.2.2.2) else if b.1 = a.1 then (a.1, a.2.1 + b.2.1, a.2.2.1, a.2.2.2 + b.2.2.2) else (a.1, a.2.1, a.2.2.1, a.2.2.2 + b.2.2.2)
theorem SF_s (least : Bool) (l : List Nat) (v : Nat) : SF least (l ++ [v]) = sf1 least (SF least l) v := by
  unfold SF
  rw [List.foldl_append]
  rfl
theorem snoc_ind {α : Type} {P : List α → Prop} (h0 : P []) (hs : ∀ l v, P l → P (l ++ [v])) (l : List α) : P l := by
  have main : ∀ l : List α, P l.reverse := by
    intro l
    induction l with
    | nil => exact h0
    | cons a l ih =>
      have := hs _ a ih
      rw [← List.reverse_cons] at this
      exact this
  have := main l.reverse
  rw [List.reverse_reverse] at this
  exact this
theorem SF_k (least : Bool) : ∀ l, (SF least l).2.2.2 = l.length ∧ ((SF least l).2.1 = 0 ↔ l = []) := by
  apply snoc_ind
  · exact ⟨rfl, ⟨fun _ => rfl, fun _ => rfl⟩⟩
  · rintro l v ⟨h1, h2⟩
    rw [SF_s]
    unfold sf1
    rw [List.length_append]
    split
    · exact ⟨by show _ + 1 = _; rw [h1]; rfl, ⟨fun h => absurd h (by show ¬ (1 : Nat) = 0; omega), fun h => absurd h (by simp)⟩⟩
    · rename_i c
      split
      · exact ⟨by show _ + 1 = _; rw [h1]; rfl, ⟨fun h => absurd h (by show ¬ _ + 1 = 0; omega), fun h => absurd h (by simp)⟩⟩
      · exact ⟨by show _ + 1 = _; rw [h1]; rfl, ⟨fun h => absurd h (fun h => c (Or.inl h)), fun h => absurd h (by simp)⟩⟩
theorem bst_irr {least : Bool} {v : Nat} : bst least v v = false := by
  unfold bst
  split <;> simp
theorem bst_tr {least : Bool} {u v w : Nat} (h1 : bst least u v = true) (h2 : bst least v w = true) : bst least u w = true := by
  unfold bst at *
  split at h1
  · rename_i c; rw [if_pos c] at *; rw [decide_eq_true_iff] at *; omega
  · rename_i c; rw [if_neg c] at *; rw [decide_eq_true_iff] at *; omega
theorem bst_cmp {least : Bool} (u v : Nat) : bst least u v = true ∨ u = v ∨ bst least v u = true := by
  unfold bst
  cases least
  · simp only [Bool.false_eq_true, if_false, decide_eq_true_iff]; omega
  · simp only [if_true, decide_eq_true_iff]; omega
theorem bst_asym {least : Bool} {u v : Nat} (h1 : bst least u v = true) : ¬ bst least v u = true := fun h2 => by
  have := bst_tr h1 h2
  rw [bst_irr] at this
  cases this
theorem no_or {p q : Prop} (h1 : ¬ p) (h2 : ¬ q) : ¬ (p ∨ q) := fun h => h.elim h1 h2
section CASES
variable {least : Bool} {ab ac af ak bb bc bf bk v : Nat}
theorem sf_new (h : ac = 0 ∨ bst least v ab = true) : sf1 least (ab, ac, af, ak) v = (v, 1, ak, ak + 1) := if_pos h
theorem sf_eq (h1 : ¬ ac = 0) (h2 : ¬ bst least v ab = true) (h3 : v = ab) : sf1 least (ab, ac, af, ak) v = (ab, ac + 1, af, ak + 1) := (if_neg (no_or h1 h2)).trans (if_pos h3)
theorem sf_ne (h1 : ¬ ac = 0) (h2 : ¬ bst least v ab = true) (h3 : ¬ v = ab) : sf1 least (ab, ac, af, ak) v = (ab, ac, af, ak + 1) := (if_neg (no_or h1 h2)).trans (if_neg h3)
theorem cmv_0 (h : bc = 0) : cmb least (ab, ac, af, ak) (bb, bc, bf, bk) = (ab, ac, af, ak + bk) := if_pos h
theorem cmv_new (h0 : ¬ bc = 0) (h : ac = 0 ∨ bst least bb ab = true) : cmb least (ab, ac, af, ak) (bb, bc, bf, bk) = (bb, bc, ak + bf, ak + bk) := (if_neg h0).trans (if_pos h)
theorem cmv_eq (h0 : ¬ bc = 0) (h1 : ¬ ac = 0) (h2 : ¬ bst least bb ab = true) (h3 : bb = ab) : cmb least (ab, ac, af, ak) (bb, bc, bf, bk) = (ab, ac + bc, af, ak + bk) := (if_neg h0).trans ((if_neg (no_or h1 h2)).trans (if_pos h3))
theorem cmv_ne (h0 : ¬ bc = 0) (h1 : ¬ ac = 0) (h2 : ¬ bst least bb ab = true) (h3 : ¬ bb = ab) : cmb least (ab, ac, af, ak) (bb, bc, bf, bk) = (ab, ac, af, ak + bk) := (if_neg h0).trans ((if_neg (no_or h1 h2)).trans (if_neg h3))
end CASES
theorem one_ne : ¬ (1 : Nat) = 0 := by omega
theorem cmb_s (least : Bool) (a b : Sum4) (v : Nat) (hb : b.2.1 = 0 → b.2.2.2 = 0) : sf1 least (cmb least a b) v = cmb least a (sf1 least b v) := by
  obtain ⟨ab, ac, af, ak⟩ := a
  obtain ⟨bb, bc, bf, bk⟩ := b
  have s1 : ∀ x : Nat, ¬ x + 1 = 0 := fun x => by omega
  by_cases hc : bc = 0
  · have hk : bk = 0 := hb hc
    subst hc
    subst hk
    rw [cmv_0 rfl, sf_new (ac := 0) (Or.inl rfl)]
    by_cases h1 : ac = 0 ∨ bst least v ab = true
    · rw [sf_new h1, cmv_new one_ne h1]
    · have hac : ¬ ac = 0 := fun h => h1 (Or.inl h)
      have hva : ¬ bst least v ab = true := fun h => h1 (Or.inr h)
      by_cases h3 : v = ab
      · rw [sf_eq hac hva h3, cmv_eq one_ne hac hva h3]
      · rw [sf_ne hac hva h3, cmv_ne one_ne hac hva h3]
  · by_cases h1 : ac = 0 ∨ bst least bb ab = true
    · rw [cmv_new hc h1]
      by_cases h2 : bst least v bb = true
      · have h4 : ac = 0 ∨ bst least v ab = true := h1.elim Or.inl (fun h => Or.inr (bst_tr h2 h))
        rw [sf_new (Or.inr h2), sf_new (Or.inr h2), cmv_new one_ne h4]
        rfl
      · by_cases h3 : v = bb
        · rw [sf_eq hc h2 h3, sf_eq hc h2 h3, cmv_new (s1 _) h1]
          rfl
        · rw [sf_ne hc h2 h3, sf_ne hc h2 h3, cmv_new hc h1]
          rfl
    · have hac : ¬ ac = 0 := fun h => h1 (Or.inl h)
      have hba : ¬ bst least bb ab = true := fun h => h1 (Or.inr h)
      by_cases h2 : bst least v bb = true
      · rw [sf_new (ac := bc) (ab := bb) (Or.inr h2)]
        by_cases h4 : bst least v ab = true
        · rw [cmv_new one_ne (Or.inr h4)]
          by_cases h5 : bb = ab
          · rw [cmv_eq hc hac hba h5, sf_new (Or.inr h4)]
            rfl
          · rw [cmv_ne hc hac hba h5, sf_new (Or.inr h4)]
            rfl
        · have hbb : ¬ bb = ab := fun e => h4 (by rw [← e]; exact h2)
          rw [cmv_ne hc hac hba hbb]
          by_cases h6 : v = ab
          · rw [sf_eq hac h4 h6, cmv_eq one_ne hac h4 h6]
            rfl
          · rw [sf_ne hac h4 h6, cmv_ne one_ne hac h4 h6]
            rfl
      · have hvb : ¬ bst least v ab = true := fun h => by
          rcases bst_cmp (least := least) v bb with c | c | c
          · exact h2 c
          · rw [c] at h; exact hba h
          · exact hba (bst_tr c h)
        by_cases h3 : v = bb
        · rw [sf_eq hc h2 h3]
          by_cases h5 : bb = ab
          · rw [cmv_eq hc hac hba h5, cmv_eq (s1 _) hac hba h5, sf_eq (by omega) hvb (h3.trans h5)]
            rfl
          · rw [cmv_ne hc hac hba h5, cmv_ne (s1 _) hac hba h5, sf_ne hac hvb (fun e => h5 (h3.symm.trans e))]
            rfl
        · rw [sf_ne hc h2 h3]
          by_cases h5 : bb = ab
          · rw [cmv_eq hc hac hba h5, cmv_eq hc hac hba h5, sf_ne (by omega) hvb (fun e => h3 (e.trans h5.symm))]
            rfl
          · have hva : ¬ v = ab := fun e => by
              rcases bst_cmp (least := least) v bb with c | c | c
              · exact h2 c
              · exact h3 c
              · rw [e] at c; exact hba c
            rw [cmv_ne hc hac hba h5, cmv_ne hc hac hba h5, sf_ne hac hvb hva]
            rfl
theorem SF_app (least : Bool) (l1 : List Nat) : ∀ l2, SF least (l1 ++ l2) = cmb least (SF least l1) (SF least l2) := by
  apply snoc_ind
  · rw [List.append_nil]
    rfl
  · intro l v ih
    rw [← List.append_assoc, SF_s, SF_s, ih, cmb_s]
    intro h
    rw [(SF_k least l).1, (SF_k least l).2.mp h]
    rfl
def addb (w : Nat) (a : Sum4) : Sum4 := if a.2.1 = 0 then a else (w + a.1, a.2.1, a.2.2.1, a.2.2.2)
theorem bst_add {least : Bool} {w u v : Nat} : bst least (w + u) (w + v) = bst least u v := by
  unfold bst
  split
  · exact decide_eq_decide.mpr (by omega)
  · exact decide_eq_decide.mpr (by omega)
theorem SF_add (least : Bool) (w : Nat) : ∀ l, SF least (l.map (fun v => w + v)) = addb w (SF least l) := by
  apply snoc_ind
  · rfl
  · intro l v ih
    rw [List.map_append, List.map_cons, List.map_nil, SF_s, SF_s, ih]
    generalize SF least l = a
    obtain ⟨ab, ac, af, ak⟩ := a
    by_cases hc : ac = 0
    · have e1 : addb w (ab, ac, af, ak) = (ab, ac, af, ak) := if_pos hc
      rw [e1, sf_new (Or.inl hc), sf_new (Or.inl hc)]
      rfl
    · have e1 : addb w (ab, ac, af, ak) = (w + ab, ac, af, ak) := if_neg hc
      rw [e1]
      by_cases h2 : bst least v ab = true
      · rw [sf_new (Or.inr (by rw [bst_add]; exact h2)), sf_new (Or.inr h2)]
        rfl
      · have h2' : ¬ bst least (w + v) (w + ab) = true := by rw [bst_add]; exact h2
        by_cases h3 : v = ab
        · rw [sf_eq hc h2' (by omega), sf_eq hc h2 h3]
          exact (if_neg (by show ¬ ac + 1 = 0; omega)).symm
        · rw [sf_ne hc h2' (by omega), sf_ne hc h2 h3]
          exact (if_neg hc).symm
theorem SF_spec (least : Bool) : ∀ l, l ≠ [] → (SF least l).2.1 = l.count (SF least l).1 ∧ l[(SF least l).2.2.1]? = some (SF least l).1 ∧ (∀ i, i < (SF least l).2.2.1 → l[i]? ≠ some (SF least l).1) ∧ ∀ v, v ∈ l → bst least v (SF least l).1 = false := by
  apply snoc_ind
  · intro h; exact absurd rfl h
  · intro l v ih _
    obtain ⟨hk, hz⟩ := SF_k least l
    rw [SF_s]
    by_cases hl : l = []
    · subst hl
      have e2 : sf1 least (SF least []) v = (v, 1, 0, 1) := rfl
      rw [e2]
      refine ⟨by simp, rfl, fun i hi => absurd hi (by show ¬ i < 0; omega), fun u hu => ?_⟩
      rw [List.nil_append, List.mem_singleton] at hu
      rw [hu]
      exact bst_irr
    · obtain ⟨h1, h2, h3, h4⟩ := ih hl
      have hc : ¬ (SF least l).2.1 = 0 := fun h => hl (hz.mp h)
      generalize SF least l = a at *
      obtain ⟨ab, ac, af, ak⟩ := a
      dsimp only at *
      have haf : af < l.length := (List.getElem?_eq_some_iff.mp h2).1
      by_cases hv : bst least v ab = true
      · have e2 : sf1 least (ab, ac, af, ak) v = (v, 1, ak, ak + 1) := by
          exact sf_new (Or.inr hv)
        rw [e2]
        have hnin : v ∉ l := fun h => by
          have := h4 v h
          rw [hv] at this; cases this
        refine ⟨?_, ?_, fun i hi => ?_, fun u hu => ?_⟩
        · rw [List.count_append, List.count_eq_zero.mpr hnin]; simp
        · show (l ++ [v])[ak]? = some v
          rw [List.getElem?_append_right (by omega), hk, Nat.sub_self]; rfl
        · have hi : i < ak := hi
          rw [List.getElem?_append_left (by omega)]
          intro h
          exact hnin (List.mem_of_getElem? h)
        · rcases List.mem_append.mp hu with hu | hu
          · cases c : bst least u v
            · rfl
            · have := h4 u hu
              rw [bst_tr c hv] at this; cases this
          · rw [List.mem_singleton.mp hu]; exact bst_irr
      · by_cases he : v = ab
        · have e2 : sf1 least (ab, ac, af, ak) v = (ab, ac + 1, af, ak + 1) := by
            exact sf_eq hc hv he
          rw [e2]
          refine ⟨?_, ?_, fun i hi => ?_, fun u hu => ?_⟩
          · rw [List.count_append, ← h1, he]; simp
          · rw [List.getElem?_append_left haf]; exact h2
          · have hi : i < af := hi
            rw [List.getElem?_append_left (by omega)]; exact h3 i hi
          · rcases List.mem_append.mp hu with hu | hu
            · exact h4 u hu
            · rw [List.mem_singleton.mp hu, he]; exact bst_irr
        · have e2 : sf1 least (ab, ac, af, ak) v = (ab, ac, af, ak + 1) := by
            exact sf_ne hc hv he
          rw [e2]
          refine ⟨?_, ?_, fun i hi => ?_, fun u hu => ?_⟩
          · rw [List.count_append, ← h1, List.count_singleton]; simp; exact he
          · rw [List.getElem?_append_left haf]; exact h2
          · have hi : i < af := hi
            rw [List.getElem?_append_left (by omega)]; exact h3 i hi
          · rcases List.mem_append.mp hu with hu | hu
            · exact h4 u hu
            · rw [List.mem_singleton.mp hu]
              exact Bool.eq_false_iff.mpr hv
