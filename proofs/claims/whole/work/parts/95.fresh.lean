/-! the two objects as they are born -/
section FRESH
def σ00 : Hp := (fun _ _ => 0, fun _ _ => none)
def σF : Hp := mdH 271 270 (nmH 1 0 σ00)
def s0F : Nat → Nat → Int32 := σF.1
def t0F : Nat → Nat → Int32 := fun k => σF.1 (270 + k)
def A0F : Ab := ((fun _ => 0, fun _ => E0, fun _ => nI 127, fun _ => nI 0), fun _ => (fun _ => 0, fun _ => E0, fun _ => nI 127, fun _ => nI 0), 0, fun _ => 0, 0)
theorem nm_sh : nmS [.inl 6] = shC := by decide +kernel
theorem md_sh : mdA (shC ++ [.inl 7]) = shC ++ shM := by decide +kernel
theorem cl_0 : Cl [] σ00 := ⟨(fun k j x h => by cases h), fun k _ => ⟨rfl, rfl⟩⟩
def chkRC : Bool := (List.range 270).all (fun k => match shC[k]? with
  | some (.inl c) => (List.range (nFld c)).all (fun j => !fref c j || decide (σF.2 k j = rC 253 253 k j))
  | some (.inr (t, n)) => decide (t < 3) || (List.range n).all (fun j => decide (σF.2 k j = rC 253 253 k j))
  | none => true)
theorem chkRC_ok : chkRC = true := by decide +kernel
def chkRM : Bool := (List.range 24).all (fun k => match shM[k]? with
  | some (.inl c) => decide (c = 7 ∧ k = 0)
  | some (.inr (t, _)) => decide (t < 3)
  | none => true) && (List.range 40).all (fun j => !fref 7 j || decide (σF.2 270 j = (rM 0 j).map (fun x => 270 + x)))
theorem chkRM_ok : chkRM = true := by decide +kernel
theorem refs_C {k : Nat} {z : Shp} (h : shC[k]? = some z) : match z with
  | .inl c => ∀ j, j < nFld c → fref c j = true → σF.2 k j = rC 253 253 k j
  | .inr (t, n) => t < 3 ∨ ∀ j, j < n → σF.2 k j = rC 253 253 k j := by
  have hk : k < 270 := by rw [← shC_len]; exact (List.getElem?_eq_some_iff.mp h).1
  have h1 := List.all_eq_true.mp chkRC_ok k (List.mem_range.mpr hk)
  rw [h] at h1
  cases z with
  | inl c =>
    intro j hj hf
    have h2 := List.all_eq_true.mp h1 j (List.mem_range.mpr hj)
    rw [hf] at h2
    exact of_decide_eq_true h2
  | inr q =>
    obtain ⟨t, n⟩ := q
    have h1 : (decide (t < 3) || (List.range n).all (fun j => decide (σF.2 k j = rC 253 253 k j))) = true := h1
    rw [Bool.or_eq_true, decide_eq_true_iff] at h1
    rcases h1 with h1 | h1
    · exact Or.inl h1
    · exact Or.inr fun j hj => of_decide_eq_true (List.all_eq_true.mp h1 j (List.mem_range.mpr hj))
theorem shM_len : shM.length = 24 := by decide +kernel
theorem refs_M {k : Nat} {z : Shp} (h : shM[k]? = some z) : match z with
  | .inl c => k = 0 ∧ ∀ j, j < nFld c → fref c j = true → σF.2 270 j = (rM 0 j).map (fun x => 270 + x)
  | .inr (t, _) => t < 3 := by
  have hk : k < 24 := by rw [← shM_len]; exact (List.getElem?_eq_some_iff.mp h).1
  have h0 := chkRM_ok
  unfold chkRM at h0
  rw [Bool.and_eq_true] at h0
  have h1 := List.all_eq_true.mp h0.1 k (List.mem_range.mpr hk)
  rw [h] at h1
  cases z with
  | inl c =>
    have h3 : c = 7 ∧ k = 0 := of_decide_eq_true h1
    obtain ⟨rfl, h4⟩ := h3
    refine ⟨h4, fun j hj hf => ?_⟩
    have h2 := List.all_eq_true.mp h0.2 j (List.mem_range.mpr (show j < 40 from hj))
    rw [hf] at h2
    exact of_decide_eq_true h2
  | inr q =>
    obtain ⟨t, n⟩ := q
    exact of_decide_eq_true h1
theorem arrV_cong {cI : ClassId} {N : Nat} {f g : Nat → Value} (h : ∀ j, j < N → f j = g j) : arrV cI N f = arrV cI N g := by
  unfold arrV
  congr 2
  funext j
  exact h j.val j.isLt
theorem at_c {D : va_G} {dA : Nat → ClassId} {ad ad2 : Nat → Nat} {σ τ : Hp} {k k2 q : Nat} {H : Heap} {z : Shp} (hz : match z with
  | .inl c => ∀ j, j < nFld c → fval ad σ c k j = fval ad2 τ c k2 j
  | .inr (t, n) => (t < 3 → ∀ j, j < n → σ.1 k j = τ.1 k2 j) ∧ (¬ t < 3 → ∀ j, j < n → (σ.2 k j).map ad = (τ.2 k2 j).map ad2)) (h : va_at D vwCl (q, cellE dA ad σ k z) H) : va_at D vwCl (q, cellE dA ad2 τ k2 z) H := by
  cases z with
  | inl c =>
    have e : cellE dA ad σ k (.inl c) = cellE dA ad2 τ k2 (.inl c) := by
      show (Sum.inr (c, (List.range (nFld c)).map (fval ad σ c k)) : va_E) = Sum.inr (c, (List.range (nFld c)).map (fval ad2 τ c k2))
      rw [List.map_congr_left (fun j hj => hz j (List.mem_range.mp hj))]
    rw [← e]; exact h
  | inr p =>
    obtain ⟨t, n⟩ := p
    by_cases c : t < 3
    · have e1 : ∀ (ad : Nat → Nat) (σ : Hp) (k : Nat), cellE dA ad σ k (.inr (t, n)) = Sum.inl (dA t, n, Sum.inl (σ.1 k)) := fun ad σ k => by
        unfold cellE; dsimp only; rw [if_pos c]
      rw [e1] at h ⊢
      have h : H[q]? = some (arrV (dA t) n (fun j => .int (σ.1 k j))) := h
      show H[q]? = some (arrV (dA t) n (fun j => .int (τ.1 k2 j)))
      rw [h, arrV_cong (fun j hj => by rw [hz.1 c j hj])]
    · have e1 : ∀ (ad : Nat → Nat) (σ : Hp) (k : Nat), cellE dA ad σ k (.inr (t, n)) = Sum.inl (dA t, n, Sum.inr (Sum.inr (Sum.inr (Sum.inr (fun j => (σ.2 k j).map ad))))) := fun ad σ k => by
        unfold cellE; dsimp only; rw [if_neg c]
      rw [e1] at h ⊢
      have h : H[q]? = some (arrV (dA t) n (fun j => va_rf ((σ.2 k j).map ad))) := h
      show H[q]? = some (arrV (dA t) n (fun j => va_rf ((τ.2 k2 j).map ad2)))
      rw [h, arrV_cong (fun j hj => by rw [hz.2 c j hj])]
theorem fresh_C {D : va_G} {dA : Nat → ClassId} {ad : Nat → Nat} {H : Heap} (hP : va_P D vwCl (wsOf dA ad (shC ++ shM) σF) H) : va_P D vwCl (wsOf dA ad shC (s0F, rC 253 253)) H := by
  intro k q hq
  unfold wsOf at hq
  rw [List.getElem?_mapIdx] at hq
  cases hz : shC[k]? with
  | none => rw [hz] at hq; cases hq
  | some z =>
    rw [hz] at hq
    cases hq
    have hz2 : (shC ++ shM)[k]? = some z := by rw [List.getElem?_append_left (List.getElem?_eq_some_iff.mp hz).1]; exact hz
    have h1 := hP k _ (ws_get hz2)
    have h2 := refs_C hz
    refine at_c ?_ h1
    cases z with
    | inl c =>
      intro j hj
      unfold fval
      cases hf : fref c j
      · rfl
      · rw [if_pos rfl, if_pos rfl, h2 j hj hf]
    | inr p =>
      obtain ⟨t, n⟩ := p
      exact ⟨fun _ _ _ => rfl, fun ht j hj => by rw [(h2.resolve_left ht) j hj]⟩
theorem fresh_Mg {σ : Hp} {D : va_G} {dA : Nat → ClassId} {ad : Nat → Nat} {H : Heap} (hr : ∀ j, j < 40 → fref 7 j = true → σ.2 270 j = (rM 0 j).map (fun x => 270 + x)) (hm : ∀ (k c : Nat), shM[k]? = some (Sum.inl c) → k = 0 ∧ c = 7) (ht : ∀ (k t n : Nat), shM[k]? = some (Sum.inr (t, n)) → t < 3) (hP : va_P D vwCl (wsOf dA ad (shC ++ shM) σ) H) : va_P D vwCl (wsOf dA (fun k => ad (270 + k)) shM (fun k => σ.1 (270 + k), rM)) H := by
  intro k q hq
  unfold wsOf at hq
  rw [List.getElem?_mapIdx] at hq
  cases hz : shM[k]? with
  | none => rw [hz] at hq; cases hq
  | some z =>
    rw [hz] at hq
    cases hq
    have hz2 : (shC ++ shM)[270 + k]? = some z := by
      rw [List.getElem?_append_right (by rw [shC_len]; omega), shC_len, Nat.add_sub_cancel_left]; exact hz
    have h1 := hP (270 + k) _ (ws_get hz2)
    refine at_c ?_ h1
    cases z with
    | inl c =>
      intro j hj
      obtain ⟨rfl, rfl⟩ := hm k c hz
      unfold fval
      cases hf : fref 7 j
      · rfl
      · rw [if_pos rfl, if_pos rfl]
        show va_rf ((σ.2 270 j).map ad) = va_rf ((rM 0 j).map (fun k => ad (270 + k)))
        rw [hr j hj hf, Option.map_map]
        rfl
    | inr p =>
      obtain ⟨t, n⟩ := p
      exact ⟨fun _ _ _ => rfl, fun h3 => absurd (ht k t n hz) h3⟩
theorem refs_M7 : ∀ k c, shM[k]? = some (.inl c) → k = 0 ∧ c = 7 := fun k c h => by
  have hk : k < 24 := by rw [← shM_len]; exact (List.getElem?_eq_some_iff.mp h).1
  have h0 := chkRM_ok
  unfold chkRM at h0
  rw [Bool.and_eq_true] at h0
  have h1 := List.all_eq_true.mp h0.1 k (List.mem_range.mpr hk)
  rw [h] at h1
  have h3 : c = 7 ∧ k = 0 := of_decide_eq_true h1
  exact ⟨h3.2, h3.1⟩
theorem refs_M0 : ∀ j, j < 40 → fref 7 j = true → σF.2 270 j = (rM 0 j).map (fun x => 270 + x) := fun j hj hf => by
  have h0 := chkRM_ok
  unfold chkRM at h0
  rw [Bool.and_eq_true] at h0
  have h2 := List.all_eq_true.mp h0.2 j (List.mem_range.mpr hj)
  rw [hf] at h2
  exact of_decide_eq_true h2
theorem fresh_M {D : va_G} {dA : Nat → ClassId} {ad : Nat → Nat} {H : Heap} (hP : va_P D vwCl (wsOf dA ad (shC ++ shM) σF) H) : va_P D vwCl (wsOf dA (fun k => ad (270 + k)) shM (t0F, rM)) H := fresh_Mg (σ := σF) refs_M0 refs_M7 (fun k t n h => refs_M h) hP
theorem fr_c1 : ∀ d, d < 6 → s0F (5 + 3 * d) 0 = 0 ∧ (∀ a, a < 27 → s0F (5 + 3 * d + 1) a = 0) ∧ (∀ a, a < 27 → s0F (5 + 3 * d + 2) a = 0) := by decide +kernel
theorem fr_c2 : ∀ a, a < 7 → s0F 3 a = nI 127 ∧ s0F 4 a = 0 := by decide +kernel
theorem fr_c3 : s0F 0 2 = 0 ∧ s0F 0 4 = 0 := by decide +kernel
theorem fr_m1 : (∀ d, d < 6 → t0F 1 d = 0) ∧ (∀ a, a < 7 → t0F 4 a = nI 127 ∧ t0F 5 a = 0) ∧ t0F 0 34 = 0 ∧ t0F 0 6 = 0 := by decide +kernel
theorem fresh_CC : CC s0F A0F := ⟨⟨fun d hd => ⟨(fr_c1 d hd).1, fun a ha => ((fr_c1 d hd).2.1 a ha).trans (rT_0 a).symm, fun a ha => ((fr_c1 d hd).2.2 a ha).trans (rF_0 a).symm⟩, fun a ha => (fr_c2 a ha).1, fun a ha => (fr_c2 a ha).2⟩, fun i hi => absurd hi (Nat.not_lt_zero i), fr_c3.1, fr_c3.2, fun i hi => absurd hi (Nat.not_lt_zero i)⟩
theorem fresh_MM : MM t0F A0F := ⟨⟨fun d hd => ⟨fr_m1.1 d hd, fun a ha => absurd ha (Nat.not_lt_zero a), fun a ha => absurd ha (Nat.not_lt_zero a)⟩, fun a ha => (fr_m1.2.1 a ha).1, fun a ha => (fr_m1.2.1 a ha).2⟩, fun i hi => absurd hi (Nat.not_lt_zero i), fr_m1.2.2.1, fr_m1.2.2.2, fun i hi => absurd hi (Nat.not_lt_zero i)⟩
theorem fresh_OK : OK A0F := ⟨⟨fun d hd => ⟨Nat.zero_le _, fun a b h => by cases h⟩, fun a ha => lo_nI (by omega), fun a ha => ⟨0, by omega, rfl⟩⟩, fun i hi => absurd hi (Nat.not_lt_zero i), Nat.zero_le _, Nat.zero_le _, fun i => by show 0 < 256; omega⟩
end FRESH
