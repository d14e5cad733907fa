-- NetMapsModel.in(III)Z
theorem dX7_in_0 : decode cX7_in 0 = .ok (.iload_n 0, 1) := by decide +kernel
theorem dX7_in_1 : decode cX7_in 1 = .ok (.iload_n 1, 1) := by decide +kernel
theorem dX7_in_2 : decode cX7_in 2 = .ok (.if_icmp .lt 12, 3) := by decide +kernel
theorem dX7_in_5 : decode cX7_in 5 = .ok (.iload_n 0, 1) := by decide +kernel
theorem dX7_in_6 : decode cX7_in 6 = .ok (.iload_n 2, 1) := by decide +kernel
theorem dX7_in_7 : decode cX7_in 7 = .ok (.if_icmp .gt 7, 3) := by decide +kernel
theorem dX7_in_10 : decode cX7_in 10 = .ok (.iconst 1, 1) := by decide +kernel
theorem dX7_in_11 : decode cX7_in 11 = .ok (.goto 4, 3) := by decide +kernel
theorem dX7_in_14 : decode cX7_in 14 = .ok (.iconst 0, 1) := by decide +kernel
theorem dX7_in_15 : decode cX7_in 15 = .ok (.ireturn, 1) := by decide +kernel
noncomputable def f_X7_in_b15 (s0 : Int32) (σ : Hp) : Option (Int32 × Hp) := gO (zz s0) fun _ => some (s0, σ)
set_option maxRecDepth 100000 in
set_option maxHeartbeats 4000000 in
theorem t_X7_in_b15 {l : Launch} {γ : Gm} {ad : Nat → Nat} {K : Option Value → Hp → Prop} (hc : Cx l γ 1 3 ad shM RX7 cX7_in (some .boolean) K) {s0 : Int32} {σ : Hp} (h : wpO (f_X7_in_b15 s0 σ) (KI K)) : WW l γ 1 3 ad shM 15 [] [.int s0] σ := by
  unfold f_X7_in_b15 at h
  obtain ⟨_, ek1, h⟩ := wp_g h
  have h := wp_v h
  exact r_zret hc h (zz_of ek1) dX7_in_15
noncomputable def f_X7_in_b14  (σ : Hp) : Option (Int32 × Hp) := f_X7_in_b15 0 σ
set_option maxRecDepth 100000 in
set_option maxHeartbeats 4000000 in
theorem t_X7_in_b14 {l : Launch} {γ : Gm} {ad : Nat → Nat} {K : Option Value → Hp → Prop} (hc : Cx l γ 1 3 ad shM RX7 cX7_in (some .boolean) K)  {σ : Hp} (h : wpO (f_X7_in_b14  σ) (KI K)) : WW l γ 1 3 ad shM 14 [] [] σ := by
  unfold f_X7_in_b14 at h
  refine r_iconst hc (v := 0) (by decide) dX7_in_14 ?_
  exact t_X7_in_b15 hc h
noncomputable def f_X7_in (x0 : Int32) (x1 : Int32) (x2 : Int32) (σ : Hp) : Option (Int32 × Hp) := if x0 < x1 then (f_X7_in_b14  σ) else (if x2 < x0 then (f_X7_in_b14  σ) else (f_X7_in_b15 1 σ))
set_option maxRecDepth 100000 in
set_option maxHeartbeats 4000000 in
theorem t_X7_in {l : Launch} {γ : Gm} {ad : Nat → Nat} {K : Option Value → Hp → Prop} (hc : Cx l γ 1 3 ad shM RX7 cX7_in (some .boolean) K) {x0 : Int32} {x1 : Int32} {x2 : Int32} {σ : Hp} (h : wpO (f_X7_in x0 x1 x2 σ) (KI K)) : WW l γ 1 3 ad shM 0 [(0, .int x0), (1, .int x1), (2, .int x2)] [] σ := by
  unfold f_X7_in at h
  refine r_iload_n hc 0 rfl rfl dX7_in_0 ?_
  refine r_iload_n hc 1 rfl rfl dX7_in_1 ?_
  refine r_icmp_lt hc (tgt := 14) dX7_in_2 (by decide) (fun c => ?_) (fun c => ?_)
  · have h := wp_t c h
    refine r_sub [] (lv' := []) rfl ?_
    exact t_X7_in_b14 hc h
  · have h := wp_f c h
    refine r_iload_n hc 0 rfl rfl dX7_in_5 ?_
    refine r_iload_n hc 2 rfl rfl dX7_in_6 ?_
    refine r_icmp_gt hc (tgt := 14) dX7_in_7 (by decide) (fun c => ?_) (fun c => ?_)
    · have h := wp_t c h
      refine r_sub [] (lv' := []) rfl ?_
      exact t_X7_in_b14 hc h
    · have h := wp_f c h
      refine r_iconst hc (v := 1) (by decide) dX7_in_10 ?_
      refine r_goto hc (tgt := 15) dX7_in_11 (by decide) ?_
      refine r_sub [] (lv' := []) rfl ?_
      exact t_X7_in_b15 hc h
theorem c_X7_in {l : Launch} {x0 : Int32} {x1 : Int32} {x2 : Int32} {σ σ' : Hp} {r : Int32} (h : f_X7_in x0 x1 x2 σ = some (r, σ')) : Mt l yX7_in cX7_in 3 (some .boolean) 1 shM (fun ad => [.int x0, .int x1, .int x2]) σ (fun ad => some (.int r)) σ' := mt_i (own := RX7) (by decide) rfl (fun _ => Nat.le_of_ble_eq_true rfl) (fun γ ad K hc hk => t_X7_in hc ⟨_, _, h, hk⟩)

-- NetMapsModel.has(II)Z
theorem dX7_has_0 : decode cX7_has 0 = .ok (.iload_n 0, 1) := by decide +kernel
theorem dX7_has_1 : decode cX7_has 1 = .ok (.iload_n 1, 1) := by decide +kernel
theorem dX7_has_2 : decode cX7_has 2 = .ok (.ishr, 1) := by decide +kernel
theorem dX7_has_3 : decode cX7_has 3 = .ok (.iconst 1, 1) := by decide +kernel
theorem dX7_has_4 : decode cX7_has 4 = .ok (.iand, 1) := by decide +kernel
theorem dX7_has_5 : decode cX7_has 5 = .ok (.iconst 1, 1) := by decide +kernel
theorem dX7_has_6 : decode cX7_has 6 = .ok (.if_icmp .ne 7, 3) := by decide +kernel
theorem dX7_has_9 : decode cX7_has 9 = .ok (.iconst 1, 1) := by decide +kernel
theorem dX7_has_10 : decode cX7_has 10 = .ok (.goto 4, 3) := by decide +kernel
theorem dX7_has_13 : decode cX7_has 13 = .ok (.iconst 0, 1) := by decide +kernel
theorem dX7_has_14 : decode cX7_has 14 = .ok (.ireturn, 1) := by decide +kernel
noncomputable def f_X7_has_b14 (s0 : Int32) (σ : Hp) : Option (Int32 × Hp) := gO (zz s0) fun _ => some (s0, σ)
set_option maxRecDepth 100000 in
set_option maxHeartbeats 4000000 in
theorem t_X7_has_b14 {l : Launch} {γ : Gm} {ad : Nat → Nat} {K : Option Value → Hp → Prop} (hc : Cx l γ 1 2 ad shM RX7 cX7_has (some .boolean) K) {s0 : Int32} {σ : Hp} (h : wpO (f_X7_has_b14 s0 σ) (KI K)) : WW l γ 1 2 ad shM 14 [] [.int s0] σ := by
  unfold f_X7_has_b14 at h
  obtain ⟨_, ek1, h⟩ := wp_g h
  have h := wp_v h
  exact r_zret hc h (zz_of ek1) dX7_has_14
noncomputable def f_X7_has (x0 : Int32) (x1 : Int32) (σ : Hp) : Option (Int32 × Hp) := if ((x0 >>> (x1 &&& 31)) &&& 1) = 1 then (f_X7_has_b14 1 σ) else (f_X7_has_b14 0 σ)
set_option maxRecDepth 100000 in
set_option maxHeartbeats 4000000 in
theorem t_X7_has {l : Launch} {γ : Gm} {ad : Nat → Nat} {K : Option Value → Hp → Prop} (hc : Cx l γ 1 2 ad shM RX7 cX7_has (some .boolean) K) {x0 : Int32} {x1 : Int32} {σ : Hp} (h : wpO (f_X7_has x0 x1 σ) (KI K)) : WW l γ 1 2 ad shM 0 [(0, .int x0), (1, .int x1)] [] σ := by
  unfold f_X7_has at h
  refine r_iload_n hc 0 rfl rfl dX7_has_0 ?_
  refine r_iload_n hc 1 rfl rfl dX7_has_1 ?_
  refine r_ishr hc dX7_has_2 ?_
  refine r_iconst hc (v := 1) (by decide) dX7_has_3 ?_
  refine r_iand hc dX7_has_4 ?_
  refine r_iconst hc (v := 1) (by decide) dX7_has_5 ?_
  refine r_icmp_ne hc (tgt := 13) dX7_has_6 (by decide) (fun c => ?_) (fun c => ?_)
  · have h := wp_f c h
    refine r_iconst hc (v := 0) (by decide) dX7_has_13 ?_
    refine r_sub [] (lv' := []) rfl ?_
    exact t_X7_has_b14 hc h
  · have h := wp_t c h
    refine r_iconst hc (v := 1) (by decide) dX7_has_9 ?_
    refine r_goto hc (tgt := 14) dX7_has_10 (by decide) ?_
    refine r_sub [] (lv' := []) rfl ?_
    exact t_X7_has_b14 hc h
theorem c_X7_has {l : Launch} {x0 : Int32} {x1 : Int32} {σ σ' : Hp} {r : Int32} (h : f_X7_has x0 x1 σ = some (r, σ')) : Mt l yX7_has cX7_has 2 (some .boolean) 1 shM (fun ad => [.int x0, .int x1]) σ (fun ad => some (.int r)) σ' := mt_i (own := RX7) (by decide) rfl (fun _ => Nat.le_of_ble_eq_true rfl) (fun γ ad K hc hk => t_X7_has hc ⟨_, _, h, hk⟩)

-- NetMapsModel.bits(I)I
theorem dX7_bits_0 : decode cX7_bits 0 = .ok (.iconst 0, 1) := by decide +kernel
theorem dX7_bits_1 : decode cX7_bits 1 = .ok (.istore_n 1, 1) := by decide +kernel
theorem dX7_bits_2 : decode cX7_bits 2 = .ok (.iload_n 0, 1) := by decide +kernel
theorem dX7_bits_3 : decode cX7_bits 3 = .ok (.istore_n 2, 1) := by decide +kernel
theorem dX7_bits_4 : decode cX7_bits 4 = .ok (.iload_n 2, 1) := by decide +kernel
theorem dX7_bits_5 : decode cX7_bits 5 = .ok (.ifCond .eq 16, 3) := by decide +kernel
theorem dX7_bits_8 : decode cX7_bits 8 = .ok (.iload_n 1, 1) := by decide +kernel
theorem dX7_bits_9 : decode cX7_bits 9 = .ok (.iconst 1, 1) := by decide +kernel
theorem dX7_bits_10 : decode cX7_bits 10 = .ok (.iadd, 1) := by decide +kernel
theorem dX7_bits_11 : decode cX7_bits 11 = .ok (.istore_n 1, 1) := by decide +kernel
theorem dX7_bits_12 : decode cX7_bits 12 = .ok (.iload_n 2, 1) := by decide +kernel
theorem dX7_bits_13 : decode cX7_bits 13 = .ok (.iload_n 2, 1) := by decide +kernel
theorem dX7_bits_14 : decode cX7_bits 14 = .ok (.iconst 1, 1) := by decide +kernel
theorem dX7_bits_15 : decode cX7_bits 15 = .ok (.isub, 1) := by decide +kernel
theorem dX7_bits_16 : decode cX7_bits 16 = .ok (.iand, 1) := by decide +kernel
theorem dX7_bits_17 : decode cX7_bits 17 = .ok (.istore_n 2, 1) := by decide +kernel
theorem dX7_bits_18 : decode cX7_bits 18 = .ok (.goto (-14), 3) := by decide +kernel
theorem dX7_bits_21 : decode cX7_bits 21 = .ok (.iload_n 1, 1) := by decide +kernel
theorem dX7_bits_22 : decode cX7_bits 22 = .ok (.ireturn, 1) := by decide +kernel
noncomputable def f_X7_bits_L4  (v : (Int32 × Int32)) (σ : Hp) : Option (((Int32 × Int32) ⊕ (Int32)) × Hp) := if v.2 = 0 then (some (Sum.inr v.1, σ)) else (some (Sum.inl ((v.1 + 1), (v.2 &&& (v.2 - 1))), σ))
set_option maxRecDepth 100000 in
set_option maxHeartbeats 4000000 in
theorem t_X7_bits_L4 {l : Launch} {γ : Gm} {ad : Nat → Nat} {K : Option Value → Hp → Prop}  (hc : Cx l γ 1 3 ad shM RX7 cX7_bits (some .int) K)  {v : (Int32 × Int32)} {σ : Hp} {KX : (Int32) → Hp → Prop} (h : wpO (wh (f_X7_bits_L4 ) v σ) KX) (kx21 : ∀ (v : Int32) (σ : Hp), KX v σ → WW l γ 1 3 ad shM 21 [(1, .int v)] [] σ) : WW l γ 1 3 ad shM 4 [(1, .int v.1), (2, .int v.2)] [] σ := by
  refine wh_W (P := fun v σ => WW l γ 1 3 ad shM 4 [(1, .int v.1), (2, .int v.2)] [] σ) (fun v σ h => ?_) h
  have kn : ∀ (v : (Int32 × Int32)) (σ : Hp), WW l γ 1 3 ad shM 4 [(1, .int v.1), (2, .int v.2)] [] σ → WW l γ 1 3 ad shM 4 [(1, .int v.1), (2, .int v.2)] [] σ := fun _ _ h => h
  · unfold f_X7_bits_L4 at h
    refine r_iload_n hc 1 rfl rfl dX7_bits_4 ?_
    refine r_if_eq hc (tgt := 21) dX7_bits_5 (by decide) (fun c => ?_) (fun c => ?_)
    · have h := wp_t c h
      refine r_sub [0] (lv' := [(1, .int v.1)]) rfl ?_
      have h := wp_v h
      exact kx21 v.1 _ h
    · have h := wp_f c h
      refine r_iload_n hc 0 rfl rfl dX7_bits_8 ?_
      refine r_iconst hc (v := 1) (by decide) dX7_bits_9 ?_
      refine r_iadd hc dX7_bits_10 ?_
      refine r_istore_nE hc (i := 1) (lv' := [(1, .int (v.1 + 1)), (2, .int v.2)]) rfl rfl (by decide) rfl dX7_bits_11 ?_
      refine r_iload_n hc 1 rfl rfl dX7_bits_12 ?_
      refine r_iload_n hc 1 rfl rfl dX7_bits_13 ?_
      refine r_iconst hc (v := 1) (by decide) dX7_bits_14 ?_
      refine r_isub hc dX7_bits_15 ?_
      refine r_iand hc dX7_bits_16 ?_
      refine r_istore_nE hc (i := 2) (lv' := [(2, .int (v.2 &&& (v.2 - 1))), (1, .int (v.1 + 1))]) rfl rfl (by decide) rfl dX7_bits_17 ?_
      refine r_goto hc (tgt := 4) dX7_bits_18 (by decide) ?_
      refine r_sub [1, 0] (lv' := [(1, .int (v.1 + 1)), (2, .int (v.2 &&& (v.2 - 1)))]) rfl ?_
      have h := wp_v h
      exact kn ((v.1 + 1), (v.2 &&& (v.2 - 1))) _ h
noncomputable def f_X7_bits (x0 : Int32) (σ : Hp) : Option (Int32 × Hp) := bO (wh (f_X7_bits_L4 ) (0, x0) σ) fun y1 σ2 => (some (y1, σ2))
set_option maxRecDepth 100000 in
set_option maxHeartbeats 4000000 in
theorem t_X7_bits {l : Launch} {γ : Gm} {ad : Nat → Nat} {K : Option Value → Hp → Prop} (hc : Cx l γ 1 3 ad shM RX7 cX7_bits (some .int) K) {x0 : Int32} {σ : Hp} (h : wpO (f_X7_bits x0 σ) (KI K)) : WW l γ 1 3 ad shM 0 [(0, .int x0)] [] σ := by
  unfold f_X7_bits at h
  refine r_iconst hc (v := 0) (by decide) dX7_bits_0 ?_
  refine r_istore_nE hc (i := 1) (lv' := [(1, .int 0), (0, .int x0)]) rfl rfl (by decide) rfl dX7_bits_1 ?_
  refine r_iload_n hc 1 rfl rfl dX7_bits_2 ?_
  refine r_istore_nE hc (i := 2) (lv' := [(2, .int x0), (1, .int 0), (0, .int x0)]) rfl rfl (by decide) rfl dX7_bits_3 ?_
  refine r_sub [1, 0] (lv' := [(1, .int 0), (2, .int x0)]) rfl ?_
  refine t_X7_bits_L4 hc (wp_bb h) ?_
  · intro y1 σ2 h
    refine r_iload_n hc 0 rfl rfl dX7_bits_21 ?_
    have h := wp_v h
    exact r_iret hc h dX7_bits_22
theorem c_X7_bits {l : Launch} {x0 : Int32} {σ σ' : Hp} {r : Int32} (h : f_X7_bits x0 σ = some (r, σ')) : Mt l yX7_bits cX7_bits 3 (some .int) 1 shM (fun ad => [.int x0]) σ (fun ad => some (.int r)) σ' := mt_i (own := RX7) (by decide) rfl (fun _ => Nat.le_of_ble_eq_true rfl) (fun γ ad K hc hk => t_X7_bits hc ⟨_, _, h, hk⟩)

-- NetMapsModel.lowest(I)I
theorem dX7_lowest_0 : decode cX7_lowest 0 = .ok (.iconst 0, 1) := by decide +kernel
theorem dX7_lowest_1 : decode cX7_lowest 1 = .ok (.istore_n 1, 1) := by decide +kernel
theorem dX7_lowest_2 : decode cX7_lowest 2 = .ok (.iload_n 0, 1) := by decide +kernel
theorem dX7_lowest_3 : decode cX7_lowest 3 = .ok (.iload_n 1, 1) := by decide +kernel
theorem dX7_lowest_4 : decode cX7_lowest 4 = .ok (.ishr, 1) := by decide +kernel
theorem dX7_lowest_5 : decode cX7_lowest 5 = .ok (.iconst 1, 1) := by decide +kernel
theorem dX7_lowest_6 : decode cX7_lowest 6 = .ok (.iand, 1) := by decide +kernel
theorem dX7_lowest_7 : decode cX7_lowest 7 = .ok (.ifCond .ne 10, 3) := by decide +kernel
theorem dX7_lowest_10 : decode cX7_lowest 10 = .ok (.iload_n 1, 1) := by decide +kernel
theorem dX7_lowest_11 : decode cX7_lowest 11 = .ok (.iconst 1, 1) := by decide +kernel
theorem dX7_lowest_12 : decode cX7_lowest 12 = .ok (.iadd, 1) := by decide +kernel
theorem dX7_lowest_13 : decode cX7_lowest 13 = .ok (.istore_n 1, 1) := by decide +kernel
theorem dX7_lowest_14 : decode cX7_lowest 14 = .ok (.goto (-12), 3) := by decide +kernel
theorem dX7_lowest_17 : decode cX7_lowest 17 = .ok (.iload_n 1, 1) := by decide +kernel
theorem dX7_lowest_18 : decode cX7_lowest 18 = .ok (.ireturn, 1) := by decide +kernel
noncomputable def f_X7_lowest_L2 (x0 : Int32) (v : (Int32)) (σ : Hp) : Option (((Int32) ⊕ (Int32)) × Hp) := if ((x0 >>> (v &&& 31)) &&& 1) = 0 then (some (Sum.inl (v + 1), σ)) else (some (Sum.inr v, σ))
set_option maxRecDepth 100000 in
set_option maxHeartbeats 4000000 in
theorem t_X7_lowest_L2 {l : Launch} {γ : Gm} {ad : Nat → Nat} {K : Option Value → Hp → Prop}  (hc : Cx l γ 1 2 ad shM RX7 cX7_lowest (some .int) K) {x0 : Int32} {v : (Int32)} {σ : Hp} {KX : (Int32) → Hp → Prop} (h : wpO (wh (f_X7_lowest_L2 x0) v σ) KX) (kx17 : ∀ (v : Int32) (σ : Hp), KX v σ → WW l γ 1 2 ad shM 17 [(1, .int v)] [] σ) : WW l γ 1 2 ad shM 2 [(0, .int x0), (1, .int v)] [] σ := by
  refine wh_W (P := fun v σ => WW l γ 1 2 ad shM 2 [(0, .int x0), (1, .int v)] [] σ) (fun v σ h => ?_) h
  have kn : ∀ (v : (Int32)) (σ : Hp), WW l γ 1 2 ad shM 2 [(0, .int x0), (1, .int v)] [] σ → WW l γ 1 2 ad shM 2 [(0, .int x0), (1, .int v)] [] σ := fun _ _ h => h
  · unfold f_X7_lowest_L2 at h
    refine r_iload_n hc 0 rfl rfl dX7_lowest_2 ?_
    refine r_iload_n hc 1 rfl rfl dX7_lowest_3 ?_
    refine r_ishr hc dX7_lowest_4 ?_
    refine r_iconst hc (v := 1) (by decide) dX7_lowest_5 ?_
    refine r_iand hc dX7_lowest_6 ?_
    refine r_if_ne hc (tgt := 17) dX7_lowest_7 (by decide) (fun c => ?_) (fun c => ?_)
    · have h := wp_f c h
      refine r_sub [1] (lv' := [(1, .int v)]) rfl ?_
      have h := wp_v h
      exact kx17 v _ h
    · have h := wp_t c h
      refine r_iload_n hc 1 rfl rfl dX7_lowest_10 ?_
      refine r_iconst hc (v := 1) (by decide) dX7_lowest_11 ?_
      refine r_iadd hc dX7_lowest_12 ?_
      refine r_istore_nE hc (i := 1) (lv' := [(1, .int (v + 1)), (0, .int x0)]) rfl rfl (by decide) rfl dX7_lowest_13 ?_
      refine r_goto hc (tgt := 2) dX7_lowest_14 (by decide) ?_
      refine r_sub [1, 0] (lv' := [(0, .int x0), (1, .int (v + 1))]) rfl ?_
      have h := wp_v h
      exact kn (v + 1) _ h
noncomputable def f_X7_lowest (x0 : Int32) (σ : Hp) : Option (Int32 × Hp) := bO (wh (f_X7_lowest_L2 x0) 0 σ) fun y1 σ2 => (some (y1, σ2))
set_option maxRecDepth 100000 in
set_option maxHeartbeats 4000000 in
theorem t_X7_lowest {l : Launch} {γ : Gm} {ad : Nat → Nat} {K : Option Value → Hp → Prop} (hc : Cx l γ 1 2 ad shM RX7 cX7_lowest (some .int) K) {x0 : Int32} {σ : Hp} (h : wpO (f_X7_lowest x0 σ) (KI K)) : WW l γ 1 2 ad shM 0 [(0, .int x0)] [] σ := by
  unfold f_X7_lowest at h
  refine r_iconst hc (v := 0) (by decide) dX7_lowest_0 ?_
  refine r_istore_nE hc (i := 1) (lv' := [(1, .int 0), (0, .int x0)]) rfl rfl (by decide) rfl dX7_lowest_1 ?_
  refine r_sub [1, 0] (lv' := [(0, .int x0), (1, .int 0)]) rfl ?_
  refine t_X7_lowest_L2 hc (wp_bb h) ?_
  · intro y1 σ2 h
    refine r_iload_n hc 0 rfl rfl dX7_lowest_17 ?_
    have h := wp_v h
    exact r_iret hc h dX7_lowest_18
theorem c_X7_lowest {l : Launch} {x0 : Int32} {σ σ' : Hp} {r : Int32} (h : f_X7_lowest x0 σ = some (r, σ')) : Mt l yX7_lowest cX7_lowest 2 (some .int) 1 shM (fun ad => [.int x0]) σ (fun ad => some (.int r)) σ' := mt_i (own := RX7) (by decide) rfl (fun _ => Nat.le_of_ble_eq_true rfl) (fun γ ad K hc hk => t_X7_lowest hc ⟨_, _, h, hk⟩)

-- NetMapsModel.isDrawer(I)Z
theorem dX7_isDrawer_0 : decode cX7_isDrawer 0 = .ok (.iload_n 0, 1) := by decide +kernel
theorem dX7_isDrawer_1 : decode cX7_isDrawer 1 = .ok (.iconst 0, 1) := by decide +kernel
theorem dX7_isDrawer_2 : decode cX7_isDrawer 2 = .ok (.iconst 5, 1) := by decide +kernel
theorem dX7_isDrawer_3 : decode cX7_isDrawer 3 = .ok (.invokestatic 81, 3) := by decide +kernel
theorem dX7_isDrawer_6 : decode cX7_isDrawer 6 = .ok (.ireturn, 1) := by decide +kernel
noncomputable def f_X7_isDrawer (x0 : Int32) (σ : Hp) : Option (Int32 × Hp) := bO (f_X7_in x0 0 5 σ) fun r1 σ2 => gO (zz r1) fun _ => some (r1, σ2)
set_option maxRecDepth 100000 in
set_option maxHeartbeats 4000000 in
theorem t_X7_isDrawer {l : Launch} {γ : Gm} {ad : Nat → Nat} {K : Option Value → Hp → Prop} (hc : Cx l γ 2 1 ad shM RX7 cX7_isDrawer (some .boolean) K) {x0 : Int32} {σ : Hp} (h : wpO (f_X7_isDrawer x0 σ) (KI K)) : WW l γ 2 1 ad shM 0 [(0, .int x0)] [] σ := by
  unfold f_X7_isDrawer at h
  refine r_iload_n hc 0 rfl rfl dX7_isDrawer_0 ?_
  refine r_iconst hc (v := 0) (by decide) dX7_isDrawer_1 ?_
  refine r_iconst hc (v := 5) (by decide) dX7_isDrawer_2 ?_
  obtain ⟨r1, σ2, er1, h⟩ := wp_b h
  refine r_callS hc ms_X7_in ml_X7_81 (c_X7_in er1) rfl rfl (by decide) rfl (Nat.le_of_ble_eq_true rfl) dX7_isDrawer_3 ?_
  obtain ⟨_, ek3, h⟩ := wp_g h
  have h := wp_v h
  exact r_zret hc h (zz_of ek3) dX7_isDrawer_6
theorem c_X7_isDrawer {l : Launch} {x0 : Int32} {σ σ' : Hp} {r : Int32} (h : f_X7_isDrawer x0 σ = some (r, σ')) : Mt l yX7_isDrawer cX7_isDrawer 1 (some .boolean) 2 shM (fun ad => [.int x0]) σ (fun ad => some (.int r)) σ' := mt_i (own := RX7) (by decide) rfl (fun _ => Nat.le_of_ble_eq_true rfl) (fun γ ad K hc hk => t_X7_isDrawer hc ⟨_, _, h, hk⟩)

-- NetMapsModel.isEmpty(I)Z
theorem dX7_isEmpty_0 : decode cX7_isEmpty 0 = .ok (.aload_n 0, 1) := by decide +kernel
theorem dX7_isEmpty_1 : decode cX7_isEmpty 1 = .ok (.getfield 7, 3) := by decide +kernel
theorem dX7_isEmpty_4 : decode cX7_isEmpty 4 = .ok (.iload_n 1, 1) := by decide +kernel
theorem dX7_isEmpty_5 : decode cX7_isEmpty 5 = .ok (.iaload, 1) := by decide +kernel
theorem dX7_isEmpty_6 : decode cX7_isEmpty 6 = .ok (.ifCond .ne 7, 3) := by decide +kernel
theorem dX7_isEmpty_9 : decode cX7_isEmpty 9 = .ok (.iconst 1, 1) := by decide +kernel
theorem dX7_isEmpty_10 : decode cX7_isEmpty 10 = .ok (.goto 4, 3) := by decide +kernel
theorem dX7_isEmpty_13 : decode cX7_isEmpty 13 = .ok (.iconst 0, 1) := by decide +kernel
theorem dX7_isEmpty_14 : decode cX7_isEmpty 14 = .ok (.ireturn, 1) := by decide +kernel
noncomputable def f_X7_isEmpty_b14 (s0 : Int32) (σ : Hp) : Option (Int32 × Hp) := gO (zz s0) fun _ => some (s0, σ)
set_option maxRecDepth 100000 in
set_option maxHeartbeats 4000000 in
theorem t_X7_isEmpty_b14 {l : Launch} {γ : Gm} {ad : Nat → Nat} {K : Option Value → Hp → Prop} (hc : Cx l γ 1 2 ad shM RX7 cX7_isEmpty (some .boolean) K) {s0 : Int32} {σ : Hp} (h : wpO (f_X7_isEmpty_b14 s0 σ) (KI K)) : WW l γ 1 2 ad shM 14 [] [.int s0] σ := by
  unfold f_X7_isEmpty_b14 at h
  obtain ⟨_, ek1, h⟩ := wp_g h
  have h := wp_v h
  exact r_zret hc h (zz_of ek1) dX7_isEmpty_14
noncomputable def f_X7_isEmpty (x0 : Nat) (x1 : Int32) (σ : Hp) : Option (Int32 × Hp) := gO (getR shM 7 x0 0 σ) fun v1 => gO (aldI shM 0 v1 x1 σ) fun v2 => if v2 = 0 then (f_X7_isEmpty_b14 1 σ) else (f_X7_isEmpty_b14 0 σ)
set_option maxRecDepth 100000 in
set_option maxHeartbeats 4000000 in
theorem t_X7_isEmpty {l : Launch} {γ : Gm} {ad : Nat → Nat} {K : Option Value → Hp → Prop} (hc : Cx l γ 1 2 ad shM RX7 cX7_isEmpty (some .boolean) K) {x0 : Nat} {x1 : Int32} {σ : Hp} (h : wpO (f_X7_isEmpty x0 x1 σ) (KI K)) : WW l γ 1 2 ad shM 0 [(0, .ref (ad x0)), (1, .int x1)] [] σ := by
  unfold f_X7_isEmpty at h
  refine r_aload_n hc 0 rfl rfl dX7_isEmpty_0 ?_
  obtain ⟨v1, ev1, h⟩ := wp_g h
  refine r_getR hc ev1 fl_X7_7 rfl dX7_isEmpty_1 ?_
  refine r_iload_n hc 1 rfl rfl dX7_isEmpty_4 ?_
  obtain ⟨v2, ev2, h⟩ := wp_g h
  refine r_iald hc ev2 dX7_isEmpty_5 ?_
  refine r_if_ne hc (tgt := 13) dX7_isEmpty_6 (by decide) (fun c => ?_) (fun c => ?_)
  · have h := wp_f c h
    refine r_iconst hc (v := 0) (by decide) dX7_isEmpty_13 ?_
    refine r_sub [] (lv' := []) rfl ?_
    exact t_X7_isEmpty_b14 hc h
  · have h := wp_t c h
    refine r_iconst hc (v := 1) (by decide) dX7_isEmpty_9 ?_
    refine r_goto hc (tgt := 14) dX7_isEmpty_10 (by decide) ?_
    refine r_sub [] (lv' := []) rfl ?_
    exact t_X7_isEmpty_b14 hc h
theorem c_X7_isEmpty {l : Launch} {x0 : Nat} {x1 : Int32} {σ σ' : Hp} {r : Int32} (h : f_X7_isEmpty x0 x1 σ = some (r, σ')) : Mt l yX7_isEmpty cX7_isEmpty 2 (some .boolean) 1 shM (fun ad => [.ref (ad x0), .int x1]) σ (fun ad => some (.int r)) σ' := mt_i (own := RX7) (by decide) rfl (fun _ => Nat.le_of_ble_eq_true rfl) (fun γ ad K hc hk => t_X7_isEmpty hc ⟨_, _, h, hk⟩)

-- NetMapsModel.isNode(II)Z
theorem dX7_isNode_0 : decode cX7_isNode 0 = .ok (.iload_n 2, 1) := by decide +kernel
theorem dX7_isNode_1 : decode cX7_isNode 1 = .ok (.iconst 0, 1) := by decide +kernel
theorem dX7_isNode_2 : decode cX7_isNode 2 = .ok (.aload_n 0, 1) := by decide +kernel
theorem dX7_isNode_3 : decode cX7_isNode 3 = .ok (.iload_n 1, 1) := by decide +kernel
theorem dX7_isNode_4 : decode cX7_isNode 4 = .ok (.invokevirtual 85, 3) := by decide +kernel
theorem dX7_isNode_7 : decode cX7_isNode 7 = .ok (.ifCond .eq 8, 3) := by decide +kernel
theorem dX7_isNode_10 : decode cX7_isNode 10 = .ok (.bipush 7, 2) := by decide +kernel
theorem dX7_isNode_12 : decode cX7_isNode 12 = .ok (.goto 9, 3) := by decide +kernel
theorem dX7_isNode_15 : decode cX7_isNode 15 = .ok (.aload_n 0, 1) := by decide +kernel
theorem dX7_isNode_16 : decode cX7_isNode 16 = .ok (.getfield 7, 3) := by decide +kernel
theorem dX7_isNode_19 : decode cX7_isNode 19 = .ok (.iload_n 1, 1) := by decide +kernel
theorem dX7_isNode_20 : decode cX7_isNode 20 = .ok (.iaload, 1) := by decide +kernel
theorem dX7_isNode_21 : decode cX7_isNode 21 = .ok (.iconst 1, 1) := by decide +kernel
theorem dX7_isNode_22 : decode cX7_isNode 22 = .ok (.isub, 1) := by decide +kernel
theorem dX7_isNode_23 : decode cX7_isNode 23 = .ok (.invokestatic 81, 3) := by decide +kernel
theorem dX7_isNode_26 : decode cX7_isNode 26 = .ok (.ireturn, 1) := by decide +kernel
noncomputable def f_X7_isNode_b21 (s0 : Int32) (s1 : Int32) (s2 : Int32) (σ : Hp) : Option (Int32 × Hp) := bO (f_X7_in s0 s1 (s2 - 1) σ) fun r1 σ2 => gO (zz r1) fun _ => some (r1, σ2)
set_option maxRecDepth 100000 in
set_option maxHeartbeats 4000000 in
theorem t_X7_isNode_b21 {l : Launch} {γ : Gm} {ad : Nat → Nat} {K : Option Value → Hp → Prop} (hc : Cx l γ 2 3 ad shM RX7 cX7_isNode (some .boolean) K) {s0 : Int32} {s1 : Int32} {s2 : Int32} {σ : Hp} (h : wpO (f_X7_isNode_b21 s0 s1 s2 σ) (KI K)) : WW l γ 2 3 ad shM 21 [] [.int s2, .int s1, .int s0] σ := by
  unfold f_X7_isNode_b21 at h
  refine r_iconst hc (v := 1) (by decide) dX7_isNode_21 ?_
  refine r_isub hc dX7_isNode_22 ?_
  obtain ⟨r1, σ2, er1, h⟩ := wp_b h
  refine r_callS hc ms_X7_in ml_X7_81 (c_X7_in er1) rfl rfl (by decide) rfl (Nat.le_of_ble_eq_true rfl) dX7_isNode_23 ?_
  obtain ⟨_, ek3, h⟩ := wp_g h
  have h := wp_v h
  exact r_zret hc h (zz_of ek3) dX7_isNode_26
noncomputable def f_X7_isNode (x0 : Nat) (x1 : Int32) (x2 : Int32) (σ : Hp) : Option (Int32 × Hp) := gO (chk shM x0 7) fun _ => bO (f_X7_isEmpty x0 x1 σ) fun r1 σ2 => if r1 = 0 then (gO (getR shM 7 x0 0 σ2) fun v4 => gO (aldI shM 0 v4 x1 σ2) fun v5 => f_X7_isNode_b21 x2 0 v5 σ2) else (f_X7_isNode_b21 x2 0 7 σ2)
set_option maxRecDepth 100000 in
set_option maxHeartbeats 4000000 in
theorem t_X7_isNode {l : Launch} {γ : Gm} {ad : Nat → Nat} {K : Option Value → Hp → Prop} (hc : Cx l γ 2 3 ad shM RX7 cX7_isNode (some .boolean) K) {x0 : Nat} {x1 : Int32} {x2 : Int32} {σ : Hp} (h : wpO (f_X7_isNode x0 x1 x2 σ) (KI K)) : WW l γ 2 3 ad shM 0 [(0, .ref (ad x0)), (1, .int x1), (2, .int x2)] [] σ := by
  unfold f_X7_isNode at h
  refine r_iload_n hc 2 rfl rfl dX7_isNode_0 ?_
  refine r_iconst hc (v := 0) (by decide) dX7_isNode_1 ?_
  refine r_aload_n hc 0 rfl rfl dX7_isNode_2 ?_
  refine r_iload_n hc 1 rfl rfl dX7_isNode_3 ?_
  obtain ⟨_, ek3, h⟩ := wp_g h
  obtain ⟨r1, σ2, er1, h⟩ := wp_b h
  refine r_callV hc (k0 := x0) mv_X7_isEmpty ml_X7_85 (c_X7_isEmpty er1) (chk_of ek3) cls_7.1 rfl rfl rfl (by decide) rfl (Nat.le_of_ble_eq_true rfl) dX7_isNode_4 ?_
  refine r_if_eq hc (tgt := 15) dX7_isNode_7 (by decide) (fun c => ?_) (fun c => ?_)
  · have h := wp_t c h
    refine r_aload_n hc 0 rfl rfl dX7_isNode_15 ?_
    obtain ⟨v4, ev4, h⟩ := wp_g h
    refine r_getR hc ev4 fl_X7_7 rfl dX7_isNode_16 ?_
    refine r_iload_n hc 1 rfl rfl dX7_isNode_19 ?_
    obtain ⟨v5, ev5, h⟩ := wp_g h
    refine r_iald hc ev5 dX7_isNode_20 ?_
    refine r_sub [] (lv' := []) rfl ?_
    exact t_X7_isNode_b21 hc h
  · have h := wp_f c h
    refine r_bipush hc (v := 7) (by decide) dX7_isNode_10 ?_
    refine r_goto hc (tgt := 21) dX7_isNode_12 (by decide) ?_
    refine r_sub [] (lv' := []) rfl ?_
    exact t_X7_isNode_b21 hc h
theorem c_X7_isNode {l : Launch} {x0 : Nat} {x1 : Int32} {x2 : Int32} {σ σ' : Hp} {r : Int32} (h : f_X7_isNode x0 x1 x2 σ = some (r, σ')) : Mt l yX7_isNode cX7_isNode 3 (some .boolean) 2 shM (fun ad => [.ref (ad x0), .int x1, .int x2]) σ (fun ad => some (.int r)) σ' := mt_i (own := RX7) (by decide) rfl (fun _ => Nat.le_of_ble_eq_true rfl) (fun γ ad K hc hk => t_X7_isNode hc ⟨_, _, h, hk⟩)

-- NetMapsModel.isLine(III)Z
theorem dX7_isLine_0 : decode cX7_isLine 0 = .ok (.aload_n 0, 1) := by decide +kernel
theorem dX7_isLine_1 : decode cX7_isLine 1 = .ok (.getfield 13, 3) := by decide +kernel
theorem dX7_isLine_4 : decode cX7_isLine 4 = .ok (.bipush 7, 2) := by decide +kernel
theorem dX7_isLine_6 : decode cX7_isLine 6 = .ok (.iload_n 1, 1) := by decide +kernel
theorem dX7_isLine_7 : decode cX7_isLine 7 = .ok (.imul, 1) := by decide +kernel
theorem dX7_isLine_8 : decode cX7_isLine 8 = .ok (.iload_n 2, 1) := by decide +kernel
theorem dX7_isLine_9 : decode cX7_isLine 9 = .ok (.iadd, 1) := by decide +kernel
theorem dX7_isLine_10 : decode cX7_isLine 10 = .ok (.iaload, 1) := by decide +kernel
theorem dX7_isLine_11 : decode cX7_isLine 11 = .ok (.iload_n 3, 1) := by decide +kernel
theorem dX7_isLine_12 : decode cX7_isLine 12 = .ok (.invokestatic 89, 3) := by decide +kernel
theorem dX7_isLine_15 : decode cX7_isLine 15 = .ok (.ireturn, 1) := by decide +kernel
noncomputable def f_X7_isLine (x0 : Nat) (x1 : Int32) (x2 : Int32) (x3 : Int32) (σ : Hp) : Option (Int32 × Hp) := gO (getR shM 7 x0 1 σ) fun v1 => gO (aldI shM 0 v1 ((7 * x1) + x2) σ) fun v2 => bO (f_X7_has v2 x3 σ) fun r3 σ4 => gO (zz r3) fun _ => some (r3, σ4)
set_option maxRecDepth 100000 in
set_option maxHeartbeats 4000000 in
theorem t_X7_isLine {l : Launch} {γ : Gm} {ad : Nat → Nat} {K : Option Value → Hp → Prop} (hc : Cx l γ 2 4 ad shM RX7 cX7_isLine (some .boolean) K) {x0 : Nat} {x1 : Int32} {x2 : Int32} {x3 : Int32} {σ : Hp} (h : wpO (f_X7_isLine x0 x1 x2 x3 σ) (KI K)) : WW l γ 2 4 ad shM 0 [(0, .ref (ad x0)), (1, .int x1), (2, .int x2), (3, .int x3)] [] σ := by
  unfold f_X7_isLine at h
  refine r_aload_n hc 0 rfl rfl dX7_isLine_0 ?_
  obtain ⟨v1, ev1, h⟩ := wp_g h
  refine r_getR hc ev1 fl_X7_13 rfl dX7_isLine_1 ?_
  refine r_bipush hc (v := 7) (by decide) dX7_isLine_4 ?_
  refine r_iload_n hc 1 rfl rfl dX7_isLine_6 ?_
  refine r_imul hc dX7_isLine_7 ?_
  refine r_iload_n hc 2 rfl rfl dX7_isLine_8 ?_
  refine r_iadd hc dX7_isLine_9 ?_
  obtain ⟨v2, ev2, h⟩ := wp_g h
  refine r_iald hc ev2 dX7_isLine_10 ?_
  refine r_iload_n hc 3 rfl rfl dX7_isLine_11 ?_
  obtain ⟨r3, σ4, er3, h⟩ := wp_b h
  refine r_callS hc ms_X7_has ml_X7_89 (c_X7_has er3) rfl rfl (by decide) rfl (Nat.le_of_ble_eq_true rfl) dX7_isLine_12 ?_
  obtain ⟨_, ek5, h⟩ := wp_g h
  have h := wp_v h
  exact r_zret hc h (zz_of ek5) dX7_isLine_15
theorem c_X7_isLine {l : Launch} {x0 : Nat} {x1 : Int32} {x2 : Int32} {x3 : Int32} {σ σ' : Hp} {r : Int32} (h : f_X7_isLine x0 x1 x2 x3 σ = some (r, σ')) : Mt l yX7_isLine cX7_isLine 4 (some .boolean) 2 shM (fun ad => [.ref (ad x0), .int x1, .int x2, .int x3]) σ (fun ad => some (.int r)) σ' := mt_i (own := RX7) (by decide) rfl (fun _ => Nat.le_of_ble_eq_true rfl) (fun γ ad K hc hk => t_X7_isLine hc ⟨_, _, h, hk⟩)

-- NetMapsModel.begins(II)V
theorem dX7_begins_0 : decode cX7_begins 0 = .ok (.aload_n 0, 1) := by decide +kernel
theorem dX7_begins_1 : decode cX7_begins 1 = .ok (.getfield 7, 3) := by decide +kernel
theorem dX7_begins_4 : decode cX7_begins 4 = .ok (.iload_n 1, 1) := by decide +kernel
theorem dX7_begins_5 : decode cX7_begins 5 = .ok (.iload_n 2, 1) := by decide +kernel
theorem dX7_begins_6 : decode cX7_begins 6 = .ok (.iastore, 1) := by decide +kernel
theorem dX7_begins_7 : decode cX7_begins 7 = .ok (.iconst 0, 1) := by decide +kernel
theorem dX7_begins_8 : decode cX7_begins 8 = .ok (.istore_n 3, 1) := by decide +kernel
theorem dX7_begins_9 : decode cX7_begins 9 = .ok (.iload_n 3, 1) := by decide +kernel
theorem dX7_begins_10 : decode cX7_begins 10 = .ok (.bipush 7, 2) := by decide +kernel
theorem dX7_begins_12 : decode cX7_begins 12 = .ok (.if_icmp .ge 33, 3) := by decide +kernel
theorem dX7_begins_15 : decode cX7_begins 15 = .ok (.aload_n 0, 1) := by decide +kernel
theorem dX7_begins_16 : decode cX7_begins 16 = .ok (.getfield 13, 3) := by decide +kernel
theorem dX7_begins_19 : decode cX7_begins 19 = .ok (.bipush 7, 2) := by decide +kernel
theorem dX7_begins_21 : decode cX7_begins 21 = .ok (.iload_n 1, 1) := by decide +kernel
theorem dX7_begins_22 : decode cX7_begins 22 = .ok (.imul, 1) := by decide +kernel
theorem dX7_begins_23 : decode cX7_begins 23 = .ok (.iload_n 3, 1) := by decide +kernel
theorem dX7_begins_24 : decode cX7_begins 24 = .ok (.iadd, 1) := by decide +kernel
theorem dX7_begins_25 : decode cX7_begins 25 = .ok (.iconst 0, 1) := by decide +kernel
theorem dX7_begins_26 : decode cX7_begins 26 = .ok (.iastore, 1) := by decide +kernel
theorem dX7_begins_27 : decode cX7_begins 27 = .ok (.aload_n 0, 1) := by decide +kernel
theorem dX7_begins_28 : decode cX7_begins 28 = .ok (.getfield 16, 3) := by decide +kernel
theorem dX7_begins_31 : decode cX7_begins 31 = .ok (.bipush 7, 2) := by decide +kernel
theorem dX7_begins_33 : decode cX7_begins 33 = .ok (.iload_n 1, 1) := by decide +kernel
theorem dX7_begins_34 : decode cX7_begins 34 = .ok (.imul, 1) := by decide +kernel
theorem dX7_begins_35 : decode cX7_begins 35 = .ok (.iload_n 3, 1) := by decide +kernel
theorem dX7_begins_36 : decode cX7_begins 36 = .ok (.iadd, 1) := by decide +kernel
theorem dX7_begins_37 : decode cX7_begins 37 = .ok (.iconst 0, 1) := by decide +kernel
theorem dX7_begins_38 : decode cX7_begins 38 = .ok (.iastore, 1) := by decide +kernel
theorem dX7_begins_39 : decode cX7_begins 39 = .ok (.iinc 3 1, 3) := by decide +kernel
theorem dX7_begins_42 : decode cX7_begins 42 = .ok (.goto (-33), 3) := by decide +kernel
theorem dX7_begins_45 : decode cX7_begins 45 = .ok (.return_, 1) := by decide +kernel
noncomputable def f_X7_begins_L9 (x0 : Nat) (x1 : Int32) (v : (Int32)) (σ : Hp) : Option (((Int32) ⊕ (Unit)) × Hp) := if 7 ≤ v then (some (Sum.inr (), σ)) else (gO (getR shM 7 x0 1 σ) fun v1 => gO (astI shM 0 v1 ((7 * x1) + v) 0 σ) fun σ2 => gO (getR shM 7 x0 2 σ2) fun v3 => gO (astI shM 0 v3 ((7 * x1) + v) 0 σ2) fun σ4 => some (Sum.inl (v + 1), σ4))
set_option maxRecDepth 100000 in
set_option maxHeartbeats 4000000 in
theorem t_X7_begins_L9 {l : Launch} {γ : Gm} {ad : Nat → Nat} {K : Option Value → Hp → Prop}  (hc : Cx l γ 1 4 ad shM RX7 cX7_begins none K) {x0 : Nat} {x1 : Int32} {v : (Int32)} {σ : Hp} {KX : (Unit) → Hp → Prop} (h : wpO (wh (f_X7_begins_L9 x0 x1) v σ) KX) (kx45 : ∀ (v : Unit) (σ : Hp), KX v σ → WW l γ 1 4 ad shM 45 [] [] σ) : WW l γ 1 4 ad shM 9 [(0, .ref (ad x0)), (1, .int x1), (3, .int v)] [] σ := by
  refine wh_W (P := fun v σ => WW l γ 1 4 ad shM 9 [(0, .ref (ad x0)), (1, .int x1), (3, .int v)] [] σ) (fun v σ h => ?_) h
  have kn : ∀ (v : (Int32)) (σ : Hp), WW l γ 1 4 ad shM 9 [(0, .ref (ad x0)), (1, .int x1), (3, .int v)] [] σ → WW l γ 1 4 ad shM 9 [(0, .ref (ad x0)), (1, .int x1), (3, .int v)] [] σ := fun _ _ h => h
  · unfold f_X7_begins_L9 at h
    refine r_iload_n hc 2 rfl rfl dX7_begins_9 ?_
    refine r_bipush hc (v := 7) (by decide) dX7_begins_10 ?_
    refine r_icmp_ge hc (tgt := 45) dX7_begins_12 (by decide) (fun c => ?_) (fun c => ?_)
    · have h := wp_t c h
      refine r_sub [] (lv' := []) rfl ?_
      have h := wp_v h
      exact kx45 () _ h
    · have h := wp_f c h
      refine r_aload_n hc 0 rfl rfl dX7_begins_15 ?_
      obtain ⟨v1, ev1, h⟩ := wp_g h
      refine r_getR hc ev1 fl_X7_13 rfl dX7_begins_16 ?_
      refine r_bipush hc (v := 7) (by decide) dX7_begins_19 ?_
      refine r_iload_n hc 1 rfl rfl dX7_begins_21 ?_
      refine r_imul hc dX7_begins_22 ?_
      refine r_iload_n hc 2 rfl rfl dX7_begins_23 ?_
      refine r_iadd hc dX7_begins_24 ?_
      refine r_iconst hc (v := 0) (by decide) dX7_begins_25 ?_
      obtain ⟨σ2, eσ2, h⟩ := wp_g h
      refine r_iast hc eσ2 dX7_begins_26 ?_
      refine r_aload_n hc 0 rfl rfl dX7_begins_27 ?_
      obtain ⟨v3, ev3, h⟩ := wp_g h
      refine r_getR hc ev3 fl_X7_16 rfl dX7_begins_28 ?_
      refine r_bipush hc (v := 7) (by decide) dX7_begins_31 ?_
      refine r_iload_n hc 1 rfl rfl dX7_begins_33 ?_
      refine r_imul hc dX7_begins_34 ?_
      refine r_iload_n hc 2 rfl rfl dX7_begins_35 ?_
      refine r_iadd hc dX7_begins_36 ?_
      refine r_iconst hc (v := 0) (by decide) dX7_begins_37 ?_
      obtain ⟨σ4, eσ4, h⟩ := wp_g h
      refine r_iast hc eσ4 dX7_begins_38 ?_
      refine r_iincE hc (j := 2) (w := 1) (lv' := [(3, .int (v + 1)), (0, .ref (ad x0)), (1, .int x1)]) rfl (by decide) rfl (by decide) rfl dX7_begins_39 ?_
      refine r_goto hc (tgt := 9) dX7_begins_42 (by decide) ?_
      refine r_sub [1, 2, 0] (lv' := [(0, .ref (ad x0)), (1, .int x1), (3, .int (v + 1))]) rfl ?_
      have h := wp_v h
      exact kn (v + 1) _ h
noncomputable def f_X7_begins (x0 : Nat) (x1 : Int32) (x2 : Int32) (σ : Hp) : Option (Unit × Hp) := gO (getR shM 7 x0 0 σ) fun v1 => gO (astI shM 0 v1 x1 x2 σ) fun σ2 => bO (wh (f_X7_begins_L9 x0 x1) 0 σ2) fun y3 σ4 => (some ((), σ4))
set_option maxRecDepth 100000 in
set_option maxHeartbeats 4000000 in
theorem t_X7_begins {l : Launch} {γ : Gm} {ad : Nat → Nat} {K : Option Value → Hp → Prop} (hc : Cx l γ 1 4 ad shM RX7 cX7_begins none K) {x0 : Nat} {x1 : Int32} {x2 : Int32} {σ : Hp} (h : wpO (f_X7_begins x0 x1 x2 σ) (KU K)) : WW l γ 1 4 ad shM 0 [(0, .ref (ad x0)), (1, .int x1), (2, .int x2)] [] σ := by
  unfold f_X7_begins at h
  refine r_aload_n hc 0 rfl rfl dX7_begins_0 ?_
  obtain ⟨v1, ev1, h⟩ := wp_g h
  refine r_getR hc ev1 fl_X7_7 rfl dX7_begins_1 ?_
  refine r_iload_n hc 1 rfl rfl dX7_begins_4 ?_
  refine r_iload_n hc 2 rfl rfl dX7_begins_5 ?_
  obtain ⟨σ2, eσ2, h⟩ := wp_g h
  refine r_iast hc eσ2 dX7_begins_6 ?_
  refine r_iconst hc (v := 0) (by decide) dX7_begins_7 ?_
  refine r_istore_nE hc (i := 3) (lv' := [(3, .int 0), (0, .ref (ad x0)), (1, .int x1), (2, .int x2)]) rfl rfl (by decide) rfl dX7_begins_8 ?_
  refine r_sub [1, 2, 0] (lv' := [(0, .ref (ad x0)), (1, .int x1), (3, .int 0)]) rfl ?_
  refine t_X7_begins_L9 hc (wp_bb h) ?_
  · intro y3 σ4 h
    have h := wp_v h
    exact r_vret hc h dX7_begins_45
theorem c_X7_begins {l : Launch} {x0 : Nat} {x1 : Int32} {x2 : Int32} {σ σ' : Hp} {r : Unit} (h : f_X7_begins x0 x1 x2 σ = some (r, σ')) : Mt l yX7_begins cX7_begins 4 none 1 shM (fun ad => [.ref (ad x0), .int x1, .int x2]) σ (fun ad => none) σ' := mt_i (own := RX7) (by decide) rfl (fun _ => Nat.le_of_ble_eq_true rfl) (fun γ ad K hc hk => t_X7_begins hc ⟨_, _, h, hk⟩)

-- NetMapsModel.sets(IIIZ)V
theorem dX7_sets_0 : decode cX7_sets 0 = .ok (.aload_n 0, 1) := by decide +kernel
theorem dX7_sets_1 : decode cX7_sets 1 = .ok (.getfield 13, 3) := by decide +kernel
theorem dX7_sets_4 : decode cX7_sets 4 = .ok (.bipush 7, 2) := by decide +kernel
theorem dX7_sets_6 : decode cX7_sets 6 = .ok (.iload_n 1, 1) := by decide +kernel
theorem dX7_sets_7 : decode cX7_sets 7 = .ok (.imul, 1) := by decide +kernel
theorem dX7_sets_8 : decode cX7_sets 8 = .ok (.iload_n 2, 1) := by decide +kernel
theorem dX7_sets_9 : decode cX7_sets 9 = .ok (.iadd, 1) := by decide +kernel
theorem dX7_sets_10 : decode cX7_sets 10 = .ok (.iaload, 1) := by decide +kernel
theorem dX7_sets_11 : decode cX7_sets 11 = .ok (.iconst 1, 1) := by decide +kernel
theorem dX7_sets_12 : decode cX7_sets 12 = .ok (.iload_n 3, 1) := by decide +kernel
theorem dX7_sets_13 : decode cX7_sets 13 = .ok (.ishl, 1) := by decide +kernel
theorem dX7_sets_14 : decode cX7_sets 14 = .ok (.iconst (-1), 1) := by decide +kernel
theorem dX7_sets_15 : decode cX7_sets 15 = .ok (.ixor, 1) := by decide +kernel
theorem dX7_sets_16 : decode cX7_sets 16 = .ok (.iand, 1) := by decide +kernel
theorem dX7_sets_17 : decode cX7_sets 17 = .ok (.istore 5, 2) := by decide +kernel
theorem dX7_sets_19 : decode cX7_sets 19 = .ok (.aload_n 0, 1) := by decide +kernel
theorem dX7_sets_20 : decode cX7_sets 20 = .ok (.getfield 13, 3) := by decide +kernel
theorem dX7_sets_23 : decode cX7_sets 23 = .ok (.bipush 7, 2) := by decide +kernel
theorem dX7_sets_25 : decode cX7_sets 25 = .ok (.iload_n 1, 1) := by decide +kernel
theorem dX7_sets_26 : decode cX7_sets 26 = .ok (.imul, 1) := by decide +kernel
theorem dX7_sets_27 : decode cX7_sets 27 = .ok (.iload_n 2, 1) := by decide +kernel
theorem dX7_sets_28 : decode cX7_sets 28 = .ok (.iadd, 1) := by decide +kernel
theorem dX7_sets_29 : decode cX7_sets 29 = .ok (.iload 4, 2) := by decide +kernel
theorem dX7_sets_31 : decode cX7_sets 31 = .ok (.ifCond .eq 12, 3) := by decide +kernel
theorem dX7_sets_34 : decode cX7_sets 34 = .ok (.iload 5, 2) := by decide +kernel
theorem dX7_sets_36 : decode cX7_sets 36 = .ok (.iconst 1, 1) := by decide +kernel
theorem dX7_sets_37 : decode cX7_sets 37 = .ok (.iload_n 3, 1) := by decide +kernel
theorem dX7_sets_38 : decode cX7_sets 38 = .ok (.ishl, 1) := by decide +kernel
theorem dX7_sets_39 : decode cX7_sets 39 = .ok (.ior, 1) := by decide +kernel
theorem dX7_sets_40 : decode cX7_sets 40 = .ok (.goto 5, 3) := by decide +kernel
theorem dX7_sets_43 : decode cX7_sets 43 = .ok (.iload 5, 2) := by decide +kernel
theorem dX7_sets_45 : decode cX7_sets 45 = .ok (.iastore, 1) := by decide +kernel
theorem dX7_sets_46 : decode cX7_sets 46 = .ok (.aload_n 0, 1) := by decide +kernel
theorem dX7_sets_47 : decode cX7_sets 47 = .ok (.getfield 16, 3) := by decide +kernel
theorem dX7_sets_50 : decode cX7_sets 50 = .ok (.bipush 7, 2) := by decide +kernel
theorem dX7_sets_52 : decode cX7_sets 52 = .ok (.iload_n 1, 1) := by decide +kernel
theorem dX7_sets_53 : decode cX7_sets 53 = .ok (.imul, 1) := by decide +kernel
theorem dX7_sets_54 : decode cX7_sets 54 = .ok (.iload_n 3, 1) := by decide +kernel
theorem dX7_sets_55 : decode cX7_sets 55 = .ok (.iadd, 1) := by decide +kernel
theorem dX7_sets_56 : decode cX7_sets 56 = .ok (.iaload, 1) := by decide +kernel
theorem dX7_sets_57 : decode cX7_sets 57 = .ok (.iconst 1, 1) := by decide +kernel
theorem dX7_sets_58 : decode cX7_sets 58 = .ok (.iload_n 2, 1) := by decide +kernel
theorem dX7_sets_59 : decode cX7_sets 59 = .ok (.ishl, 1) := by decide +kernel
theorem dX7_sets_60 : decode cX7_sets 60 = .ok (.iconst (-1), 1) := by decide +kernel
theorem dX7_sets_61 : decode cX7_sets 61 = .ok (.ixor, 1) := by decide +kernel
theorem dX7_sets_62 : decode cX7_sets 62 = .ok (.iand, 1) := by decide +kernel
theorem dX7_sets_63 : decode cX7_sets 63 = .ok (.istore 5, 2) := by decide +kernel
theorem dX7_sets_65 : decode cX7_sets 65 = .ok (.aload_n 0, 1) := by decide +kernel
theorem dX7_sets_66 : decode cX7_sets 66 = .ok (.getfield 16, 3) := by decide +kernel
theorem dX7_sets_69 : decode cX7_sets 69 = .ok (.bipush 7, 2) := by decide +kernel
theorem dX7_sets_71 : decode cX7_sets 71 = .ok (.iload_n 1, 1) := by decide +kernel
theorem dX7_sets_72 : decode cX7_sets 72 = .ok (.imul, 1) := by decide +kernel
theorem dX7_sets_73 : decode cX7_sets 73 = .ok (.iload_n 3, 1) := by decide +kernel
theorem dX7_sets_74 : decode cX7_sets 74 = .ok (.iadd, 1) := by decide +kernel
theorem dX7_sets_75 : decode cX7_sets 75 = .ok (.iload 4, 2) := by decide +kernel
theorem dX7_sets_77 : decode cX7_sets 77 = .ok (.ifCond .eq 12, 3) := by decide +kernel
theorem dX7_sets_80 : decode cX7_sets 80 = .ok (.iload 5, 2) := by decide +kernel
theorem dX7_sets_82 : decode cX7_sets 82 = .ok (.iconst 1, 1) := by decide +kernel
theorem dX7_sets_83 : decode cX7_sets 83 = .ok (.iload_n 2, 1) := by decide +kernel
theorem dX7_sets_84 : decode cX7_sets 84 = .ok (.ishl, 1) := by decide +kernel
theorem dX7_sets_85 : decode cX7_sets 85 = .ok (.ior, 1) := by decide +kernel
theorem dX7_sets_86 : decode cX7_sets 86 = .ok (.goto 5, 3) := by decide +kernel
theorem dX7_sets_89 : decode cX7_sets 89 = .ok (.iload 5, 2) := by decide +kernel
theorem dX7_sets_91 : decode cX7_sets 91 = .ok (.iastore, 1) := by decide +kernel
theorem dX7_sets_92 : decode cX7_sets 92 = .ok (.return_, 1) := by decide +kernel
noncomputable def f_X7_sets_b91 (s0 : Nat) (s1 : Int32) (s2 : Int32) (σ : Hp) : Option (Unit × Hp) := gO (astI shM 0 s0 s1 s2 σ) fun σ1 => some ((), σ1)
set_option maxRecDepth 100000 in
set_option maxHeartbeats 4000000 in
theorem t_X7_sets_b91 {l : Launch} {γ : Gm} {ad : Nat → Nat} {K : Option Value → Hp → Prop} (hc : Cx l γ 1 6 ad shM RX7 cX7_sets none K) {s0 : Nat} {s1 : Int32} {s2 : Int32} {σ : Hp} (h : wpO (f_X7_sets_b91 s0 s1 s2 σ) (KU K)) : WW l γ 1 6 ad shM 91 [] [.int s2, .int s1, .ref (ad s0)] σ := by
  unfold f_X7_sets_b91 at h
  obtain ⟨σ1, eσ1, h⟩ := wp_g h
  refine r_iast hc eσ1 dX7_sets_91 ?_
  have h := wp_v h
  exact r_vret hc h dX7_sets_92
noncomputable def f_X7_sets_b45 (x0 : Nat) (x1 : Int32) (x2 : Int32) (x3 : Int32) (x4 : Int32) (s0 : Nat) (s1 : Int32) (s2 : Int32) (σ : Hp) : Option (Unit × Hp) := gO (astI shM 0 s0 s1 s2 σ) fun σ1 => gO (getR shM 7 x0 2 σ1) fun v2 => gO (aldI shM 0 v2 ((7 * x1) + x3) σ1) fun v3 => lt' ((v3 &&& (((1 : Int32) <<< (x2 &&& 31)) ^^^ (-1)))) fun t4 => gO (getR shM 7 x0 2 σ1) fun v5 => if x4 = 0 then (f_X7_sets_b91 v5 ((7 * x1) + x3) t4 σ1) else (f_X7_sets_b91 v5 ((7 * x1) + x3) (t4 ||| ((1 : Int32) <<< (x2 &&& 31))) σ1)
set_option maxRecDepth 100000 in
set_option maxHeartbeats 4000000 in
theorem t_X7_sets_b45 {l : Launch} {γ : Gm} {ad : Nat → Nat} {K : Option Value → Hp → Prop} (hc : Cx l γ 1 6 ad shM RX7 cX7_sets none K) {x0 : Nat} {x1 : Int32} {x2 : Int32} {x3 : Int32} {x4 : Int32} {s0 : Nat} {s1 : Int32} {s2 : Int32} {σ : Hp} (h : wpO (f_X7_sets_b45 x0 x1 x2 x3 x4 s0 s1 s2 σ) (KU K)) : WW l γ 1 6 ad shM 45 [(0, .ref (ad x0)), (1, .int x1), (2, .int x2), (3, .int x3), (4, .int x4)] [.int s2, .int s1, .ref (ad s0)] σ := by
  unfold f_X7_sets_b45 at h
  obtain ⟨σ1, eσ1, h⟩ := wp_g h
  refine r_iast hc eσ1 dX7_sets_45 ?_
  refine r_aload_n hc 0 rfl rfl dX7_sets_46 ?_
  obtain ⟨v2, ev2, h⟩ := wp_g h
  refine r_getR hc ev2 fl_X7_16 rfl dX7_sets_47 ?_
  refine r_bipush hc (v := 7) (by decide) dX7_sets_50 ?_
  refine r_iload_n hc 1 rfl rfl dX7_sets_52 ?_
  refine r_imul hc dX7_sets_53 ?_
  refine r_iload_n hc 3 rfl rfl dX7_sets_54 ?_
  refine r_iadd hc dX7_sets_55 ?_
  obtain ⟨v3, ev3, h⟩ := wp_g h
  refine r_iald hc ev3 dX7_sets_56 ?_
  refine r_iconst hc (v := 1) (by decide) dX7_sets_57 ?_
  refine r_iload_n hc 2 rfl rfl dX7_sets_58 ?_
  refine r_ishl hc dX7_sets_59 ?_
  refine r_iconst hc (v := (-1)) (by decide) dX7_sets_60 ?_
  refine r_ixor hc dX7_sets_61 ?_
  refine r_iand hc dX7_sets_62 ?_
  obtain ⟨t4, et4, h⟩ := wp_l h
  refine r_istoreE hc (i := 5) (lv' := [(5, .int t4), (0, .ref (ad x0)), (1, .int x1), (2, .int x2), (3, .int x3), (4, .int x4)]) et4 (by decide) rfl dX7_sets_63 ?_
  refine r_aload_n hc 1 rfl rfl dX7_sets_65 ?_
  obtain ⟨v5, ev5, h⟩ := wp_g h
  refine r_getR hc ev5 fl_X7_16 rfl dX7_sets_66 ?_
  refine r_bipush hc (v := 7) (by decide) dX7_sets_69 ?_
  refine r_iload_n hc 2 rfl rfl dX7_sets_71 ?_
  refine r_imul hc dX7_sets_72 ?_
  refine r_iload_n hc 4 rfl rfl dX7_sets_73 ?_
  refine r_iadd hc dX7_sets_74 ?_
  refine r_iload hc 5 rfl dX7_sets_75 ?_
  refine r_if_eq hc (tgt := 89) dX7_sets_77 (by decide) (fun c => ?_) (fun c => ?_)
  · have h := wp_t c h
    refine r_iload hc 0 rfl dX7_sets_89 ?_
    refine r_sub [] (lv' := []) rfl ?_
    exact t_X7_sets_b91 hc h
  · have h := wp_f c h
    refine r_iload hc 0 rfl dX7_sets_80 ?_
    refine r_iconst hc (v := 1) (by decide) dX7_sets_82 ?_
    refine r_iload_n hc 3 rfl rfl dX7_sets_83 ?_
    refine r_ishl hc dX7_sets_84 ?_
    refine r_ior hc dX7_sets_85 ?_
    refine r_goto hc (tgt := 91) dX7_sets_86 (by decide) ?_
    refine r_sub [] (lv' := []) rfl ?_
    exact t_X7_sets_b91 hc h
noncomputable def f_X7_sets (x0 : Nat) (x1 : Int32) (x2 : Int32) (x3 : Int32) (x4 : Int32) (σ : Hp) : Option (Unit × Hp) := gO (getR shM 7 x0 1 σ) fun v1 => gO (aldI shM 0 v1 ((7 * x1) + x2) σ) fun v2 => lt' ((v2 &&& (((1 : Int32) <<< (x3 &&& 31)) ^^^ (-1)))) fun t3 => gO (getR shM 7 x0 1 σ) fun v4 => if x4 = 0 then (f_X7_sets_b45 x0 x1 x2 x3 x4 v4 ((7 * x1) + x2) t3 σ) else (f_X7_sets_b45 x0 x1 x2 x3 x4 v4 ((7 * x1) + x2) (t3 ||| ((1 : Int32) <<< (x3 &&& 31))) σ)
set_option maxRecDepth 100000 in
set_option maxHeartbeats 4000000 in
theorem t_X7_sets {l : Launch} {γ : Gm} {ad : Nat → Nat} {K : Option Value → Hp → Prop} (hc : Cx l γ 1 6 ad shM RX7 cX7_sets none K) {x0 : Nat} {x1 : Int32} {x2 : Int32} {x3 : Int32} {x4 : Int32} {σ : Hp} (h : wpO (f_X7_sets x0 x1 x2 x3 x4 σ) (KU K)) : WW l γ 1 6 ad shM 0 [(0, .ref (ad x0)), (1, .int x1), (2, .int x2), (3, .int x3), (4, .int x4)] [] σ := by
  unfold f_X7_sets at h
  refine r_aload_n hc 0 rfl rfl dX7_sets_0 ?_
  obtain ⟨v1, ev1, h⟩ := wp_g h
  refine r_getR hc ev1 fl_X7_13 rfl dX7_sets_1 ?_
  refine r_bipush hc (v := 7) (by decide) dX7_sets_4 ?_
  refine r_iload_n hc 1 rfl rfl dX7_sets_6 ?_
  refine r_imul hc dX7_sets_7 ?_
  refine r_iload_n hc 2 rfl rfl dX7_sets_8 ?_
  refine r_iadd hc dX7_sets_9 ?_
  obtain ⟨v2, ev2, h⟩ := wp_g h
  refine r_iald hc ev2 dX7_sets_10 ?_
  refine r_iconst hc (v := 1) (by decide) dX7_sets_11 ?_
  refine r_iload_n hc 3 rfl rfl dX7_sets_12 ?_
  refine r_ishl hc dX7_sets_13 ?_
  refine r_iconst hc (v := (-1)) (by decide) dX7_sets_14 ?_
  refine r_ixor hc dX7_sets_15 ?_
  refine r_iand hc dX7_sets_16 ?_
  obtain ⟨t3, et3, h⟩ := wp_l h
  refine r_istoreE hc (i := 5) (lv' := [(5, .int t3), (0, .ref (ad x0)), (1, .int x1), (2, .int x2), (3, .int x3), (4, .int x4)]) et3 (by decide) rfl dX7_sets_17 ?_
  refine r_aload_n hc 1 rfl rfl dX7_sets_19 ?_
  obtain ⟨v4, ev4, h⟩ := wp_g h
  refine r_getR hc ev4 fl_X7_13 rfl dX7_sets_20 ?_
  refine r_bipush hc (v := 7) (by decide) dX7_sets_23 ?_
  refine r_iload_n hc 2 rfl rfl dX7_sets_25 ?_
  refine r_imul hc dX7_sets_26 ?_
  refine r_iload_n hc 3 rfl rfl dX7_sets_27 ?_
  refine r_iadd hc dX7_sets_28 ?_
  refine r_iload hc 5 rfl dX7_sets_29 ?_
  refine r_if_eq hc (tgt := 43) dX7_sets_31 (by decide) (fun c => ?_) (fun c => ?_)
  · have h := wp_t c h
    refine r_iload hc 0 rfl dX7_sets_43 ?_
    refine r_sub [1, 2, 3, 4, 5] (lv' := [(0, .ref (ad x0)), (1, .int x1), (2, .int x2), (3, .int x3), (4, .int x4)]) rfl ?_
    exact t_X7_sets_b45 hc h
  · have h := wp_f c h
    refine r_iload hc 0 rfl dX7_sets_34 ?_
    refine r_iconst hc (v := 1) (by decide) dX7_sets_36 ?_
    refine r_iload_n hc 4 rfl rfl dX7_sets_37 ?_
    refine r_ishl hc dX7_sets_38 ?_
    refine r_ior hc dX7_sets_39 ?_
    refine r_goto hc (tgt := 45) dX7_sets_40 (by decide) ?_
    refine r_sub [1, 2, 3, 4, 5] (lv' := [(0, .ref (ad x0)), (1, .int x1), (2, .int x2), (3, .int x3), (4, .int x4)]) rfl ?_
    exact t_X7_sets_b45 hc h
theorem c_X7_sets {l : Launch} {x0 : Nat} {x1 : Int32} {x2 : Int32} {x3 : Int32} {x4 : Int32} {σ σ' : Hp} {r : Unit} (h : f_X7_sets x0 x1 x2 x3 x4 σ = some (r, σ')) : Mt l yX7_sets cX7_sets 6 none 1 shM (fun ad => [.ref (ad x0), .int x1, .int x2, .int x3, .int x4]) σ (fun ad => none) σ' := mt_i (own := RX7) (by decide) rfl (fun _ => Nat.le_of_ble_eq_true rfl) (fun γ ad K hc hk => t_X7_sets hc ⟨_, _, h, hk⟩)

-- NetMapsModel.lines(I)I
theorem dX7_lines_0 : decode cX7_lines 0 = .ok (.iconst 0, 1) := by decide +kernel
theorem dX7_lines_1 : decode cX7_lines 1 = .ok (.istore_n 2, 1) := by decide +kernel
theorem dX7_lines_2 : decode cX7_lines 2 = .ok (.iconst 0, 1) := by decide +kernel
theorem dX7_lines_3 : decode cX7_lines 3 = .ok (.istore_n 3, 1) := by decide +kernel
theorem dX7_lines_4 : decode cX7_lines 4 = .ok (.iload_n 3, 1) := by decide +kernel
theorem dX7_lines_5 : decode cX7_lines 5 = .ok (.aload_n 0, 1) := by decide +kernel
theorem dX7_lines_6 : decode cX7_lines 6 = .ok (.getfield 7, 3) := by decide +kernel
theorem dX7_lines_9 : decode cX7_lines 9 = .ok (.iload_n 1, 1) := by decide +kernel
theorem dX7_lines_10 : decode cX7_lines 10 = .ok (.iaload, 1) := by decide +kernel
theorem dX7_lines_11 : decode cX7_lines 11 = .ok (.if_icmp .ge 26, 3) := by decide +kernel
theorem dX7_lines_14 : decode cX7_lines 14 = .ok (.iload_n 2, 1) := by decide +kernel
theorem dX7_lines_15 : decode cX7_lines 15 = .ok (.aload_n 0, 1) := by decide +kernel
theorem dX7_lines_16 : decode cX7_lines 16 = .ok (.getfield 13, 3) := by decide +kernel
theorem dX7_lines_19 : decode cX7_lines 19 = .ok (.bipush 7, 2) := by decide +kernel
theorem dX7_lines_21 : decode cX7_lines 21 = .ok (.iload_n 1, 1) := by decide +kernel
theorem dX7_lines_22 : decode cX7_lines 22 = .ok (.imul, 1) := by decide +kernel
theorem dX7_lines_23 : decode cX7_lines 23 = .ok (.iload_n 3, 1) := by decide +kernel
theorem dX7_lines_24 : decode cX7_lines 24 = .ok (.iadd, 1) := by decide +kernel
theorem dX7_lines_25 : decode cX7_lines 25 = .ok (.iaload, 1) := by decide +kernel
theorem dX7_lines_26 : decode cX7_lines 26 = .ok (.invokestatic 93, 3) := by decide +kernel
theorem dX7_lines_29 : decode cX7_lines 29 = .ok (.iadd, 1) := by decide +kernel
theorem dX7_lines_30 : decode cX7_lines 30 = .ok (.istore_n 2, 1) := by decide +kernel
theorem dX7_lines_31 : decode cX7_lines 31 = .ok (.iinc 3 1, 3) := by decide +kernel
theorem dX7_lines_34 : decode cX7_lines 34 = .ok (.goto (-30), 3) := by decide +kernel
theorem dX7_lines_37 : decode cX7_lines 37 = .ok (.iload_n 2, 1) := by decide +kernel
theorem dX7_lines_38 : decode cX7_lines 38 = .ok (.ireturn, 1) := by decide +kernel
noncomputable def f_X7_lines_L4 (x0 : Nat) (x1 : Int32) (v : (Int32 × Int32)) (σ : Hp) : Option (((Int32 × Int32) ⊕ (Int32)) × Hp) := gO (getR shM 7 x0 0 σ) fun v1 => gO (aldI shM 0 v1 x1 σ) fun v2 => if v2 ≤ v.2 then (some (Sum.inr v.1, σ)) else (gO (getR shM 7 x0 1 σ) fun v3 => gO (aldI shM 0 v3 ((7 * x1) + v.2) σ) fun v4 => bO (f_X7_bits v4 σ) fun r5 σ6 => some (Sum.inl ((v.1 + r5), (v.2 + 1)), σ6))
set_option maxRecDepth 100000 in
set_option maxHeartbeats 4000000 in
theorem t_X7_lines_L4 {l : Launch} {γ : Gm} {ad : Nat → Nat} {K : Option Value → Hp → Prop}  (hc : Cx l γ 2 4 ad shM RX7 cX7_lines (some .int) K) {x0 : Nat} {x1 : Int32} {v : (Int32 × Int32)} {σ : Hp} {KX : (Int32) → Hp → Prop} (h : wpO (wh (f_X7_lines_L4 x0 x1) v σ) KX) (kx37 : ∀ (v : Int32) (σ : Hp), KX v σ → WW l γ 2 4 ad shM 37 [(2, .int v)] [] σ) : WW l γ 2 4 ad shM 4 [(0, .ref (ad x0)), (1, .int x1), (2, .int v.1), (3, .int v.2)] [] σ := by
  refine wh_W (P := fun v σ => WW l γ 2 4 ad shM 4 [(0, .ref (ad x0)), (1, .int x1), (2, .int v.1), (3, .int v.2)] [] σ) (fun v σ h => ?_) h
  have kn : ∀ (v : (Int32 × Int32)) (σ : Hp), WW l γ 2 4 ad shM 4 [(0, .ref (ad x0)), (1, .int x1), (2, .int v.1), (3, .int v.2)] [] σ → WW l γ 2 4 ad shM 4 [(0, .ref (ad x0)), (1, .int x1), (2, .int v.1), (3, .int v.2)] [] σ := fun _ _ h => h
  · unfold f_X7_lines_L4 at h
    refine r_iload_n hc 3 rfl rfl dX7_lines_4 ?_
    refine r_aload_n hc 0 rfl rfl dX7_lines_5 ?_
    obtain ⟨v1, ev1, h⟩ := wp_g h
    refine r_getR hc ev1 fl_X7_7 rfl dX7_lines_6 ?_
    refine r_iload_n hc 1 rfl rfl dX7_lines_9 ?_
    obtain ⟨v2, ev2, h⟩ := wp_g h
    refine r_iald hc ev2 dX7_lines_10 ?_
    refine r_icmp_ge hc (tgt := 37) dX7_lines_11 (by decide) (fun c => ?_) (fun c => ?_)
    · have h := wp_t c h
      refine r_sub [2] (lv' := [(2, .int v.1)]) rfl ?_
      have h := wp_v h
      exact kx37 v.1 _ h
    · have h := wp_f c h
      refine r_iload_n hc 2 rfl rfl dX7_lines_14 ?_
      refine r_aload_n hc 0 rfl rfl dX7_lines_15 ?_
      obtain ⟨v3, ev3, h⟩ := wp_g h
      refine r_getR hc ev3 fl_X7_13 rfl dX7_lines_16 ?_
      refine r_bipush hc (v := 7) (by decide) dX7_lines_19 ?_
      refine r_iload_n hc 1 rfl rfl dX7_lines_21 ?_
      refine r_imul hc dX7_lines_22 ?_
      refine r_iload_n hc 3 rfl rfl dX7_lines_23 ?_
      refine r_iadd hc dX7_lines_24 ?_
      obtain ⟨v4, ev4, h⟩ := wp_g h
      refine r_iald hc ev4 dX7_lines_25 ?_
      obtain ⟨r5, σ6, er5, h⟩ := wp_b h
      refine r_callS hc ms_X7_bits ml_X7_93 (c_X7_bits er5) rfl rfl (by decide) rfl (Nat.le_of_ble_eq_true rfl) dX7_lines_26 ?_
      refine r_iadd hc dX7_lines_29 ?_
      refine r_istore_nE hc (i := 2) (lv' := [(2, .int (v.1 + r5)), (0, .ref (ad x0)), (1, .int x1), (3, .int v.2)]) rfl rfl (by decide) rfl dX7_lines_30 ?_
      refine r_iincE hc (j := 3) (w := 1) (lv' := [(3, .int (v.2 + 1)), (2, .int (v.1 + r5)), (0, .ref (ad x0)), (1, .int x1)]) rfl (by decide) rfl (by decide) rfl dX7_lines_31 ?_
      refine r_goto hc (tgt := 4) dX7_lines_34 (by decide) ?_
      refine r_sub [2, 3, 1, 0] (lv' := [(0, .ref (ad x0)), (1, .int x1), (2, .int (v.1 + r5)), (3, .int (v.2 + 1))]) rfl ?_
      have h := wp_v h
      exact kn ((v.1 + r5), (v.2 + 1)) _ h
noncomputable def f_X7_lines (x0 : Nat) (x1 : Int32) (σ : Hp) : Option (Int32 × Hp) := bO (wh (f_X7_lines_L4 x0 x1) (0, 0) σ) fun y1 σ2 => (some (y1, σ2))
set_option maxRecDepth 100000 in
set_option maxHeartbeats 4000000 in
theorem t_X7_lines {l : Launch} {γ : Gm} {ad : Nat → Nat} {K : Option Value → Hp → Prop} (hc : Cx l γ 2 4 ad shM RX7 cX7_lines (some .int) K) {x0 : Nat} {x1 : Int32} {σ : Hp} (h : wpO (f_X7_lines x0 x1 σ) (KI K)) : WW l γ 2 4 ad shM 0 [(0, .ref (ad x0)), (1, .int x1)] [] σ := by
  unfold f_X7_lines at h
  refine r_iconst hc (v := 0) (by decide) dX7_lines_0 ?_
  refine r_istore_nE hc (i := 2) (lv' := [(2, .int 0), (0, .ref (ad x0)), (1, .int x1)]) rfl rfl (by decide) rfl dX7_lines_1 ?_
  refine r_iconst hc (v := 0) (by decide) dX7_lines_2 ?_
  refine r_istore_nE hc (i := 3) (lv' := [(3, .int 0), (2, .int 0), (0, .ref (ad x0)), (1, .int x1)]) rfl rfl (by decide) rfl dX7_lines_3 ?_
  refine r_sub [2, 3, 1, 0] (lv' := [(0, .ref (ad x0)), (1, .int x1), (2, .int 0), (3, .int 0)]) rfl ?_
  refine t_X7_lines_L4 hc (wp_bb h) ?_
  · intro y1 σ2 h
    refine r_iload_n hc 0 rfl rfl dX7_lines_37 ?_
    have h := wp_v h
    exact r_iret hc h dX7_lines_38
theorem c_X7_lines {l : Launch} {x0 : Nat} {x1 : Int32} {σ σ' : Hp} {r : Int32} (h : f_X7_lines x0 x1 σ = some (r, σ')) : Mt l yX7_lines cX7_lines 4 (some .int) 2 shM (fun ad => [.ref (ad x0), .int x1]) σ (fun ad => some (.int r)) σ' := mt_i (own := RX7) (by decide) rfl (fun _ => Nat.le_of_ble_eq_true rfl) (fun γ ad K hc hk => t_X7_lines hc ⟨_, _, h, hk⟩)

-- NetMapsModel.copies(II)V
theorem dX7_copies_0 : decode cX7_copies 0 = .ok (.aload_n 0, 1) := by decide +kernel
theorem dX7_copies_1 : decode cX7_copies 1 = .ok (.getfield 7, 3) := by decide +kernel
theorem dX7_copies_4 : decode cX7_copies 4 = .ok (.iload_n 2, 1) := by decide +kernel
theorem dX7_copies_5 : decode cX7_copies 5 = .ok (.aload_n 0, 1) := by decide +kernel
theorem dX7_copies_6 : decode cX7_copies 6 = .ok (.getfield 7, 3) := by decide +kernel
theorem dX7_copies_9 : decode cX7_copies 9 = .ok (.iload_n 1, 1) := by decide +kernel
theorem dX7_copies_10 : decode cX7_copies 10 = .ok (.iaload, 1) := by decide +kernel
theorem dX7_copies_11 : decode cX7_copies 11 = .ok (.iastore, 1) := by decide +kernel
theorem dX7_copies_12 : decode cX7_copies 12 = .ok (.iconst 0, 1) := by decide +kernel
theorem dX7_copies_13 : decode cX7_copies 13 = .ok (.istore_n 3, 1) := by decide +kernel
theorem dX7_copies_14 : decode cX7_copies 14 = .ok (.iload_n 3, 1) := by decide +kernel
theorem dX7_copies_15 : decode cX7_copies 15 = .ok (.bipush 7, 2) := by decide +kernel
theorem dX7_copies_17 : decode cX7_copies 17 = .ok (.if_icmp .ge 53, 3) := by decide +kernel
theorem dX7_copies_20 : decode cX7_copies 20 = .ok (.aload_n 0, 1) := by decide +kernel
theorem dX7_copies_21 : decode cX7_copies 21 = .ok (.getfield 13, 3) := by decide +kernel
theorem dX7_copies_24 : decode cX7_copies 24 = .ok (.bipush 7, 2) := by decide +kernel
theorem dX7_copies_26 : decode cX7_copies 26 = .ok (.iload_n 2, 1) := by decide +kernel
theorem dX7_copies_27 : decode cX7_copies 27 = .ok (.imul, 1) := by decide +kernel
theorem dX7_copies_28 : decode cX7_copies 28 = .ok (.iload_n 3, 1) := by decide +kernel
theorem dX7_copies_29 : decode cX7_copies 29 = .ok (.iadd, 1) := by decide +kernel
theorem dX7_copies_30 : decode cX7_copies 30 = .ok (.aload_n 0, 1) := by decide +kernel
theorem dX7_copies_31 : decode cX7_copies 31 = .ok (.getfield 13, 3) := by decide +kernel
theorem dX7_copies_34 : decode cX7_copies 34 = .ok (.bipush 7, 2) := by decide +kernel
theorem dX7_copies_36 : decode cX7_copies 36 = .ok (.iload_n 1, 1) := by decide +kernel
theorem dX7_copies_37 : decode cX7_copies 37 = .ok (.imul, 1) := by decide +kernel
theorem dX7_copies_38 : decode cX7_copies 38 = .ok (.iload_n 3, 1) := by decide +kernel
theorem dX7_copies_39 : decode cX7_copies 39 = .ok (.iadd, 1) := by decide +kernel
theorem dX7_copies_40 : decode cX7_copies 40 = .ok (.iaload, 1) := by decide +kernel
theorem dX7_copies_41 : decode cX7_copies 41 = .ok (.iastore, 1) := by decide +kernel
theorem dX7_copies_42 : decode cX7_copies 42 = .ok (.aload_n 0, 1) := by decide +kernel
theorem dX7_copies_43 : decode cX7_copies 43 = .ok (.getfield 16, 3) := by decide +kernel
theorem dX7_copies_46 : decode cX7_copies 46 = .ok (.bipush 7, 2) := by decide +kernel
theorem dX7_copies_48 : decode cX7_copies 48 = .ok (.iload_n 2, 1) := by decide +kernel
theorem dX7_copies_49 : decode cX7_copies 49 = .ok (.imul, 1) := by decide +kernel
theorem dX7_copies_50 : decode cX7_copies 50 = .ok (.iload_n 3, 1) := by decide +kernel
theorem dX7_copies_51 : decode cX7_copies 51 = .ok (.iadd, 1) := by decide +kernel
theorem dX7_copies_52 : decode cX7_copies 52 = .ok (.aload_n 0, 1) := by decide +kernel
theorem dX7_copies_53 : decode cX7_copies 53 = .ok (.getfield 16, 3) := by decide +kernel
theorem dX7_copies_56 : decode cX7_copies 56 = .ok (.bipush 7, 2) := by decide +kernel
theorem dX7_copies_58 : decode cX7_copies 58 = .ok (.iload_n 1, 1) := by decide +kernel
theorem dX7_copies_59 : decode cX7_copies 59 = .ok (.imul, 1) := by decide +kernel
theorem dX7_copies_60 : decode cX7_copies 60 = .ok (.iload_n 3, 1) := by decide +kernel
theorem dX7_copies_61 : decode cX7_copies 61 = .ok (.iadd, 1) := by decide +kernel
theorem dX7_copies_62 : decode cX7_copies 62 = .ok (.iaload, 1) := by decide +kernel
theorem dX7_copies_63 : decode cX7_copies 63 = .ok (.iastore, 1) := by decide +kernel
theorem dX7_copies_64 : decode cX7_copies 64 = .ok (.iinc 3 1, 3) := by decide +kernel
theorem dX7_copies_67 : decode cX7_copies 67 = .ok (.goto (-53), 3) := by decide +kernel
theorem dX7_copies_70 : decode cX7_copies 70 = .ok (.return_, 1) := by decide +kernel
noncomputable def f_X7_copies_L14 (x0 : Nat) (x1 : Int32) (x2 : Int32) (v : (Int32)) (σ : Hp) : Option (((Int32) ⊕ (Unit)) × Hp) := if 7 ≤ v then (some (Sum.inr (), σ)) else (gO (getR shM 7 x0 1 σ) fun v1 => gO (getR shM 7 x0 1 σ) fun v2 => gO (aldI shM 0 v2 ((7 * x1) + v) σ) fun v3 => gO (astI shM 0 v1 ((7 * x2) + v) v3 σ) fun σ4 => gO (getR shM 7 x0 2 σ4) fun v5 => gO (getR shM 7 x0 2 σ4) fun v6 => gO (aldI shM 0 v6 ((7 * x1) + v) σ4) fun v7 => gO (astI shM 0 v5 ((7 * x2) + v) v7 σ4) fun σ8 => some (Sum.inl (v + 1), σ8))
set_option maxRecDepth 100000 in
set_option maxHeartbeats 4000000 in
theorem t_X7_copies_L14 {l : Launch} {γ : Gm} {ad : Nat → Nat} {K : Option Value → Hp → Prop}  (hc : Cx l γ 1 4 ad shM RX7 cX7_copies none K) {x0 : Nat} {x1 : Int32} {x2 : Int32} {v : (Int32)} {σ : Hp} {KX : (Unit) → Hp → Prop} (h : wpO (wh (f_X7_copies_L14 x0 x1 x2) v σ) KX) (kx70 : ∀ (v : Unit) (σ : Hp), KX v σ → WW l γ 1 4 ad shM 70 [] [] σ) : WW l γ 1 4 ad shM 14 [(0, .ref (ad x0)), (1, .int x1), (2, .int x2), (3, .int v)] [] σ := by
  refine wh_W (P := fun v σ => WW l γ 1 4 ad shM 14 [(0, .ref (ad x0)), (1, .int x1), (2, .int x2), (3, .int v)] [] σ) (fun v σ h => ?_) h
  have kn : ∀ (v : (Int32)) (σ : Hp), WW l γ 1 4 ad shM 14 [(0, .ref (ad x0)), (1, .int x1), (2, .int x2), (3, .int v)] [] σ → WW l γ 1 4 ad shM 14 [(0, .ref (ad x0)), (1, .int x1), (2, .int x2), (3, .int v)] [] σ := fun _ _ h => h
  · unfold f_X7_copies_L14 at h
    refine r_iload_n hc 3 rfl rfl dX7_copies_14 ?_
    refine r_bipush hc (v := 7) (by decide) dX7_copies_15 ?_
    refine r_icmp_ge hc (tgt := 70) dX7_copies_17 (by decide) (fun c => ?_) (fun c => ?_)
    · have h := wp_t c h
      refine r_sub [] (lv' := []) rfl ?_
      have h := wp_v h
      exact kx70 () _ h
    · have h := wp_f c h
      refine r_aload_n hc 0 rfl rfl dX7_copies_20 ?_
      obtain ⟨v1, ev1, h⟩ := wp_g h
      refine r_getR hc ev1 fl_X7_13 rfl dX7_copies_21 ?_
      refine r_bipush hc (v := 7) (by decide) dX7_copies_24 ?_
      refine r_iload_n hc 2 rfl rfl dX7_copies_26 ?_
      refine r_imul hc dX7_copies_27 ?_
      refine r_iload_n hc 3 rfl rfl dX7_copies_28 ?_
      refine r_iadd hc dX7_copies_29 ?_
      refine r_aload_n hc 0 rfl rfl dX7_copies_30 ?_
      obtain ⟨v2, ev2, h⟩ := wp_g h
      refine r_getR hc ev2 fl_X7_13 rfl dX7_copies_31 ?_
      refine r_bipush hc (v := 7) (by decide) dX7_copies_34 ?_
      refine r_iload_n hc 1 rfl rfl dX7_copies_36 ?_
      refine r_imul hc dX7_copies_37 ?_
      refine r_iload_n hc 3 rfl rfl dX7_copies_38 ?_
      refine r_iadd hc dX7_copies_39 ?_
      obtain ⟨v3, ev3, h⟩ := wp_g h
      refine r_iald hc ev3 dX7_copies_40 ?_
      obtain ⟨σ4, eσ4, h⟩ := wp_g h
      refine r_iast hc eσ4 dX7_copies_41 ?_
      refine r_aload_n hc 0 rfl rfl dX7_copies_42 ?_
      obtain ⟨v5, ev5, h⟩ := wp_g h
      refine r_getR hc ev5 fl_X7_16 rfl dX7_copies_43 ?_
      refine r_bipush hc (v := 7) (by decide) dX7_copies_46 ?_
      refine r_iload_n hc 2 rfl rfl dX7_copies_48 ?_
      refine r_imul hc dX7_copies_49 ?_
      refine r_iload_n hc 3 rfl rfl dX7_copies_50 ?_
      refine r_iadd hc dX7_copies_51 ?_
      refine r_aload_n hc 0 rfl rfl dX7_copies_52 ?_
      obtain ⟨v6, ev6, h⟩ := wp_g h
      refine r_getR hc ev6 fl_X7_16 rfl dX7_copies_53 ?_
      refine r_bipush hc (v := 7) (by decide) dX7_copies_56 ?_
      refine r_iload_n hc 1 rfl rfl dX7_copies_58 ?_
      refine r_imul hc dX7_copies_59 ?_
      refine r_iload_n hc 3 rfl rfl dX7_copies_60 ?_
      refine r_iadd hc dX7_copies_61 ?_
      obtain ⟨v7, ev7, h⟩ := wp_g h
      refine r_iald hc ev7 dX7_copies_62 ?_
      obtain ⟨σ8, eσ8, h⟩ := wp_g h
      refine r_iast hc eσ8 dX7_copies_63 ?_
      refine r_iincE hc (j := 3) (w := 1) (lv' := [(3, .int (v + 1)), (0, .ref (ad x0)), (1, .int x1), (2, .int x2)]) rfl (by decide) rfl (by decide) rfl dX7_copies_64 ?_
      refine r_goto hc (tgt := 14) dX7_copies_67 (by decide) ?_
      refine r_sub [1, 2, 3, 0] (lv' := [(0, .ref (ad x0)), (1, .int x1), (2, .int x2), (3, .int (v + 1))]) rfl ?_
      have h := wp_v h
      exact kn (v + 1) _ h
noncomputable def f_X7_copies (x0 : Nat) (x1 : Int32) (x2 : Int32) (σ : Hp) : Option (Unit × Hp) := gO (getR shM 7 x0 0 σ) fun v1 => gO (getR shM 7 x0 0 σ) fun v2 => gO (aldI shM 0 v2 x1 σ) fun v3 => gO (astI shM 0 v1 x2 v3 σ) fun σ4 => bO (wh (f_X7_copies_L14 x0 x1 x2) 0 σ4) fun y5 σ6 => (some ((), σ6))
set_option maxRecDepth 100000 in
set_option maxHeartbeats 4000000 in
theorem t_X7_copies {l : Launch} {γ : Gm} {ad : Nat → Nat} {K : Option Value → Hp → Prop} (hc : Cx l γ 1 4 ad shM RX7 cX7_copies none K) {x0 : Nat} {x1 : Int32} {x2 : Int32} {σ : Hp} (h : wpO (f_X7_copies x0 x1 x2 σ) (KU K)) : WW l γ 1 4 ad shM 0 [(0, .ref (ad x0)), (1, .int x1), (2, .int x2)] [] σ := by
  unfold f_X7_copies at h
  refine r_aload_n hc 0 rfl rfl dX7_copies_0 ?_
  obtain ⟨v1, ev1, h⟩ := wp_g h
  refine r_getR hc ev1 fl_X7_7 rfl dX7_copies_1 ?_
  refine r_iload_n hc 2 rfl rfl dX7_copies_4 ?_
  refine r_aload_n hc 0 rfl rfl dX7_copies_5 ?_
  obtain ⟨v2, ev2, h⟩ := wp_g h
  refine r_getR hc ev2 fl_X7_7 rfl dX7_copies_6 ?_
  refine r_iload_n hc 1 rfl rfl dX7_copies_9 ?_
  obtain ⟨v3, ev3, h⟩ := wp_g h
  refine r_iald hc ev3 dX7_copies_10 ?_
  obtain ⟨σ4, eσ4, h⟩ := wp_g h
  refine r_iast hc eσ4 dX7_copies_11 ?_
  refine r_iconst hc (v := 0) (by decide) dX7_copies_12 ?_
  refine r_istore_nE hc (i := 3) (lv' := [(3, .int 0), (0, .ref (ad x0)), (1, .int x1), (2, .int x2)]) rfl rfl (by decide) rfl dX7_copies_13 ?_
  refine r_sub [1, 2, 3, 0] (lv' := [(0, .ref (ad x0)), (1, .int x1), (2, .int x2), (3, .int 0)]) rfl ?_
  refine t_X7_copies_L14 hc (wp_bb h) ?_
  · intro y5 σ6 h
    have h := wp_v h
    exact r_vret hc h dX7_copies_70
theorem c_X7_copies {l : Launch} {x0 : Nat} {x1 : Int32} {x2 : Int32} {σ σ' : Hp} {r : Unit} (h : f_X7_copies x0 x1 x2 σ = some (r, σ')) : Mt l yX7_copies cX7_copies 4 none 1 shM (fun ad => [.ref (ad x0), .int x1, .int x2]) σ (fun ad => none) σ' := mt_i (own := RX7) (by decide) rfl (fun _ => Nat.le_of_ble_eq_true rfl) (fun γ ad K hc hk => t_X7_copies hc ⟨_, _, h, hk⟩)

-- NetMapsModel.typed4(I)V
theorem dX7_typed4_0 : decode cX7_typed4 0 = .ok (.iconst 3, 1) := by decide +kernel
theorem dX7_typed4_1 : decode cX7_typed4 1 = .ok (.istore_n 2, 1) := by decide +kernel
theorem dX7_typed4_2 : decode cX7_typed4 2 = .ok (.iload_n 2, 1) := by decide +kernel
theorem dX7_typed4_3 : decode cX7_typed4 3 = .ok (.ifCond .lt 35, 3) := by decide +kernel
theorem dX7_typed4_6 : decode cX7_typed4 6 = .ok (.aload_n 0, 1) := by decide +kernel
theorem dX7_typed4_7 : decode cX7_typed4 7 = .ok (.getfield 25, 3) := by decide +kernel
theorem dX7_typed4_10 : decode cX7_typed4 10 = .ok (.aload_n 0, 1) := by decide +kernel
theorem dX7_typed4_11 : decode cX7_typed4 11 = .ok (.getfield 97, 3) := by decide +kernel
theorem dX7_typed4_14 : decode cX7_typed4 14 = .ok (.iload_n 1, 1) := by decide +kernel
theorem dX7_typed4_15 : decode cX7_typed4 15 = .ok (.bipush 8, 2) := by decide +kernel
theorem dX7_typed4_17 : decode cX7_typed4 17 = .ok (.iload_n 2, 1) := by decide +kernel
theorem dX7_typed4_18 : decode cX7_typed4 18 = .ok (.imul, 1) := by decide +kernel
theorem dX7_typed4_19 : decode cX7_typed4 19 = .ok (.ishr, 1) := by decide +kernel
theorem dX7_typed4_20 : decode cX7_typed4 20 = .ok (.i2b, 1) := by decide +kernel
theorem dX7_typed4_21 : decode cX7_typed4 21 = .ok (.bastore, 1) := by decide +kernel
theorem dX7_typed4_22 : decode cX7_typed4 22 = .ok (.aload_n 0, 1) := by decide +kernel
theorem dX7_typed4_23 : decode cX7_typed4 23 = .ok (.aload_n 0, 1) := by decide +kernel
theorem dX7_typed4_24 : decode cX7_typed4 24 = .ok (.getfield 97, 3) := by decide +kernel
theorem dX7_typed4_27 : decode cX7_typed4 27 = .ok (.iconst 1, 1) := by decide +kernel
theorem dX7_typed4_28 : decode cX7_typed4 28 = .ok (.iadd, 1) := by decide +kernel
theorem dX7_typed4_29 : decode cX7_typed4 29 = .ok (.putfield 97, 3) := by decide +kernel
theorem dX7_typed4_32 : decode cX7_typed4 32 = .ok (.iinc 2 (-1), 3) := by decide +kernel
theorem dX7_typed4_35 : decode cX7_typed4 35 = .ok (.goto (-33), 3) := by decide +kernel
theorem dX7_typed4_38 : decode cX7_typed4 38 = .ok (.return_, 1) := by decide +kernel
noncomputable def f_X7_typed4_L2 (x0 : Nat) (x1 : Int32) (v : (Int32)) (σ : Hp) : Option (((Int32) ⊕ (Unit)) × Hp) := if v < 0 then (some (Sum.inr (), σ)) else (gO (getR shM 7 x0 5 σ) fun v1 => gO (getI shM 7 x0 6 σ) fun v2 => gO (astI shM 1 v1 v2 (i2b' (x1 >>> ((8 * v) &&& 31))) σ) fun σ3 => gO (getI shM 7 x0 6 σ3) fun v4 => gO (putI shM 7 x0 6 (v4 + 1) σ3) fun σ5 => some (Sum.inl (v + (-1)), σ5))
set_option maxRecDepth 100000 in
set_option maxHeartbeats 4000000 in
theorem t_X7_typed4_L2 {l : Launch} {γ : Gm} {ad : Nat → Nat} {K : Option Value → Hp → Prop}  (hc : Cx l γ 1 3 ad shM RX7 cX7_typed4 none K) {x0 : Nat} {x1 : Int32} {v : (Int32)} {σ : Hp} {KX : (Unit) → Hp → Prop} (h : wpO (wh (f_X7_typed4_L2 x0 x1) v σ) KX) (kx38 : ∀ (v : Unit) (σ : Hp), KX v σ → WW l γ 1 3 ad shM 38 [] [] σ) : WW l γ 1 3 ad shM 2 [(0, .ref (ad x0)), (1, .int x1), (2, .int v)] [] σ := by
  refine wh_W (P := fun v σ => WW l γ 1 3 ad shM 2 [(0, .ref (ad x0)), (1, .int x1), (2, .int v)] [] σ) (fun v σ h => ?_) h
  have kn : ∀ (v : (Int32)) (σ : Hp), WW l γ 1 3 ad shM 2 [(0, .ref (ad x0)), (1, .int x1), (2, .int v)] [] σ → WW l γ 1 3 ad shM 2 [(0, .ref (ad x0)), (1, .int x1), (2, .int v)] [] σ := fun _ _ h => h
  · unfold f_X7_typed4_L2 at h
    refine r_iload_n hc 2 rfl rfl dX7_typed4_2 ?_
    refine r_if_lt hc (tgt := 38) dX7_typed4_3 (by decide) (fun c => ?_) (fun c => ?_)
    · have h := wp_t c h
      refine r_sub [] (lv' := []) rfl ?_
      have h := wp_v h
      exact kx38 () _ h
    · have h := wp_f c h
      refine r_aload_n hc 0 rfl rfl dX7_typed4_6 ?_
      obtain ⟨v1, ev1, h⟩ := wp_g h
      refine r_getR hc ev1 fl_X7_25 rfl dX7_typed4_7 ?_
      refine r_aload_n hc 0 rfl rfl dX7_typed4_10 ?_
      obtain ⟨v2, ev2, h⟩ := wp_g h
      refine r_getI hc ev2 fl_X7_97 rfl dX7_typed4_11 ?_
      refine r_iload_n hc 1 rfl rfl dX7_typed4_14 ?_
      refine r_bipush hc (v := 8) (by decide) dX7_typed4_15 ?_
      refine r_iload_n hc 2 rfl rfl dX7_typed4_17 ?_
      refine r_imul hc dX7_typed4_18 ?_
      refine r_ishr hc dX7_typed4_19 ?_
      refine r_i2b hc dX7_typed4_20 ?_
      obtain ⟨σ3, eσ3, h⟩ := wp_g h
      refine r_bast hc eσ3 dX7_typed4_21 ?_
      refine r_aload_n hc 0 rfl rfl dX7_typed4_22 ?_
      refine r_aload_n hc 0 rfl rfl dX7_typed4_23 ?_
      obtain ⟨v4, ev4, h⟩ := wp_g h
      refine r_getI hc ev4 fl_X7_97 rfl dX7_typed4_24 ?_
      refine r_iconst hc (v := 1) (by decide) dX7_typed4_27 ?_
      refine r_iadd hc dX7_typed4_28 ?_
      obtain ⟨σ5, eσ5, h⟩ := wp_g h
      refine r_putI hc eσ5 fp_X7_97 rfl dX7_typed4_29 ?_
      refine r_iincE hc (j := 2) (w := (-1)) (lv' := [(2, .int (v + (-1))), (0, .ref (ad x0)), (1, .int x1)]) rfl (by decide) rfl (by decide) rfl dX7_typed4_32 ?_
      refine r_goto hc (tgt := 2) dX7_typed4_35 (by decide) ?_
      refine r_sub [1, 2, 0] (lv' := [(0, .ref (ad x0)), (1, .int x1), (2, .int (v + (-1)))]) rfl ?_
      have h := wp_v h
      exact kn (v + (-1)) _ h
noncomputable def f_X7_typed4 (x0 : Nat) (x1 : Int32) (σ : Hp) : Option (Unit × Hp) := bO (wh (f_X7_typed4_L2 x0 x1) 3 σ) fun y1 σ2 => (some ((), σ2))
set_option maxRecDepth 100000 in
set_option maxHeartbeats 4000000 in
theorem t_X7_typed4 {l : Launch} {γ : Gm} {ad : Nat → Nat} {K : Option Value → Hp → Prop} (hc : Cx l γ 1 3 ad shM RX7 cX7_typed4 none K) {x0 : Nat} {x1 : Int32} {σ : Hp} (h : wpO (f_X7_typed4 x0 x1 σ) (KU K)) : WW l γ 1 3 ad shM 0 [(0, .ref (ad x0)), (1, .int x1)] [] σ := by
  unfold f_X7_typed4 at h
  refine r_iconst hc (v := 3) (by decide) dX7_typed4_0 ?_
  refine r_istore_nE hc (i := 2) (lv' := [(2, .int 3), (0, .ref (ad x0)), (1, .int x1)]) rfl rfl (by decide) rfl dX7_typed4_1 ?_
  refine r_sub [1, 2, 0] (lv' := [(0, .ref (ad x0)), (1, .int x1), (2, .int 3)]) rfl ?_
  refine t_X7_typed4_L2 hc (wp_bb h) ?_
  · intro y1 σ2 h
    have h := wp_v h
    exact r_vret hc h dX7_typed4_38
theorem c_X7_typed4 {l : Launch} {x0 : Nat} {x1 : Int32} {σ σ' : Hp} {r : Unit} (h : f_X7_typed4 x0 x1 σ = some (r, σ')) : Mt l yX7_typed4 cX7_typed4 3 none 1 shM (fun ad => [.ref (ad x0), .int x1]) σ (fun ad => none) σ' := mt_i (own := RX7) (by decide) rfl (fun _ => Nat.le_of_ble_eq_true rfl) (fun γ ad K hc hk => t_X7_typed4 hc ⟨_, _, h, hk⟩)

-- NetMapsModel.feed(IIIII)I
theorem dX7_feed_0 : decode cX7_feed 0 = .ok (.aload_n 0, 1) := by decide +kernel
theorem dX7_feed_1 : decode cX7_feed 1 = .ok (.getfield 97, 3) := by decide +kernel
theorem dX7_feed_4 : decode cX7_feed 4 = .ok (.bipush 20, 2) := by decide +kernel
theorem dX7_feed_6 : decode cX7_feed 6 = .ok (.iadd, 1) := by decide +kernel
theorem dX7_feed_7 : decode cX7_feed 7 = .ok (.sipush 160, 3) := by decide +kernel
theorem dX7_feed_10 : decode cX7_feed 10 = .ok (.if_icmp .le 5, 3) := by decide +kernel
theorem dX7_feed_13 : decode cX7_feed 13 = .ok (.iconst (-1), 1) := by decide +kernel
theorem dX7_feed_14 : decode cX7_feed 14 = .ok (.ireturn, 1) := by decide +kernel
theorem dX7_feed_15 : decode cX7_feed 15 = .ok (.aload_n 0, 1) := by decide +kernel
theorem dX7_feed_16 : decode cX7_feed 16 = .ok (.iload_n 1, 1) := by decide +kernel
theorem dX7_feed_17 : decode cX7_feed 17 = .ok (.invokevirtual 101, 3) := by decide +kernel
theorem dX7_feed_20 : decode cX7_feed 20 = .ok (.aload_n 0, 1) := by decide +kernel
theorem dX7_feed_21 : decode cX7_feed 21 = .ok (.iload_n 2, 1) := by decide +kernel
theorem dX7_feed_22 : decode cX7_feed 22 = .ok (.invokevirtual 101, 3) := by decide +kernel
theorem dX7_feed_25 : decode cX7_feed 25 = .ok (.aload_n 0, 1) := by decide +kernel
theorem dX7_feed_26 : decode cX7_feed 26 = .ok (.iload_n 3, 1) := by decide +kernel
theorem dX7_feed_27 : decode cX7_feed 27 = .ok (.invokevirtual 101, 3) := by decide +kernel
theorem dX7_feed_30 : decode cX7_feed 30 = .ok (.aload_n 0, 1) := by decide +kernel
theorem dX7_feed_31 : decode cX7_feed 31 = .ok (.iload 4, 2) := by decide +kernel
theorem dX7_feed_33 : decode cX7_feed 33 = .ok (.invokevirtual 101, 3) := by decide +kernel
theorem dX7_feed_36 : decode cX7_feed 36 = .ok (.aload_n 0, 1) := by decide +kernel
theorem dX7_feed_37 : decode cX7_feed 37 = .ok (.iload 5, 2) := by decide +kernel
theorem dX7_feed_39 : decode cX7_feed 39 = .ok (.invokevirtual 101, 3) := by decide +kernel
theorem dX7_feed_42 : decode cX7_feed 42 = .ok (.aload_n 0, 1) := by decide +kernel
theorem dX7_feed_43 : decode cX7_feed 43 = .ok (.getfield 97, 3) := by decide +kernel
theorem dX7_feed_46 : decode cX7_feed 46 = .ok (.ireturn, 1) := by decide +kernel
noncomputable def f_X7_feed (x0 : Nat) (x1 : Int32) (x2 : Int32) (x3 : Int32) (x4 : Int32) (x5 : Int32) (σ : Hp) : Option (Int32 × Hp) := gO (getI shM 7 x0 6 σ) fun v1 => if (v1 + 20) ≤ 160 then (gO (chk shM x0 7) fun _ => bO (f_X7_typed4 x0 x1 σ) fun _ σ3 => gO (chk shM x0 7) fun _ => bO (f_X7_typed4 x0 x2 σ3) fun _ σ6 => gO (chk shM x0 7) fun _ => bO (f_X7_typed4 x0 x3 σ6) fun _ σ9 => gO (chk shM x0 7) fun _ => bO (f_X7_typed4 x0 x4 σ9) fun _ σ12 => gO (chk shM x0 7) fun _ => bO (f_X7_typed4 x0 x5 σ12) fun _ σ15 => gO (getI shM 7 x0 6 σ15) fun v17 => some (v17, σ15)) else (some ((-1), σ))
set_option maxRecDepth 100000 in
set_option maxHeartbeats 4000000 in
theorem t_X7_feed {l : Launch} {γ : Gm} {ad : Nat → Nat} {K : Option Value → Hp → Prop} (hc : Cx l γ 2 6 ad shM RX7 cX7_feed (some .int) K) {x0 : Nat} {x1 : Int32} {x2 : Int32} {x3 : Int32} {x4 : Int32} {x5 : Int32} {σ : Hp} (h : wpO (f_X7_feed x0 x1 x2 x3 x4 x5 σ) (KI K)) : WW l γ 2 6 ad shM 0 [(0, .ref (ad x0)), (1, .int x1), (2, .int x2), (3, .int x3), (4, .int x4), (5, .int x5)] [] σ := by
  unfold f_X7_feed at h
  refine r_aload_n hc 0 rfl rfl dX7_feed_0 ?_
  obtain ⟨v1, ev1, h⟩ := wp_g h
  refine r_getI hc ev1 fl_X7_97 rfl dX7_feed_1 ?_
  refine r_bipush hc (v := 20) (by decide) dX7_feed_4 ?_
  refine r_iadd hc dX7_feed_6 ?_
  refine r_sipush hc (v := 160) (by decide) dX7_feed_7 ?_
  refine r_icmp_le hc (tgt := 15) dX7_feed_10 (by decide) (fun c => ?_) (fun c => ?_)
  · have h := wp_t c h
    refine r_aload_n hc 0 rfl rfl dX7_feed_15 ?_
    refine r_iload_n hc 1 rfl rfl dX7_feed_16 ?_
    obtain ⟨_, ek4, h⟩ := wp_g h
    obtain ⟨_, σ3, er2, h⟩ := wp_b h
    refine r_callV hc (k0 := x0) mv_X7_typed4 ml_X7_101 (c_X7_typed4 er2) (chk_of ek4) cls_7.1 rfl rfl rfl (by decide) rfl (Nat.le_of_ble_eq_true rfl) dX7_feed_17 ?_
    refine r_aload_n hc 0 rfl rfl dX7_feed_20 ?_
    refine r_iload_n hc 2 rfl rfl dX7_feed_21 ?_
    obtain ⟨_, ek7, h⟩ := wp_g h
    obtain ⟨_, σ6, er5, h⟩ := wp_b h
    refine r_callV hc (k0 := x0) mv_X7_typed4 ml_X7_101 (c_X7_typed4 er5) (chk_of ek7) cls_7.1 rfl rfl rfl (by decide) rfl (Nat.le_of_ble_eq_true rfl) dX7_feed_22 ?_
    refine r_aload_n hc 0 rfl rfl dX7_feed_25 ?_
    refine r_iload_n hc 3 rfl rfl dX7_feed_26 ?_
    obtain ⟨_, ek10, h⟩ := wp_g h
    obtain ⟨_, σ9, er8, h⟩ := wp_b h
    refine r_callV hc (k0 := x0) mv_X7_typed4 ml_X7_101 (c_X7_typed4 er8) (chk_of ek10) cls_7.1 rfl rfl rfl (by decide) rfl (Nat.le_of_ble_eq_true rfl) dX7_feed_27 ?_
    refine r_aload_n hc 0 rfl rfl dX7_feed_30 ?_
    refine r_iload hc 4 rfl dX7_feed_31 ?_
    obtain ⟨_, ek13, h⟩ := wp_g h
    obtain ⟨_, σ12, er11, h⟩ := wp_b h
    refine r_callV hc (k0 := x0) mv_X7_typed4 ml_X7_101 (c_X7_typed4 er11) (chk_of ek13) cls_7.1 rfl rfl rfl (by decide) rfl (Nat.le_of_ble_eq_true rfl) dX7_feed_33 ?_
    refine r_aload_n hc 0 rfl rfl dX7_feed_36 ?_
    refine r_iload hc 5 rfl dX7_feed_37 ?_
    obtain ⟨_, ek16, h⟩ := wp_g h
    obtain ⟨_, σ15, er14, h⟩ := wp_b h
    refine r_callV hc (k0 := x0) mv_X7_typed4 ml_X7_101 (c_X7_typed4 er14) (chk_of ek16) cls_7.1 rfl rfl rfl (by decide) rfl (Nat.le_of_ble_eq_true rfl) dX7_feed_39 ?_
    refine r_aload_n hc 0 rfl rfl dX7_feed_42 ?_
    obtain ⟨v17, ev17, h⟩ := wp_g h
    refine r_getI hc ev17 fl_X7_97 rfl dX7_feed_43 ?_
    have h := wp_v h
    exact r_iret hc h dX7_feed_46
  · have h := wp_f c h
    refine r_iconst hc (v := (-1)) (by decide) dX7_feed_13 ?_
    have h := wp_v h
    exact r_iret hc h dX7_feed_14
theorem c_X7_feed {l : Launch} {x0 : Nat} {x1 : Int32} {x2 : Int32} {x3 : Int32} {x4 : Int32} {x5 : Int32} {σ σ' : Hp} {r : Int32} (h : f_X7_feed x0 x1 x2 x3 x4 x5 σ = some (r, σ')) : Mt l yX7_feed cX7_feed 6 (some .int) 2 shM (fun ad => [.ref (ad x0), .int x1, .int x2, .int x3, .int x4, .int x5]) σ (fun ad => some (.int r)) σ' := mt_i (own := RX7) (by decide) rfl (fun _ => Nat.le_of_ble_eq_true rfl) (fun γ ad K hc hk => t_X7_feed hc ⟨_, _, h, hk⟩)

-- NetMapsModel.see()I
theorem dX7_see_0 : decode cX7_see 0 = .ok (.aload_n 0, 1) := by decide +kernel
theorem dX7_see_1 : decode cX7_see 1 = .ok (.getfield 105, 3) := by decide +kernel
theorem dX7_see_4 : decode cX7_see 4 = .ok (.aload_n 0, 1) := by decide +kernel
theorem dX7_see_5 : decode cX7_see 5 = .ok (.getfield 108, 3) := by decide +kernel
theorem dX7_see_8 : decode cX7_see 8 = .ok (.if_icmp .ge 30, 3) := by decide +kernel
theorem dX7_see_11 : decode cX7_see 11 = .ok (.aload_n 0, 1) := by decide +kernel
theorem dX7_see_12 : decode cX7_see 12 = .ok (.getfield 25, 3) := by decide +kernel
theorem dX7_see_15 : decode cX7_see 15 = .ok (.aload_n 0, 1) := by decide +kernel
theorem dX7_see_16 : decode cX7_see 16 = .ok (.getfield 105, 3) := by decide +kernel
theorem dX7_see_19 : decode cX7_see 19 = .ok (.baload, 1) := by decide +kernel
theorem dX7_see_20 : decode cX7_see 20 = .ok (.bipush 32, 2) := by decide +kernel
theorem dX7_see_22 : decode cX7_see 22 = .ok (.if_icmp .ne 16, 3) := by decide +kernel
theorem dX7_see_25 : decode cX7_see 25 = .ok (.aload_n 0, 1) := by decide +kernel
theorem dX7_see_26 : decode cX7_see 26 = .ok (.aload_n 0, 1) := by decide +kernel
theorem dX7_see_27 : decode cX7_see 27 = .ok (.getfield 105, 3) := by decide +kernel
theorem dX7_see_30 : decode cX7_see 30 = .ok (.iconst 1, 1) := by decide +kernel
theorem dX7_see_31 : decode cX7_see 31 = .ok (.iadd, 1) := by decide +kernel
theorem dX7_see_32 : decode cX7_see 32 = .ok (.putfield 105, 3) := by decide +kernel
theorem dX7_see_35 : decode cX7_see 35 = .ok (.goto (-35), 3) := by decide +kernel
theorem dX7_see_38 : decode cX7_see 38 = .ok (.aload_n 0, 1) := by decide +kernel
theorem dX7_see_39 : decode cX7_see 39 = .ok (.getfield 105, 3) := by decide +kernel
theorem dX7_see_42 : decode cX7_see 42 = .ok (.aload_n 0, 1) := by decide +kernel
theorem dX7_see_43 : decode cX7_see 43 = .ok (.getfield 108, 3) := by decide +kernel
theorem dX7_see_46 : decode cX7_see 46 = .ok (.if_icmp .ge 19, 3) := by decide +kernel
theorem dX7_see_49 : decode cX7_see 49 = .ok (.aload_n 0, 1) := by decide +kernel
theorem dX7_see_50 : decode cX7_see 50 = .ok (.getfield 25, 3) := by decide +kernel
theorem dX7_see_53 : decode cX7_see 53 = .ok (.aload_n 0, 1) := by decide +kernel
theorem dX7_see_54 : decode cX7_see 54 = .ok (.getfield 105, 3) := by decide +kernel
theorem dX7_see_57 : decode cX7_see 57 = .ok (.baload, 1) := by decide +kernel
theorem dX7_see_58 : decode cX7_see 58 = .ok (.sipush 255, 3) := by decide +kernel
theorem dX7_see_61 : decode cX7_see 61 = .ok (.iand, 1) := by decide +kernel
theorem dX7_see_62 : decode cX7_see 62 = .ok (.goto 4, 3) := by decide +kernel
theorem dX7_see_65 : decode cX7_see 65 = .ok (.iconst (-1), 1) := by decide +kernel
theorem dX7_see_66 : decode cX7_see 66 = .ok (.ireturn, 1) := by decide +kernel
noncomputable def f_X7_see_L0 (x0 : Nat) (v : (Unit)) (σ : Hp) : Option (((Unit) ⊕ (Unit)) × Hp) := gO (getI shM 7 x0 7 σ) fun v1 => gO (getI shM 7 x0 8 σ) fun v2 => if v2 ≤ v1 then (some (Sum.inr (), σ)) else (gO (getR shM 7 x0 5 σ) fun v3 => gO (getI shM 7 x0 7 σ) fun v4 => gO (aldI shM 1 v3 v4 σ) fun v5 => if v5 = 32 then (gO (getI shM 7 x0 7 σ) fun v6 => gO (putI shM 7 x0 7 (v6 + 1) σ) fun σ7 => some (Sum.inl (), σ7)) else (some (Sum.inr (), σ)))
set_option maxRecDepth 100000 in
set_option maxHeartbeats 4000000 in
theorem t_X7_see_L0 {l : Launch} {γ : Gm} {ad : Nat → Nat} {K : Option Value → Hp → Prop}  (hc : Cx l γ 1 1 ad shM RX7 cX7_see (some .int) K) {x0 : Nat} {v : (Unit)} {σ : Hp} {KX : (Unit) → Hp → Prop} (h : wpO (wh (f_X7_see_L0 x0) v σ) KX) (kx38 : ∀ (v : Unit) (σ : Hp), KX v σ → WW l γ 1 1 ad shM 38 [(0, .ref (ad x0))] [] σ) : WW l γ 1 1 ad shM 0 [(0, .ref (ad x0))] [] σ := by
  refine wh_W (P := fun v σ => WW l γ 1 1 ad shM 0 [(0, .ref (ad x0))] [] σ) (fun v σ h => ?_) h
  have kn : ∀ (v : (Unit)) (σ : Hp), WW l γ 1 1 ad shM 0 [(0, .ref (ad x0))] [] σ → WW l γ 1 1 ad shM 0 [(0, .ref (ad x0))] [] σ := fun _ _ h => h
  · unfold f_X7_see_L0 at h
    refine r_aload_n hc 0 rfl rfl dX7_see_0 ?_
    obtain ⟨v1, ev1, h⟩ := wp_g h
    refine r_getI hc ev1 fl_X7_105 rfl dX7_see_1 ?_
    refine r_aload_n hc 0 rfl rfl dX7_see_4 ?_
    obtain ⟨v2, ev2, h⟩ := wp_g h
    refine r_getI hc ev2 fl_X7_108 rfl dX7_see_5 ?_
    refine r_icmp_ge hc (tgt := 38) dX7_see_8 (by decide) (fun c => ?_) (fun c => ?_)
    · have h := wp_t c h
      have h := wp_v h
      exact kx38 () _ h
    · have h := wp_f c h
      refine r_aload_n hc 0 rfl rfl dX7_see_11 ?_
      obtain ⟨v3, ev3, h⟩ := wp_g h
      refine r_getR hc ev3 fl_X7_25 rfl dX7_see_12 ?_
      refine r_aload_n hc 0 rfl rfl dX7_see_15 ?_
      obtain ⟨v4, ev4, h⟩ := wp_g h
      refine r_getI hc ev4 fl_X7_105 rfl dX7_see_16 ?_
      obtain ⟨v5, ev5, h⟩ := wp_g h
      refine r_bald hc ev5 dX7_see_19 ?_
      refine r_bipush hc (v := 32) (by decide) dX7_see_20 ?_
      refine r_icmp_ne hc (tgt := 38) dX7_see_22 (by decide) (fun c => ?_) (fun c => ?_)
      · have h := wp_f c h
        have h := wp_v h
        exact kx38 () _ h
      · have h := wp_t c h
        refine r_aload_n hc 0 rfl rfl dX7_see_25 ?_
        refine r_aload_n hc 0 rfl rfl dX7_see_26 ?_
        obtain ⟨v6, ev6, h⟩ := wp_g h
        refine r_getI hc ev6 fl_X7_105 rfl dX7_see_27 ?_
        refine r_iconst hc (v := 1) (by decide) dX7_see_30 ?_
        refine r_iadd hc dX7_see_31 ?_
        obtain ⟨σ7, eσ7, h⟩ := wp_g h
        refine r_putI hc eσ7 fp_X7_105 rfl dX7_see_32 ?_
        refine r_goto hc (tgt := 0) dX7_see_35 (by decide) ?_
        have h := wp_v h
        exact kn () _ h
noncomputable def f_X7_see_b66 (s0 : Int32) (σ : Hp) : Option (Int32 × Hp) := some (s0, σ)
set_option maxRecDepth 100000 in
set_option maxHeartbeats 4000000 in
theorem t_X7_see_b66 {l : Launch} {γ : Gm} {ad : Nat → Nat} {K : Option Value → Hp → Prop} (hc : Cx l γ 1 1 ad shM RX7 cX7_see (some .int) K) {s0 : Int32} {σ : Hp} (h : wpO (f_X7_see_b66 s0 σ) (KI K)) : WW l γ 1 1 ad shM 66 [] [.int s0] σ := by
  unfold f_X7_see_b66 at h
  have h := wp_v h
  exact r_iret hc h dX7_see_66
noncomputable def f_X7_see_b38 (x0 : Nat) (σ : Hp) : Option (Int32 × Hp) := gO (getI shM 7 x0 7 σ) fun v1 => gO (getI shM 7 x0 8 σ) fun v2 => if v2 ≤ v1 then (f_X7_see_b66 (-1) σ) else (gO (getR shM 7 x0 5 σ) fun v3 => gO (getI shM 7 x0 7 σ) fun v4 => gO (aldI shM 1 v3 v4 σ) fun v5 => f_X7_see_b66 (v5 &&& 255) σ)
set_option maxRecDepth 100000 in
set_option maxHeartbeats 4000000 in
theorem t_X7_see_b38 {l : Launch} {γ : Gm} {ad : Nat → Nat} {K : Option Value → Hp → Prop} (hc : Cx l γ 1 1 ad shM RX7 cX7_see (some .int) K) {x0 : Nat} {σ : Hp} (h : wpO (f_X7_see_b38 x0 σ) (KI K)) : WW l γ 1 1 ad shM 38 [(0, .ref (ad x0))] [] σ := by
  unfold f_X7_see_b38 at h
  refine r_aload_n hc 0 rfl rfl dX7_see_38 ?_
  obtain ⟨v1, ev1, h⟩ := wp_g h
  refine r_getI hc ev1 fl_X7_105 rfl dX7_see_39 ?_
  refine r_aload_n hc 0 rfl rfl dX7_see_42 ?_
  obtain ⟨v2, ev2, h⟩ := wp_g h
  refine r_getI hc ev2 fl_X7_108 rfl dX7_see_43 ?_
  refine r_icmp_ge hc (tgt := 65) dX7_see_46 (by decide) (fun c => ?_) (fun c => ?_)
  · have h := wp_t c h
    refine r_iconst hc (v := (-1)) (by decide) dX7_see_65 ?_
    refine r_sub [] (lv' := []) rfl ?_
    exact t_X7_see_b66 hc h
  · have h := wp_f c h
    refine r_aload_n hc 0 rfl rfl dX7_see_49 ?_
    obtain ⟨v3, ev3, h⟩ := wp_g h
    refine r_getR hc ev3 fl_X7_25 rfl dX7_see_50 ?_
    refine r_aload_n hc 0 rfl rfl dX7_see_53 ?_
    obtain ⟨v4, ev4, h⟩ := wp_g h
    refine r_getI hc ev4 fl_X7_105 rfl dX7_see_54 ?_
    obtain ⟨v5, ev5, h⟩ := wp_g h
    refine r_bald hc ev5 dX7_see_57 ?_
    refine r_sipush hc (v := 255) (by decide) dX7_see_58 ?_
    refine r_iand hc dX7_see_61 ?_
    refine r_goto hc (tgt := 66) dX7_see_62 (by decide) ?_
    refine r_sub [] (lv' := []) rfl ?_
    exact t_X7_see_b66 hc h
noncomputable def f_X7_see (x0 : Nat) (σ : Hp) : Option (Int32 × Hp) := bO (wh (f_X7_see_L0 x0) () σ) fun y1 σ2 => (f_X7_see_b38 x0 σ2)
set_option maxRecDepth 100000 in
set_option maxHeartbeats 4000000 in
theorem t_X7_see {l : Launch} {γ : Gm} {ad : Nat → Nat} {K : Option Value → Hp → Prop} (hc : Cx l γ 1 1 ad shM RX7 cX7_see (some .int) K) {x0 : Nat} {σ : Hp} (h : wpO (f_X7_see x0 σ) (KI K)) : WW l γ 1 1 ad shM 0 [(0, .ref (ad x0))] [] σ := by
  unfold f_X7_see at h
  refine t_X7_see_L0 hc (wp_bb h) ?_
  · intro y1 σ2 h
    exact t_X7_see_b38 hc h
theorem c_X7_see {l : Launch} {x0 : Nat} {σ σ' : Hp} {r : Int32} (h : f_X7_see x0 σ = some (r, σ')) : Mt l yX7_see cX7_see 1 (some .int) 1 shM (fun ad => [.ref (ad x0)]) σ (fun ad => some (.int r)) σ' := mt_i (own := RX7) (by decide) rfl (fun _ => Nat.le_of_ble_eq_true rfl) (fun γ ad K hc hk => t_X7_see hc ⟨_, _, h, hk⟩)

-- NetMapsModel.isDigit(I)Z
theorem dX7_isDigit_0 : decode cX7_isDigit 0 = .ok (.iload_n 0, 1) := by decide +kernel
theorem dX7_isDigit_1 : decode cX7_isDigit 1 = .ok (.bipush 48, 2) := by decide +kernel
theorem dX7_isDigit_3 : decode cX7_isDigit 3 = .ok (.bipush 57, 2) := by decide +kernel
theorem dX7_isDigit_5 : decode cX7_isDigit 5 = .ok (.invokestatic 81, 3) := by decide +kernel
theorem dX7_isDigit_8 : decode cX7_isDigit 8 = .ok (.ireturn, 1) := by decide +kernel
noncomputable def f_X7_isDigit (x0 : Int32) (σ : Hp) : Option (Int32 × Hp) := bO (f_X7_in x0 48 57 σ) fun r1 σ2 => gO (zz r1) fun _ => some (r1, σ2)
set_option maxRecDepth 100000 in
set_option maxHeartbeats 4000000 in
theorem t_X7_isDigit {l : Launch} {γ : Gm} {ad : Nat → Nat} {K : Option Value → Hp → Prop} (hc : Cx l γ 2 1 ad shM RX7 cX7_isDigit (some .boolean) K) {x0 : Int32} {σ : Hp} (h : wpO (f_X7_isDigit x0 σ) (KI K)) : WW l γ 2 1 ad shM 0 [(0, .int x0)] [] σ := by
  unfold f_X7_isDigit at h
  refine r_iload_n hc 0 rfl rfl dX7_isDigit_0 ?_
  refine r_bipush hc (v := 48) (by decide) dX7_isDigit_1 ?_
  refine r_bipush hc (v := 57) (by decide) dX7_isDigit_3 ?_
  obtain ⟨r1, σ2, er1, h⟩ := wp_b h
  refine r_callS hc ms_X7_in ml_X7_81 (c_X7_in er1) rfl rfl (by decide) rfl (Nat.le_of_ble_eq_true rfl) dX7_isDigit_5 ?_
  obtain ⟨_, ek3, h⟩ := wp_g h
  have h := wp_v h
  exact r_zret hc h (zz_of ek3) dX7_isDigit_8
theorem c_X7_isDigit {l : Launch} {x0 : Int32} {σ σ' : Hp} {r : Int32} (h : f_X7_isDigit x0 σ = some (r, σ')) : Mt l yX7_isDigit cX7_isDigit 1 (some .boolean) 2 shM (fun ad => [.int x0]) σ (fun ad => some (.int r)) σ' := mt_i (own := RX7) (by decide) rfl (fun _ => Nat.le_of_ble_eq_true rfl) (fun γ ad K hc hk => t_X7_isDigit hc ⟨_, _, h, hk⟩)

-- NetMapsModel.wrong(I)I
theorem dX7_wrong_0 : decode cX7_wrong 0 = .ok (.sipush (-1000), 3) := by decide +kernel
theorem dX7_wrong_3 : decode cX7_wrong 3 = .ok (.iload_n 1, 1) := by decide +kernel
theorem dX7_wrong_4 : decode cX7_wrong 4 = .ok (.imul, 1) := by decide +kernel
theorem dX7_wrong_5 : decode cX7_wrong 5 = .ok (.aload_n 0, 1) := by decide +kernel
theorem dX7_wrong_6 : decode cX7_wrong 6 = .ok (.getfield 105, 3) := by decide +kernel
theorem dX7_wrong_9 : decode cX7_wrong 9 = .ok (.isub, 1) := by decide +kernel
theorem dX7_wrong_10 : decode cX7_wrong 10 = .ok (.ireturn, 1) := by decide +kernel
noncomputable def f_X7_wrong (x0 : Nat) (x1 : Int32) (σ : Hp) : Option (Int32 × Hp) := gO (getI shM 7 x0 7 σ) fun v1 => some ((((-1000) * x1) - v1), σ)
set_option maxRecDepth 100000 in
set_option maxHeartbeats 4000000 in
theorem t_X7_wrong {l : Launch} {γ : Gm} {ad : Nat → Nat} {K : Option Value → Hp → Prop} (hc : Cx l γ 1 2 ad shM RX7 cX7_wrong (some .int) K) {x0 : Nat} {x1 : Int32} {σ : Hp} (h : wpO (f_X7_wrong x0 x1 σ) (KI K)) : WW l γ 1 2 ad shM 0 [(0, .ref (ad x0)), (1, .int x1)] [] σ := by
  unfold f_X7_wrong at h
  refine r_sipush hc (v := (-1000)) (by decide) dX7_wrong_0 ?_
  refine r_iload_n hc 1 rfl rfl dX7_wrong_3 ?_
  refine r_imul hc dX7_wrong_4 ?_
  refine r_aload_n hc 0 rfl rfl dX7_wrong_5 ?_
  obtain ⟨v1, ev1, h⟩ := wp_g h
  refine r_getI hc ev1 fl_X7_105 rfl dX7_wrong_6 ?_
  refine r_isub hc dX7_wrong_9 ?_
  have h := wp_v h
  exact r_iret hc h dX7_wrong_10
theorem c_X7_wrong {l : Launch} {x0 : Nat} {x1 : Int32} {σ σ' : Hp} {r : Int32} (h : f_X7_wrong x0 x1 σ = some (r, σ')) : Mt l yX7_wrong cX7_wrong 2 (some .int) 1 shM (fun ad => [.ref (ad x0), .int x1]) σ (fun ad => some (.int r)) σ' := mt_i (own := RX7) (by decide) rfl (fun _ => Nat.le_of_ble_eq_true rfl) (fun γ ad K hc hk => t_X7_wrong hc ⟨_, _, h, hk⟩)

-- NetMapsModel.reads()I
theorem dX7_reads_0 : decode cX7_reads 0 = .ok (.aload_n 0, 1) := by decide +kernel
theorem dX7_reads_1 : decode cX7_reads 1 = .ok (.invokevirtual 111, 3) := by decide +kernel
theorem dX7_reads_4 : decode cX7_reads 4 = .ok (.istore_n 1, 1) := by decide +kernel
theorem dX7_reads_5 : decode cX7_reads 5 = .ok (.iload_n 1, 1) := by decide +kernel
theorem dX7_reads_6 : decode cX7_reads 6 = .ok (.invokestatic 115, 3) := by decide +kernel
theorem dX7_reads_9 : decode cX7_reads 9 = .ok (.ifCond .ne 9, 3) := by decide +kernel
theorem dX7_reads_12 : decode cX7_reads 12 = .ok (.aload_n 0, 1) := by decide +kernel
theorem dX7_reads_13 : decode cX7_reads 13 = .ok (.iconst 1, 1) := by decide +kernel
theorem dX7_reads_14 : decode cX7_reads 14 = .ok (.invokevirtual 118, 3) := by decide +kernel
theorem dX7_reads_17 : decode cX7_reads 17 = .ok (.ireturn, 1) := by decide +kernel
theorem dX7_reads_18 : decode cX7_reads 18 = .ok (.iload_n 1, 1) := by decide +kernel
theorem dX7_reads_19 : decode cX7_reads 19 = .ok (.bipush 48, 2) := by decide +kernel
theorem dX7_reads_21 : decode cX7_reads 21 = .ok (.isub, 1) := by decide +kernel
theorem dX7_reads_22 : decode cX7_reads 22 = .ok (.iconst 1, 1) := by decide +kernel
theorem dX7_reads_23 : decode cX7_reads 23 = .ok (.bipush 7, 2) := by decide +kernel
theorem dX7_reads_25 : decode cX7_reads 25 = .ok (.invokestatic 81, 3) := by decide +kernel
theorem dX7_reads_28 : decode cX7_reads 28 = .ok (.ifCond .ne 9, 3) := by decide +kernel
theorem dX7_reads_31 : decode cX7_reads 31 = .ok (.aload_n 0, 1) := by decide +kernel
theorem dX7_reads_32 : decode cX7_reads 32 = .ok (.iconst 2, 1) := by decide +kernel
theorem dX7_reads_33 : decode cX7_reads 33 = .ok (.invokevirtual 118, 3) := by decide +kernel
theorem dX7_reads_36 : decode cX7_reads 36 = .ok (.ireturn, 1) := by decide +kernel
theorem dX7_reads_37 : decode cX7_reads 37 = .ok (.aload_n 0, 1) := by decide +kernel
theorem dX7_reads_38 : decode cX7_reads 38 = .ok (.bipush 7, 2) := by decide +kernel
theorem dX7_reads_40 : decode cX7_reads 40 = .ok (.iload_n 1, 1) := by decide +kernel
theorem dX7_reads_41 : decode cX7_reads 41 = .ok (.bipush 48, 2) := by decide +kernel
theorem dX7_reads_43 : decode cX7_reads 43 = .ok (.isub, 1) := by decide +kernel
theorem dX7_reads_44 : decode cX7_reads 44 = .ok (.invokevirtual 121, 3) := by decide +kernel
theorem dX7_reads_47 : decode cX7_reads 47 = .ok (.aload_n 0, 1) := by decide +kernel
theorem dX7_reads_48 : decode cX7_reads 48 = .ok (.aload_n 0, 1) := by decide +kernel
theorem dX7_reads_49 : decode cX7_reads 49 = .ok (.getfield 105, 3) := by decide +kernel
theorem dX7_reads_52 : decode cX7_reads 52 = .ok (.iconst 1, 1) := by decide +kernel
theorem dX7_reads_53 : decode cX7_reads 53 = .ok (.iadd, 1) := by decide +kernel
theorem dX7_reads_54 : decode cX7_reads 54 = .ok (.putfield 105, 3) := by decide +kernel
theorem dX7_reads_57 : decode cX7_reads 57 = .ok (.aload_n 0, 1) := by decide +kernel
theorem dX7_reads_58 : decode cX7_reads 58 = .ok (.invokevirtual 111, 3) := by decide +kernel
theorem dX7_reads_61 : decode cX7_reads 61 = .ok (.bipush 58, 2) := by decide +kernel
theorem dX7_reads_63 : decode cX7_reads 63 = .ok (.if_icmp .eq 9, 3) := by decide +kernel
theorem dX7_reads_66 : decode cX7_reads 66 = .ok (.aload_n 0, 1) := by decide +kernel
theorem dX7_reads_67 : decode cX7_reads 67 = .ok (.iconst 1, 1) := by decide +kernel
theorem dX7_reads_68 : decode cX7_reads 68 = .ok (.invokevirtual 118, 3) := by decide +kernel
theorem dX7_reads_71 : decode cX7_reads 71 = .ok (.ireturn, 1) := by decide +kernel
theorem dX7_reads_72 : decode cX7_reads 72 = .ok (.aload_n 0, 1) := by decide +kernel
theorem dX7_reads_73 : decode cX7_reads 73 = .ok (.aload_n 0, 1) := by decide +kernel
theorem dX7_reads_74 : decode cX7_reads 74 = .ok (.getfield 105, 3) := by decide +kernel
theorem dX7_reads_77 : decode cX7_reads 77 = .ok (.iconst 1, 1) := by decide +kernel
theorem dX7_reads_78 : decode cX7_reads 78 = .ok (.iadd, 1) := by decide +kernel
theorem dX7_reads_79 : decode cX7_reads 79 = .ok (.putfield 105, 3) := by decide +kernel
theorem dX7_reads_82 : decode cX7_reads 82 = .ok (.aload_n 0, 1) := by decide +kernel
theorem dX7_reads_83 : decode cX7_reads 83 = .ok (.invokevirtual 111, 3) := by decide +kernel
theorem dX7_reads_86 : decode cX7_reads 86 = .ok (.iconst (-1), 1) := by decide +kernel
theorem dX7_reads_87 : decode cX7_reads 87 = .ok (.if_icmp .eq 224, 3) := by decide +kernel
theorem dX7_reads_90 : decode cX7_reads 90 = .ok (.aload_n 0, 1) := by decide +kernel
theorem dX7_reads_91 : decode cX7_reads 91 = .ok (.invokevirtual 111, 3) := by decide +kernel
theorem dX7_reads_94 : decode cX7_reads 94 = .ok (.istore_n 2, 1) := by decide +kernel
theorem dX7_reads_95 : decode cX7_reads 95 = .ok (.iload_n 2, 1) := by decide +kernel
theorem dX7_reads_96 : decode cX7_reads 96 = .ok (.invokestatic 115, 3) := by decide +kernel
theorem dX7_reads_99 : decode cX7_reads 99 = .ok (.ifCond .ne 9, 3) := by decide +kernel
theorem dX7_reads_102 : decode cX7_reads 102 = .ok (.aload_n 0, 1) := by decide +kernel
theorem dX7_reads_103 : decode cX7_reads 103 = .ok (.iconst 1, 1) := by decide +kernel
theorem dX7_reads_104 : decode cX7_reads 104 = .ok (.invokevirtual 118, 3) := by decide +kernel
theorem dX7_reads_107 : decode cX7_reads 107 = .ok (.ireturn, 1) := by decide +kernel
theorem dX7_reads_108 : decode cX7_reads 108 = .ok (.iload_n 2, 1) := by decide +kernel
theorem dX7_reads_109 : decode cX7_reads 109 = .ok (.bipush 48, 2) := by decide +kernel
theorem dX7_reads_111 : decode cX7_reads 111 = .ok (.isub, 1) := by decide +kernel
theorem dX7_reads_112 : decode cX7_reads 112 = .ok (.aload_n 0, 1) := by decide +kernel
theorem dX7_reads_113 : decode cX7_reads 113 = .ok (.getfield 7, 3) := by decide +kernel
theorem dX7_reads_116 : decode cX7_reads 116 = .ok (.bipush 7, 2) := by decide +kernel
theorem dX7_reads_118 : decode cX7_reads 118 = .ok (.iaload, 1) := by decide +kernel
theorem dX7_reads_119 : decode cX7_reads 119 = .ok (.if_icmp .lt 9, 3) := by decide +kernel
theorem dX7_reads_122 : decode cX7_reads 122 = .ok (.aload_n 0, 1) := by decide +kernel
theorem dX7_reads_123 : decode cX7_reads 123 = .ok (.iconst 2, 1) := by decide +kernel
theorem dX7_reads_124 : decode cX7_reads 124 = .ok (.invokevirtual 118, 3) := by decide +kernel
theorem dX7_reads_127 : decode cX7_reads 127 = .ok (.ireturn, 1) := by decide +kernel
theorem dX7_reads_128 : decode cX7_reads 128 = .ok (.aload_n 0, 1) := by decide +kernel
theorem dX7_reads_129 : decode cX7_reads 129 = .ok (.aload_n 0, 1) := by decide +kernel
theorem dX7_reads_130 : decode cX7_reads 130 = .ok (.getfield 105, 3) := by decide +kernel
theorem dX7_reads_133 : decode cX7_reads 133 = .ok (.iconst 1, 1) := by decide +kernel
theorem dX7_reads_134 : decode cX7_reads 134 = .ok (.iadd, 1) := by decide +kernel
theorem dX7_reads_135 : decode cX7_reads 135 = .ok (.putfield 105, 3) := by decide +kernel
theorem dX7_reads_138 : decode cX7_reads 138 = .ok (.aload_n 0, 1) := by decide +kernel
theorem dX7_reads_139 : decode cX7_reads 139 = .ok (.invokevirtual 111, 3) := by decide +kernel
theorem dX7_reads_142 : decode cX7_reads 142 = .ok (.istore_n 3, 1) := by decide +kernel
theorem dX7_reads_143 : decode cX7_reads 143 = .ok (.iload_n 3, 1) := by decide +kernel
theorem dX7_reads_144 : decode cX7_reads 144 = .ok (.bipush 45, 2) := by decide +kernel
theorem dX7_reads_146 : decode cX7_reads 146 = .ok (.if_icmp .eq 15, 3) := by decide +kernel
theorem dX7_reads_149 : decode cX7_reads 149 = .ok (.iload_n 3, 1) := by decide +kernel
theorem dX7_reads_150 : decode cX7_reads 150 = .ok (.bipush 62, 2) := by decide +kernel
theorem dX7_reads_152 : decode cX7_reads 152 = .ok (.if_icmp .eq 9, 3) := by decide +kernel
theorem dX7_reads_155 : decode cX7_reads 155 = .ok (.aload_n 0, 1) := by decide +kernel
theorem dX7_reads_156 : decode cX7_reads 156 = .ok (.iconst 1, 1) := by decide +kernel
theorem dX7_reads_157 : decode cX7_reads 157 = .ok (.invokevirtual 118, 3) := by decide +kernel
theorem dX7_reads_160 : decode cX7_reads 160 = .ok (.ireturn, 1) := by decide +kernel
theorem dX7_reads_161 : decode cX7_reads 161 = .ok (.aload_n 0, 1) := by decide +kernel
theorem dX7_reads_162 : decode cX7_reads 162 = .ok (.aload_n 0, 1) := by decide +kernel
theorem dX7_reads_163 : decode cX7_reads 163 = .ok (.getfield 105, 3) := by decide +kernel
theorem dX7_reads_166 : decode cX7_reads 166 = .ok (.iconst 1, 1) := by decide +kernel
theorem dX7_reads_167 : decode cX7_reads 167 = .ok (.iadd, 1) := by decide +kernel
theorem dX7_reads_168 : decode cX7_reads 168 = .ok (.putfield 105, 3) := by decide +kernel
theorem dX7_reads_171 : decode cX7_reads 171 = .ok (.aload_n 0, 1) := by decide +kernel
theorem dX7_reads_172 : decode cX7_reads 172 = .ok (.invokevirtual 111, 3) := by decide +kernel
theorem dX7_reads_175 : decode cX7_reads 175 = .ok (.istore 4, 2) := by decide +kernel
theorem dX7_reads_177 : decode cX7_reads 177 = .ok (.iload 4, 2) := by decide +kernel
theorem dX7_reads_179 : decode cX7_reads 179 = .ok (.invokestatic 115, 3) := by decide +kernel
theorem dX7_reads_182 : decode cX7_reads 182 = .ok (.ifCond .ne 9, 3) := by decide +kernel
theorem dX7_reads_185 : decode cX7_reads 185 = .ok (.aload_n 0, 1) := by decide +kernel
theorem dX7_reads_186 : decode cX7_reads 186 = .ok (.iconst 1, 1) := by decide +kernel
theorem dX7_reads_187 : decode cX7_reads 187 = .ok (.invokevirtual 118, 3) := by decide +kernel
theorem dX7_reads_190 : decode cX7_reads 190 = .ok (.ireturn, 1) := by decide +kernel
theorem dX7_reads_191 : decode cX7_reads 191 = .ok (.iload 4, 2) := by decide +kernel
theorem dX7_reads_193 : decode cX7_reads 193 = .ok (.bipush 48, 2) := by decide +kernel
theorem dX7_reads_195 : decode cX7_reads 195 = .ok (.isub, 1) := by decide +kernel
theorem dX7_reads_196 : decode cX7_reads 196 = .ok (.aload_n 0, 1) := by decide +kernel
theorem dX7_reads_197 : decode cX7_reads 197 = .ok (.getfield 7, 3) := by decide +kernel
theorem dX7_reads_200 : decode cX7_reads 200 = .ok (.bipush 7, 2) := by decide +kernel
theorem dX7_reads_202 : decode cX7_reads 202 = .ok (.iaload, 1) := by decide +kernel
theorem dX7_reads_203 : decode cX7_reads 203 = .ok (.if_icmp .lt 9, 3) := by decide +kernel
theorem dX7_reads_206 : decode cX7_reads 206 = .ok (.aload_n 0, 1) := by decide +kernel
theorem dX7_reads_207 : decode cX7_reads 207 = .ok (.iconst 2, 1) := by decide +kernel
theorem dX7_reads_208 : decode cX7_reads 208 = .ok (.invokevirtual 118, 3) := by decide +kernel
theorem dX7_reads_211 : decode cX7_reads 211 = .ok (.ireturn, 1) := by decide +kernel
theorem dX7_reads_212 : decode cX7_reads 212 = .ok (.aload_n 0, 1) := by decide +kernel
theorem dX7_reads_213 : decode cX7_reads 213 = .ok (.bipush 7, 2) := by decide +kernel
theorem dX7_reads_215 : decode cX7_reads 215 = .ok (.iload_n 2, 1) := by decide +kernel
theorem dX7_reads_216 : decode cX7_reads 216 = .ok (.bipush 48, 2) := by decide +kernel
theorem dX7_reads_218 : decode cX7_reads 218 = .ok (.isub, 1) := by decide +kernel
theorem dX7_reads_219 : decode cX7_reads 219 = .ok (.iload 4, 2) := by decide +kernel
theorem dX7_reads_221 : decode cX7_reads 221 = .ok (.bipush 48, 2) := by decide +kernel
theorem dX7_reads_223 : decode cX7_reads 223 = .ok (.isub, 1) := by decide +kernel
theorem dX7_reads_224 : decode cX7_reads 224 = .ok (.invokevirtual 125, 3) := by decide +kernel
theorem dX7_reads_227 : decode cX7_reads 227 = .ok (.ifCond .eq 33, 3) := by decide +kernel
theorem dX7_reads_230 : decode cX7_reads 230 = .ok (.iload_n 3, 1) := by decide +kernel
theorem dX7_reads_231 : decode cX7_reads 231 = .ok (.bipush 62, 2) := by decide +kernel
theorem dX7_reads_233 : decode cX7_reads 233 = .ok (.if_icmp .eq 21, 3) := by decide +kernel
theorem dX7_reads_236 : decode cX7_reads 236 = .ok (.aload_n 0, 1) := by decide +kernel
theorem dX7_reads_237 : decode cX7_reads 237 = .ok (.bipush 7, 2) := by decide +kernel
theorem dX7_reads_239 : decode cX7_reads 239 = .ok (.iload 4, 2) := by decide +kernel
theorem dX7_reads_241 : decode cX7_reads 241 = .ok (.bipush 48, 2) := by decide +kernel
theorem dX7_reads_243 : decode cX7_reads 243 = .ok (.isub, 1) := by decide +kernel
theorem dX7_reads_244 : decode cX7_reads 244 = .ok (.iload_n 2, 1) := by decide +kernel
theorem dX7_reads_245 : decode cX7_reads 245 = .ok (.bipush 48, 2) := by decide +kernel
theorem dX7_reads_247 : decode cX7_reads 247 = .ok (.isub, 1) := by decide +kernel
theorem dX7_reads_248 : decode cX7_reads 248 = .ok (.invokevirtual 125, 3) := by decide +kernel
theorem dX7_reads_251 : decode cX7_reads 251 = .ok (.ifCond .eq 9, 3) := by decide +kernel
theorem dX7_reads_254 : decode cX7_reads 254 = .ok (.aload_n 0, 1) := by decide +kernel
theorem dX7_reads_255 : decode cX7_reads 255 = .ok (.iconst 3, 1) := by decide +kernel
theorem dX7_reads_256 : decode cX7_reads 256 = .ok (.invokevirtual 118, 3) := by decide +kernel
theorem dX7_reads_259 : decode cX7_reads 259 = .ok (.ireturn, 1) := by decide +kernel
theorem dX7_reads_260 : decode cX7_reads 260 = .ok (.aload_n 0, 1) := by decide +kernel
theorem dX7_reads_261 : decode cX7_reads 261 = .ok (.aload_n 0, 1) := by decide +kernel
theorem dX7_reads_262 : decode cX7_reads 262 = .ok (.getfield 105, 3) := by decide +kernel
theorem dX7_reads_265 : decode cX7_reads 265 = .ok (.iconst 1, 1) := by decide +kernel
theorem dX7_reads_266 : decode cX7_reads 266 = .ok (.iadd, 1) := by decide +kernel
theorem dX7_reads_267 : decode cX7_reads 267 = .ok (.putfield 105, 3) := by decide +kernel
theorem dX7_reads_270 : decode cX7_reads 270 = .ok (.aload_n 0, 1) := by decide +kernel
theorem dX7_reads_271 : decode cX7_reads 271 = .ok (.bipush 7, 2) := by decide +kernel
theorem dX7_reads_273 : decode cX7_reads 273 = .ok (.iload_n 2, 1) := by decide +kernel
theorem dX7_reads_274 : decode cX7_reads 274 = .ok (.bipush 48, 2) := by decide +kernel
theorem dX7_reads_276 : decode cX7_reads 276 = .ok (.isub, 1) := by decide +kernel
theorem dX7_reads_277 : decode cX7_reads 277 = .ok (.iload 4, 2) := by decide +kernel
theorem dX7_reads_279 : decode cX7_reads 279 = .ok (.bipush 48, 2) := by decide +kernel
theorem dX7_reads_281 : decode cX7_reads 281 = .ok (.isub, 1) := by decide +kernel
theorem dX7_reads_282 : decode cX7_reads 282 = .ok (.iconst 1, 1) := by decide +kernel
theorem dX7_reads_283 : decode cX7_reads 283 = .ok (.invokevirtual 128, 3) := by decide +kernel
theorem dX7_reads_286 : decode cX7_reads 286 = .ok (.iload_n 3, 1) := by decide +kernel
theorem dX7_reads_287 : decode cX7_reads 287 = .ok (.bipush 45, 2) := by decide +kernel
theorem dX7_reads_289 : decode cX7_reads 289 = .ok (.if_icmp .ne 19, 3) := by decide +kernel
theorem dX7_reads_292 : decode cX7_reads 292 = .ok (.aload_n 0, 1) := by decide +kernel
theorem dX7_reads_293 : decode cX7_reads 293 = .ok (.bipush 7, 2) := by decide +kernel
theorem dX7_reads_295 : decode cX7_reads 295 = .ok (.iload 4, 2) := by decide +kernel
theorem dX7_reads_297 : decode cX7_reads 297 = .ok (.bipush 48, 2) := by decide +kernel
theorem dX7_reads_299 : decode cX7_reads 299 = .ok (.isub, 1) := by decide +kernel
theorem dX7_reads_300 : decode cX7_reads 300 = .ok (.iload_n 2, 1) := by decide +kernel
theorem dX7_reads_301 : decode cX7_reads 301 = .ok (.bipush 48, 2) := by decide +kernel
theorem dX7_reads_303 : decode cX7_reads 303 = .ok (.isub, 1) := by decide +kernel
theorem dX7_reads_304 : decode cX7_reads 304 = .ok (.iconst 1, 1) := by decide +kernel
theorem dX7_reads_305 : decode cX7_reads 305 = .ok (.invokevirtual 128, 3) := by decide +kernel
theorem dX7_reads_308 : decode cX7_reads 308 = .ok (.goto (-226), 3) := by decide +kernel
theorem dX7_reads_311 : decode cX7_reads 311 = .ok (.iconst 0, 1) := by decide +kernel
theorem dX7_reads_312 : decode cX7_reads 312 = .ok (.ireturn, 1) := by decide +kernel
noncomputable def f_X7_reads_b308 (x0 : Nat) (σ : Hp) : Option (((Unit) ⊕ ((Unit) ⊕ ((Unit) ⊕ ((Unit) ⊕ ((Unit) ⊕ ((Unit) ⊕ ((Unit) ⊕ (Unit)))))))) × Hp) := some (Sum.inl (), σ)
set_option maxRecDepth 100000 in
set_option maxHeartbeats 4000000 in
theorem t_X7_reads_b308 {l : Launch} {γ : Gm} {ad : Nat → Nat} {K : Option Value → Hp → Prop} (hc : Cx l γ 3 5 ad shM RX7 cX7_reads (some .int) K) {x0 : Nat}  {σ : Hp} {KL : ((Unit) ⊕ ((Unit) ⊕ ((Unit) ⊕ ((Unit) ⊕ ((Unit) ⊕ ((Unit) ⊕ ((Unit) ⊕ (Unit)))))))) → Hp → Prop} (h : wpO (f_X7_reads_b308 x0 σ) KL) (kn : ∀ (v : (Unit)) (σ : Hp), KL (Sum.inl v) σ → WW l γ 3 5 ad shM 82 [(0, .ref (ad x0))] [] σ) (kx102 : ∀ (v : Unit) (σ : Hp), KL (Sum.inr (Sum.inl v)) σ → WW l γ 3 5 ad shM 102 [(0, .ref (ad x0))] [] σ) (kx122 : ∀ (v : Unit) (σ : Hp), KL (Sum.inr (Sum.inr (Sum.inl v))) σ → WW l γ 3 5 ad shM 122 [(0, .ref (ad x0))] [] σ) (kx155 : ∀ (v : Unit) (σ : Hp), KL (Sum.inr (Sum.inr (Sum.inr (Sum.inl v)))) σ → WW l γ 3 5 ad shM 155 [(0, .ref (ad x0))] [] σ) (kx185 : ∀ (v : Unit) (σ : Hp), KL (Sum.inr (Sum.inr (Sum.inr (Sum.inr (Sum.inl v))))) σ → WW l γ 3 5 ad shM 185 [(0, .ref (ad x0))] [] σ) (kx206 : ∀ (v : Unit) (σ : Hp), KL (Sum.inr (Sum.inr (Sum.inr (Sum.inr (Sum.inr (Sum.inl v)))))) σ → WW l γ 3 5 ad shM 206 [(0, .ref (ad x0))] [] σ) (kx254 : ∀ (v : Unit) (σ : Hp), KL (Sum.inr (Sum.inr (Sum.inr (Sum.inr (Sum.inr (Sum.inr (Sum.inl v))))))) σ → WW l γ 3 5 ad shM 254 [(0, .ref (ad x0))] [] σ) (kx311 : ∀ (v : Unit) (σ : Hp), KL (Sum.inr (Sum.inr (Sum.inr (Sum.inr (Sum.inr (Sum.inr (Sum.inr v))))))) σ → WW l γ 3 5 ad shM 311 [] [] σ) : WW l γ 3 5 ad shM 308 [(0, .ref (ad x0))] [] σ := by
  unfold f_X7_reads_b308 at h
  refine r_goto hc (tgt := 82) dX7_reads_308 (by decide) ?_
  have h := wp_v h
  exact kn () _ h
noncomputable def f_X7_reads_b260 (x0 : Nat) (x2 : Int32) (x3 : Int32) (x4 : Int32) (σ : Hp) : Option (((Unit) ⊕ ((Unit) ⊕ ((Unit) ⊕ ((Unit) ⊕ ((Unit) ⊕ ((Unit) ⊕ ((Unit) ⊕ (Unit)))))))) × Hp) := gO (getI shM 7 x0 7 σ) fun v1 => gO (putI shM 7 x0 7 (v1 + 1) σ) fun σ2 => gO (chk shM x0 7) fun _ => bO (f_X7_sets x0 7 (x2 - 48) (x4 - 48) 1 σ2) fun _ σ4 => if x3 = 45 then (gO (chk shM x0 7) fun _ => bO (f_X7_sets x0 7 (x4 - 48) (x2 - 48) 1 σ4) fun _ σ7 => f_X7_reads_b308 x0 σ7) else (f_X7_reads_b308 x0 σ4)
set_option maxRecDepth 100000 in
set_option maxHeartbeats 4000000 in
theorem t_X7_reads_b260 {l : Launch} {γ : Gm} {ad : Nat → Nat} {K : Option Value → Hp → Prop} (hc : Cx l γ 3 5 ad shM RX7 cX7_reads (some .int) K) {x0 : Nat} {x2 : Int32} {x3 : Int32} {x4 : Int32}  {σ : Hp} {KL : ((Unit) ⊕ ((Unit) ⊕ ((Unit) ⊕ ((Unit) ⊕ ((Unit) ⊕ ((Unit) ⊕ ((Unit) ⊕ (Unit)))))))) → Hp → Prop} (h : wpO (f_X7_reads_b260 x0 x2 x3 x4 σ) KL) (kn : ∀ (v : (Unit)) (σ : Hp), KL (Sum.inl v) σ → WW l γ 3 5 ad shM 82 [(0, .ref (ad x0))] [] σ) (kx102 : ∀ (v : Unit) (σ : Hp), KL (Sum.inr (Sum.inl v)) σ → WW l γ 3 5 ad shM 102 [(0, .ref (ad x0))] [] σ) (kx122 : ∀ (v : Unit) (σ : Hp), KL (Sum.inr (Sum.inr (Sum.inl v))) σ → WW l γ 3 5 ad shM 122 [(0, .ref (ad x0))] [] σ) (kx155 : ∀ (v : Unit) (σ : Hp), KL (Sum.inr (Sum.inr (Sum.inr (Sum.inl v)))) σ → WW l γ 3 5 ad shM 155 [(0, .ref (ad x0))] [] σ) (kx185 : ∀ (v : Unit) (σ : Hp), KL (Sum.inr (Sum.inr (Sum.inr (Sum.inr (Sum.inl v))))) σ → WW l γ 3 5 ad shM 185 [(0, .ref (ad x0))] [] σ) (kx206 : ∀ (v : Unit) (σ : Hp), KL (Sum.inr (Sum.inr (Sum.inr (Sum.inr (Sum.inr (Sum.inl v)))))) σ → WW l γ 3 5 ad shM 206 [(0, .ref (ad x0))] [] σ) (kx254 : ∀ (v : Unit) (σ : Hp), KL (Sum.inr (Sum.inr (Sum.inr (Sum.inr (Sum.inr (Sum.inr (Sum.inl v))))))) σ → WW l γ 3 5 ad shM 254 [(0, .ref (ad x0))] [] σ) (kx311 : ∀ (v : Unit) (σ : Hp), KL (Sum.inr (Sum.inr (Sum.inr (Sum.inr (Sum.inr (Sum.inr (Sum.inr v))))))) σ → WW l γ 3 5 ad shM 311 [] [] σ) : WW l γ 3 5 ad shM 260 [(0, .ref (ad x0)), (2, .int x2), (3, .int x3), (4, .int x4)] [] σ := by
  unfold f_X7_reads_b260 at h
  refine r_aload_n hc 0 rfl rfl dX7_reads_260 ?_
  refine r_aload_n hc 0 rfl rfl dX7_reads_261 ?_
  obtain ⟨v1, ev1, h⟩ := wp_g h
  refine r_getI hc ev1 fl_X7_105 rfl dX7_reads_262 ?_
  refine r_iconst hc (v := 1) (by decide) dX7_reads_265 ?_
  refine r_iadd hc dX7_reads_266 ?_
  obtain ⟨σ2, eσ2, h⟩ := wp_g h
  refine r_putI hc eσ2 fp_X7_105 rfl dX7_reads_267 ?_
  refine r_aload_n hc 0 rfl rfl dX7_reads_270 ?_
  refine r_bipush hc (v := 7) (by decide) dX7_reads_271 ?_
  refine r_iload_n hc 1 rfl rfl dX7_reads_273 ?_
  refine r_bipush hc (v := 48) (by decide) dX7_reads_274 ?_
  refine r_isub hc dX7_reads_276 ?_
  refine r_iload hc 3 rfl dX7_reads_277 ?_
  refine r_bipush hc (v := 48) (by decide) dX7_reads_279 ?_
  refine r_isub hc dX7_reads_281 ?_
  refine r_iconst hc (v := 1) (by decide) dX7_reads_282 ?_
  obtain ⟨_, ek5, h⟩ := wp_g h
  obtain ⟨_, σ4, er3, h⟩ := wp_b h
  refine r_callV hc (k0 := x0) mv_X7_sets ml_X7_128 (c_X7_sets er3) (chk_of ek5) cls_7.1 rfl rfl rfl (by decide) rfl (Nat.le_of_ble_eq_true rfl) dX7_reads_283 ?_
  refine r_iload_n hc 2 rfl rfl dX7_reads_286 ?_
  refine r_bipush hc (v := 45) (by decide) dX7_reads_287 ?_
  refine r_icmp_ne hc (tgt := 308) dX7_reads_289 (by decide) (fun c => ?_) (fun c => ?_)
  · have h := wp_f c h
    refine r_sub [0] (lv' := [(0, .ref (ad x0))]) rfl ?_
    exact t_X7_reads_b308 hc h kn kx102 kx122 kx155 kx185 kx206 kx254 kx311
  · have h := wp_t c h
    refine r_aload_n hc 0 rfl rfl dX7_reads_292 ?_
    refine r_bipush hc (v := 7) (by decide) dX7_reads_293 ?_
    refine r_iload hc 3 rfl dX7_reads_295 ?_
    refine r_bipush hc (v := 48) (by decide) dX7_reads_297 ?_
    refine r_isub hc dX7_reads_299 ?_
    refine r_iload_n hc 1 rfl rfl dX7_reads_300 ?_
    refine r_bipush hc (v := 48) (by decide) dX7_reads_301 ?_
    refine r_isub hc dX7_reads_303 ?_
    refine r_iconst hc (v := 1) (by decide) dX7_reads_304 ?_
    obtain ⟨_, ek8, h⟩ := wp_g h
    obtain ⟨_, σ7, er6, h⟩ := wp_b h
    refine r_callV hc (k0 := x0) mv_X7_sets ml_X7_128 (c_X7_sets er6) (chk_of ek8) cls_7.1 rfl rfl rfl (by decide) rfl (Nat.le_of_ble_eq_true rfl) dX7_reads_305 ?_
    refine r_sub [0] (lv' := [(0, .ref (ad x0))]) rfl ?_
    exact t_X7_reads_b308 hc h kn kx102 kx122 kx155 kx185 kx206 kx254 kx311
noncomputable def f_X7_reads_b161 (x0 : Nat) (x2 : Int32) (x3 : Int32) (σ : Hp) : Option (((Unit) ⊕ ((Unit) ⊕ ((Unit) ⊕ ((Unit) ⊕ ((Unit) ⊕ ((Unit) ⊕ ((Unit) ⊕ (Unit)))))))) × Hp) := gO (getI shM 7 x0 7 σ) fun v1 => gO (putI shM 7 x0 7 (v1 + 1) σ) fun σ2 => gO (chk shM x0 7) fun _ => bO (f_X7_see x0 σ2) fun r3 σ4 => bO (f_X7_isDigit r3 σ4) fun r6 σ7 => if r6 = 0 then (some (Sum.inr (Sum.inr (Sum.inr (Sum.inr (Sum.inl ())))), σ7)) else (gO (getR shM 7 x0 0 σ7) fun v8 => gO (aldI shM 0 v8 7 σ7) fun v9 => if (r3 - 48) < v9 then (gO (chk shM x0 7) fun _ => bO (f_X7_isLine x0 7 (x2 - 48) (r3 - 48) σ7) fun r10 σ11 => if r10 = 0 then (f_X7_reads_b260 x0 x2 x3 r3 σ11) else (if x3 = 62 then (some (Sum.inr (Sum.inr (Sum.inr (Sum.inr (Sum.inr (Sum.inr (Sum.inl ())))))), σ11)) else (gO (chk shM x0 7) fun _ => bO (f_X7_isLine x0 7 (r3 - 48) (x2 - 48) σ11) fun r13 σ14 => if r13 = 0 then (f_X7_reads_b260 x0 x2 x3 r3 σ14) else (some (Sum.inr (Sum.inr (Sum.inr (Sum.inr (Sum.inr (Sum.inr (Sum.inl ())))))), σ14))))) else (some (Sum.inr (Sum.inr (Sum.inr (Sum.inr (Sum.inr (Sum.inl ()))))), σ7)))
set_option maxRecDepth 100000 in
set_option maxHeartbeats 4000000 in
theorem t_X7_reads_b161 {l : Launch} {γ : Gm} {ad : Nat → Nat} {K : Option Value → Hp → Prop} (hc : Cx l γ 3 5 ad shM RX7 cX7_reads (some .int) K) {x0 : Nat} {x2 : Int32} {x3 : Int32}  {σ : Hp} {KL : ((Unit) ⊕ ((Unit) ⊕ ((Unit) ⊕ ((Unit) ⊕ ((Unit) ⊕ ((Unit) ⊕ ((Unit) ⊕ (Unit)))))))) → Hp → Prop} (h : wpO (f_X7_reads_b161 x0 x2 x3 σ) KL) (kn : ∀ (v : (Unit)) (σ : Hp), KL (Sum.inl v) σ → WW l γ 3 5 ad shM 82 [(0, .ref (ad x0))] [] σ) (kx102 : ∀ (v : Unit) (σ : Hp), KL (Sum.inr (Sum.inl v)) σ → WW l γ 3 5 ad shM 102 [(0, .ref (ad x0))] [] σ) (kx122 : ∀ (v : Unit) (σ : Hp), KL (Sum.inr (Sum.inr (Sum.inl v))) σ → WW l γ 3 5 ad shM 122 [(0, .ref (ad x0))] [] σ) (kx155 : ∀ (v : Unit) (σ : Hp), KL (Sum.inr (Sum.inr (Sum.inr (Sum.inl v)))) σ → WW l γ 3 5 ad shM 155 [(0, .ref (ad x0))] [] σ) (kx185 : ∀ (v : Unit) (σ : Hp), KL (Sum.inr (Sum.inr (Sum.inr (Sum.inr (Sum.inl v))))) σ → WW l γ 3 5 ad shM 185 [(0, .ref (ad x0))] [] σ) (kx206 : ∀ (v : Unit) (σ : Hp), KL (Sum.inr (Sum.inr (Sum.inr (Sum.inr (Sum.inr (Sum.inl v)))))) σ → WW l γ 3 5 ad shM 206 [(0, .ref (ad x0))] [] σ) (kx254 : ∀ (v : Unit) (σ : Hp), KL (Sum.inr (Sum.inr (Sum.inr (Sum.inr (Sum.inr (Sum.inr (Sum.inl v))))))) σ → WW l γ 3 5 ad shM 254 [(0, .ref (ad x0))] [] σ) (kx311 : ∀ (v : Unit) (σ : Hp), KL (Sum.inr (Sum.inr (Sum.inr (Sum.inr (Sum.inr (Sum.inr (Sum.inr v))))))) σ → WW l γ 3 5 ad shM 311 [] [] σ) : WW l γ 3 5 ad shM 161 [(0, .ref (ad x0)), (2, .int x2), (3, .int x3)] [] σ := by
  unfold f_X7_reads_b161 at h
  refine r_aload_n hc 0 rfl rfl dX7_reads_161 ?_
  refine r_aload_n hc 0 rfl rfl dX7_reads_162 ?_
  obtain ⟨v1, ev1, h⟩ := wp_g h
  refine r_getI hc ev1 fl_X7_105 rfl dX7_reads_163 ?_
  refine r_iconst hc (v := 1) (by decide) dX7_reads_166 ?_
  refine r_iadd hc dX7_reads_167 ?_
  obtain ⟨σ2, eσ2, h⟩ := wp_g h
  refine r_putI hc eσ2 fp_X7_105 rfl dX7_reads_168 ?_
  refine r_aload_n hc 0 rfl rfl dX7_reads_171 ?_
  obtain ⟨_, ek5, h⟩ := wp_g h
  obtain ⟨r3, σ4, er3, h⟩ := wp_b h
  refine r_callV hc (k0 := x0) mv_X7_see ml_X7_111 (c_X7_see er3) (chk_of ek5) cls_7.1 rfl rfl rfl (by decide) rfl (Nat.le_of_ble_eq_true rfl) dX7_reads_172 ?_
  refine r_istoreE hc (i := 4) (lv' := [(4, .int r3), (0, .ref (ad x0)), (2, .int x2), (3, .int x3)]) rfl (by decide) rfl dX7_reads_175 ?_
  refine r_iload hc 0 rfl dX7_reads_177 ?_
  obtain ⟨r6, σ7, er6, h⟩ := wp_b h
  refine r_callS hc ms_X7_isDigit ml_X7_115 (c_X7_isDigit er6) rfl rfl (by decide) rfl (Nat.le_of_ble_eq_true rfl) dX7_reads_179 ?_
  refine r_if_ne hc (tgt := 191) dX7_reads_182 (by decide) (fun c => ?_) (fun c => ?_)
  · have h := wp_f c h
    refine r_iload hc 0 rfl dX7_reads_191 ?_
    refine r_bipush hc (v := 48) (by decide) dX7_reads_193 ?_
    refine r_isub hc dX7_reads_195 ?_
    refine r_aload_n hc 1 rfl rfl dX7_reads_196 ?_
    obtain ⟨v8, ev8, h⟩ := wp_g h
    refine r_getR hc ev8 fl_X7_7 rfl dX7_reads_197 ?_
    refine r_bipush hc (v := 7) (by decide) dX7_reads_200 ?_
    obtain ⟨v9, ev9, h⟩ := wp_g h
    refine r_iald hc ev9 dX7_reads_202 ?_
    refine r_icmp_lt hc (tgt := 212) dX7_reads_203 (by decide) (fun c => ?_) (fun c => ?_)
    · have h := wp_t c h
      refine r_aload_n hc 1 rfl rfl dX7_reads_212 ?_
      refine r_bipush hc (v := 7) (by decide) dX7_reads_213 ?_
      refine r_iload_n hc 2 rfl rfl dX7_reads_215 ?_
      refine r_bipush hc (v := 48) (by decide) dX7_reads_216 ?_
      refine r_isub hc dX7_reads_218 ?_
      refine r_iload hc 0 rfl dX7_reads_219 ?_
      refine r_bipush hc (v := 48) (by decide) dX7_reads_221 ?_
      refine r_isub hc dX7_reads_223 ?_
      obtain ⟨_, ek12, h⟩ := wp_g h
      obtain ⟨r10, σ11, er10, h⟩ := wp_b h
      refine r_callV hc (k0 := x0) mv_X7_isLine ml_X7_125 (c_X7_isLine er10) (chk_of ek12) cls_7.1 rfl rfl rfl (by decide) rfl (Nat.le_of_ble_eq_true rfl) dX7_reads_224 ?_
      refine r_if_eq hc (tgt := 260) dX7_reads_227 (by decide) (fun c => ?_) (fun c => ?_)
      · have h := wp_t c h
        refine r_sub [1, 2, 3, 0] (lv' := [(0, .ref (ad x0)), (2, .int x2), (3, .int x3), (4, .int r3)]) rfl ?_
        exact t_X7_reads_b260 hc h kn kx102 kx122 kx155 kx185 kx206 kx254 kx311
      · have h := wp_f c h
        refine r_iload_n hc 3 rfl rfl dX7_reads_230 ?_
        refine r_bipush hc (v := 62) (by decide) dX7_reads_231 ?_
        refine r_icmp_eq hc (tgt := 254) dX7_reads_233 (by decide) (fun c => ?_) (fun c => ?_)
        · have h := wp_t c h
          refine r_sub [1] (lv' := [(0, .ref (ad x0))]) rfl ?_
          have h := wp_v h
          exact kx254 () _ h
        · have h := wp_f c h
          refine r_aload_n hc 1 rfl rfl dX7_reads_236 ?_
          refine r_bipush hc (v := 7) (by decide) dX7_reads_237 ?_
          refine r_iload hc 0 rfl dX7_reads_239 ?_
          refine r_bipush hc (v := 48) (by decide) dX7_reads_241 ?_
          refine r_isub hc dX7_reads_243 ?_
          refine r_iload_n hc 2 rfl rfl dX7_reads_244 ?_
          refine r_bipush hc (v := 48) (by decide) dX7_reads_245 ?_
          refine r_isub hc dX7_reads_247 ?_
          obtain ⟨_, ek15, h⟩ := wp_g h
          obtain ⟨r13, σ14, er13, h⟩ := wp_b h
          refine r_callV hc (k0 := x0) mv_X7_isLine ml_X7_125 (c_X7_isLine er13) (chk_of ek15) cls_7.1 rfl rfl rfl (by decide) rfl (Nat.le_of_ble_eq_true rfl) dX7_reads_248 ?_
          refine r_if_eq hc (tgt := 260) dX7_reads_251 (by decide) (fun c => ?_) (fun c => ?_)
          · have h := wp_t c h
            refine r_sub [1, 2, 3, 0] (lv' := [(0, .ref (ad x0)), (2, .int x2), (3, .int x3), (4, .int r3)]) rfl ?_
            exact t_X7_reads_b260 hc h kn kx102 kx122 kx155 kx185 kx206 kx254 kx311
          · have h := wp_f c h
            refine r_sub [1] (lv' := [(0, .ref (ad x0))]) rfl ?_
            have h := wp_v h
            exact kx254 () _ h
    · have h := wp_f c h
      refine r_sub [1] (lv' := [(0, .ref (ad x0))]) rfl ?_
      have h := wp_v h
      exact kx206 () _ h
  · have h := wp_t c h
    refine r_sub [1] (lv' := [(0, .ref (ad x0))]) rfl ?_
    have h := wp_v h
    exact kx185 () _ h
noncomputable def f_X7_reads_L82 (x0 : Nat) (v : (Unit)) (σ : Hp) : Option (((Unit) ⊕ ((Unit) ⊕ ((Unit) ⊕ ((Unit) ⊕ ((Unit) ⊕ ((Unit) ⊕ ((Unit) ⊕ (Unit)))))))) × Hp) := gO (chk shM x0 7) fun _ => bO (f_X7_see x0 σ) fun r1 σ2 => if r1 = (-1) then (some (Sum.inr (Sum.inr (Sum.inr (Sum.inr (Sum.inr (Sum.inr (Sum.inr ())))))), σ2)) else (gO (chk shM x0 7) fun _ => bO (f_X7_see x0 σ2) fun r4 σ5 => bO (f_X7_isDigit r4 σ5) fun r7 σ8 => if r7 = 0 then (some (Sum.inr (Sum.inl ()), σ8)) else (gO (getR shM 7 x0 0 σ8) fun v9 => gO (aldI shM 0 v9 7 σ8) fun v10 => if (r4 - 48) < v10 then (gO (getI shM 7 x0 7 σ8) fun v11 => gO (putI shM 7 x0 7 (v11 + 1) σ8) fun σ12 => gO (chk shM x0 7) fun _ => bO (f_X7_see x0 σ12) fun r13 σ14 => if r13 = 45 then (f_X7_reads_b161 x0 r4 r13 σ14) else (if r13 = 62 then (f_X7_reads_b161 x0 r4 r13 σ14) else (some (Sum.inr (Sum.inr (Sum.inr (Sum.inl ()))), σ14)))) else (some (Sum.inr (Sum.inr (Sum.inl ())), σ8))))
set_option maxRecDepth 100000 in
set_option maxHeartbeats 4000000 in
theorem t_X7_reads_L82 {l : Launch} {γ : Gm} {ad : Nat → Nat} {K : Option Value → Hp → Prop}  (hc : Cx l γ 3 5 ad shM RX7 cX7_reads (some .int) K) {x0 : Nat} {v : (Unit)} {σ : Hp} {KX : ((Unit) ⊕ ((Unit) ⊕ ((Unit) ⊕ ((Unit) ⊕ ((Unit) ⊕ ((Unit) ⊕ (Unit))))))) → Hp → Prop} (h : wpO (wh (f_X7_reads_L82 x0) v σ) KX) (kx102 : ∀ (v : Unit) (σ : Hp), KX (Sum.inl v) σ → WW l γ 3 5 ad shM 102 [(0, .ref (ad x0))] [] σ) (kx122 : ∀ (v : Unit) (σ : Hp), KX (Sum.inr (Sum.inl v)) σ → WW l γ 3 5 ad shM 122 [(0, .ref (ad x0))] [] σ) (kx155 : ∀ (v : Unit) (σ : Hp), KX (Sum.inr (Sum.inr (Sum.inl v))) σ → WW l γ 3 5 ad shM 155 [(0, .ref (ad x0))] [] σ) (kx185 : ∀ (v : Unit) (σ : Hp), KX (Sum.inr (Sum.inr (Sum.inr (Sum.inl v)))) σ → WW l γ 3 5 ad shM 185 [(0, .ref (ad x0))] [] σ) (kx206 : ∀ (v : Unit) (σ : Hp), KX (Sum.inr (Sum.inr (Sum.inr (Sum.inr (Sum.inl v))))) σ → WW l γ 3 5 ad shM 206 [(0, .ref (ad x0))] [] σ) (kx254 : ∀ (v : Unit) (σ : Hp), KX (Sum.inr (Sum.inr (Sum.inr (Sum.inr (Sum.inr (Sum.inl v)))))) σ → WW l γ 3 5 ad shM 254 [(0, .ref (ad x0))] [] σ) (kx311 : ∀ (v : Unit) (σ : Hp), KX (Sum.inr (Sum.inr (Sum.inr (Sum.inr (Sum.inr (Sum.inr v)))))) σ → WW l γ 3 5 ad shM 311 [] [] σ) : WW l γ 3 5 ad shM 82 [(0, .ref (ad x0))] [] σ := by
  refine wh_W (P := fun v σ => WW l γ 3 5 ad shM 82 [(0, .ref (ad x0))] [] σ) (fun v σ h => ?_) h
  have kn : ∀ (v : (Unit)) (σ : Hp), WW l γ 3 5 ad shM 82 [(0, .ref (ad x0))] [] σ → WW l γ 3 5 ad shM 82 [(0, .ref (ad x0))] [] σ := fun _ _ h => h
  · unfold f_X7_reads_L82 at h
    refine r_aload_n hc 0 rfl rfl dX7_reads_82 ?_
    obtain ⟨_, ek3, h⟩ := wp_g h
    obtain ⟨r1, σ2, er1, h⟩ := wp_b h
    refine r_callV hc (k0 := x0) mv_X7_see ml_X7_111 (c_X7_see er1) (chk_of ek3) cls_7.1 rfl rfl rfl (by decide) rfl (Nat.le_of_ble_eq_true rfl) dX7_reads_83 ?_
    refine r_iconst hc (v := (-1)) (by decide) dX7_reads_86 ?_
    refine r_icmp_eq hc (tgt := 311) dX7_reads_87 (by decide) (fun c => ?_) (fun c => ?_)
    · have h := wp_t c h
      refine r_sub [] (lv' := []) rfl ?_
      have h := wp_v h
      exact kx311 () _ h
    · have h := wp_f c h
      refine r_aload_n hc 0 rfl rfl dX7_reads_90 ?_
      obtain ⟨_, ek6, h⟩ := wp_g h
      obtain ⟨r4, σ5, er4, h⟩ := wp_b h
      refine r_callV hc (k0 := x0) mv_X7_see ml_X7_111 (c_X7_see er4) (chk_of ek6) cls_7.1 rfl rfl rfl (by decide) rfl (Nat.le_of_ble_eq_true rfl) dX7_reads_91 ?_
      refine r_istore_nE hc (i := 2) (lv' := [(2, .int r4), (0, .ref (ad x0))]) rfl rfl (by decide) rfl dX7_reads_94 ?_
      refine r_iload_n hc 0 rfl rfl dX7_reads_95 ?_
      obtain ⟨r7, σ8, er7, h⟩ := wp_b h
      refine r_callS hc ms_X7_isDigit ml_X7_115 (c_X7_isDigit er7) rfl rfl (by decide) rfl (Nat.le_of_ble_eq_true rfl) dX7_reads_96 ?_
      refine r_if_ne hc (tgt := 108) dX7_reads_99 (by decide) (fun c => ?_) (fun c => ?_)
      · have h := wp_f c h
        refine r_iload_n hc 0 rfl rfl dX7_reads_108 ?_
        refine r_bipush hc (v := 48) (by decide) dX7_reads_109 ?_
        refine r_isub hc dX7_reads_111 ?_
        refine r_aload_n hc 1 rfl rfl dX7_reads_112 ?_
        obtain ⟨v9, ev9, h⟩ := wp_g h
        refine r_getR hc ev9 fl_X7_7 rfl dX7_reads_113 ?_
        refine r_bipush hc (v := 7) (by decide) dX7_reads_116 ?_
        obtain ⟨v10, ev10, h⟩ := wp_g h
        refine r_iald hc ev10 dX7_reads_118 ?_
        refine r_icmp_lt hc (tgt := 128) dX7_reads_119 (by decide) (fun c => ?_) (fun c => ?_)
        · have h := wp_t c h
          refine r_aload_n hc 1 rfl rfl dX7_reads_128 ?_
          refine r_aload_n hc 1 rfl rfl dX7_reads_129 ?_
          obtain ⟨v11, ev11, h⟩ := wp_g h
          refine r_getI hc ev11 fl_X7_105 rfl dX7_reads_130 ?_
          refine r_iconst hc (v := 1) (by decide) dX7_reads_133 ?_
          refine r_iadd hc dX7_reads_134 ?_
          obtain ⟨σ12, eσ12, h⟩ := wp_g h
          refine r_putI hc eσ12 fp_X7_105 rfl dX7_reads_135 ?_
          refine r_aload_n hc 1 rfl rfl dX7_reads_138 ?_
          obtain ⟨_, ek15, h⟩ := wp_g h
          obtain ⟨r13, σ14, er13, h⟩ := wp_b h
          refine r_callV hc (k0 := x0) mv_X7_see ml_X7_111 (c_X7_see er13) (chk_of ek15) cls_7.1 rfl rfl rfl (by decide) rfl (Nat.le_of_ble_eq_true rfl) dX7_reads_139 ?_
          refine r_istore_nE hc (i := 3) (lv' := [(3, .int r13), (2, .int r4), (0, .ref (ad x0))]) rfl rfl (by decide) rfl dX7_reads_142 ?_
          refine r_iload_n hc 0 rfl rfl dX7_reads_143 ?_
          refine r_bipush hc (v := 45) (by decide) dX7_reads_144 ?_
          refine r_icmp_eq hc (tgt := 161) dX7_reads_146 (by decide) (fun c => ?_) (fun c => ?_)
          · have h := wp_t c h
            refine r_sub [2, 1, 0] (lv' := [(0, .ref (ad x0)), (2, .int r4), (3, .int r13)]) rfl ?_
            exact t_X7_reads_b161 hc h kn kx102 kx122 kx155 kx185 kx206 kx254 kx311
          · have h := wp_f c h
            refine r_iload_n hc 0 rfl rfl dX7_reads_149 ?_
            refine r_bipush hc (v := 62) (by decide) dX7_reads_150 ?_
            refine r_icmp_eq hc (tgt := 161) dX7_reads_152 (by decide) (fun c => ?_) (fun c => ?_)
            · have h := wp_t c h
              refine r_sub [2, 1, 0] (lv' := [(0, .ref (ad x0)), (2, .int r4), (3, .int r13)]) rfl ?_
              exact t_X7_reads_b161 hc h kn kx102 kx122 kx155 kx185 kx206 kx254 kx311
            · have h := wp_f c h
              refine r_sub [2] (lv' := [(0, .ref (ad x0))]) rfl ?_
              have h := wp_v h
              exact kx155 () _ h
        · have h := wp_f c h
          refine r_sub [1] (lv' := [(0, .ref (ad x0))]) rfl ?_
          have h := wp_v h
          exact kx122 () _ h
      · have h := wp_t c h
        refine r_sub [1] (lv' := [(0, .ref (ad x0))]) rfl ?_
        have h := wp_v h
        exact kx102 () _ h
noncomputable def f_X7_reads_b254 (x0 : Nat) (σ : Hp) : Option (Int32 × Hp) := gO (chk shM x0 7) fun _ => bO (f_X7_wrong x0 3 σ) fun r1 σ2 => some (r1, σ2)
set_option maxRecDepth 100000 in
set_option maxHeartbeats 4000000 in
theorem t_X7_reads_b254 {l : Launch} {γ : Gm} {ad : Nat → Nat} {K : Option Value → Hp → Prop} (hc : Cx l γ 3 5 ad shM RX7 cX7_reads (some .int) K) {x0 : Nat} {σ : Hp} (h : wpO (f_X7_reads_b254 x0 σ) (KI K)) : WW l γ 3 5 ad shM 254 [(0, .ref (ad x0))] [] σ := by
  unfold f_X7_reads_b254 at h
  refine r_aload_n hc 0 rfl rfl dX7_reads_254 ?_
  refine r_iconst hc (v := 3) (by decide) dX7_reads_255 ?_
  obtain ⟨_, ek3, h⟩ := wp_g h
  obtain ⟨r1, σ2, er1, h⟩ := wp_b h
  refine r_callV hc (k0 := x0) mv_X7_wrong ml_X7_118 (c_X7_wrong er1) (chk_of ek3) cls_7.1 rfl rfl rfl (by decide) rfl (Nat.le_of_ble_eq_true rfl) dX7_reads_256 ?_
  have h := wp_v h
  exact r_iret hc h dX7_reads_259
noncomputable def f_X7_reads (x0 : Nat) (σ : Hp) : Option (Int32 × Hp) := gO (chk shM x0 7) fun _ => bO (f_X7_see x0 σ) fun r1 σ2 => bO (f_X7_isDigit r1 σ2) fun r4 σ5 => if r4 = 0 then (gO (chk shM x0 7) fun _ => bO (f_X7_wrong x0 1 σ5) fun r47 σ48 => some (r47, σ48)) else (bO (f_X7_in (r1 - 48) 1 7 σ5) fun r6 σ7 => if r6 = 0 then (gO (chk shM x0 7) fun _ => bO (f_X7_wrong x0 2 σ7) fun r44 σ45 => some (r44, σ45)) else (gO (chk shM x0 7) fun _ => bO (f_X7_begins x0 7 (r1 - 48) σ7) fun _ σ9 => gO (getI shM 7 x0 7 σ9) fun v11 => gO (putI shM 7 x0 7 (v11 + 1) σ9) fun σ12 => gO (chk shM x0 7) fun _ => bO (f_X7_see x0 σ12) fun r13 σ14 => if r13 = 58 then (gO (getI shM 7 x0 7 σ14) fun v16 => gO (putI shM 7 x0 7 (v16 + 1) σ14) fun σ17 => bO (wh (f_X7_reads_L82 x0) () σ17) fun y18 σ19 => (Sum.elim (fun y18' => (gO (chk shM x0 7) fun _ => bO (f_X7_wrong x0 1 σ19) fun r21 σ22 => some (r21, σ22))) (fun y20 => (Sum.elim (fun y20' => (gO (chk shM x0 7) fun _ => bO (f_X7_wrong x0 2 σ19) fun r25 σ26 => some (r25, σ26))) (fun y24 => (Sum.elim (fun y24' => (gO (chk shM x0 7) fun _ => bO (f_X7_wrong x0 1 σ19) fun r29 σ30 => some (r29, σ30))) (fun y28 => (Sum.elim (fun y28' => (gO (chk shM x0 7) fun _ => bO (f_X7_wrong x0 1 σ19) fun r33 σ34 => some (r33, σ34))) (fun y32 => (Sum.elim (fun y32' => (gO (chk shM x0 7) fun _ => bO (f_X7_wrong x0 2 σ19) fun r37 σ38 => some (r37, σ38))) (fun y36 => (Sum.elim (fun y36' => (f_X7_reads_b254 x0 σ19)) (fun y40 => (some (0, σ19))) y36)) y32)) y28)) y24)) y20)) y18)) else (gO (chk shM x0 7) fun _ => bO (f_X7_wrong x0 1 σ14) fun r41 σ42 => some (r41, σ42))))
set_option maxRecDepth 100000 in
set_option maxHeartbeats 4000000 in
theorem t_X7_reads {l : Launch} {γ : Gm} {ad : Nat → Nat} {K : Option Value → Hp → Prop} (hc : Cx l γ 3 5 ad shM RX7 cX7_reads (some .int) K) {x0 : Nat} {σ : Hp} (h : wpO (f_X7_reads x0 σ) (KI K)) : WW l γ 3 5 ad shM 0 [(0, .ref (ad x0))] [] σ := by
  unfold f_X7_reads at h
  refine r_aload_n hc 0 rfl rfl dX7_reads_0 ?_
  obtain ⟨_, ek3, h⟩ := wp_g h
  obtain ⟨r1, σ2, er1, h⟩ := wp_b h
  refine r_callV hc (k0 := x0) mv_X7_see ml_X7_111 (c_X7_see er1) (chk_of ek3) cls_7.1 rfl rfl rfl (by decide) rfl (Nat.le_of_ble_eq_true rfl) dX7_reads_1 ?_
  refine r_istore_nE hc (i := 1) (lv' := [(1, .int r1), (0, .ref (ad x0))]) rfl rfl (by decide) rfl dX7_reads_4 ?_
  refine r_iload_n hc 0 rfl rfl dX7_reads_5 ?_
  obtain ⟨r4, σ5, er4, h⟩ := wp_b h
  refine r_callS hc ms_X7_isDigit ml_X7_115 (c_X7_isDigit er4) rfl rfl (by decide) rfl (Nat.le_of_ble_eq_true rfl) dX7_reads_6 ?_
  refine r_if_ne hc (tgt := 18) dX7_reads_9 (by decide) (fun c => ?_) (fun c => ?_)
  · have h := wp_f c h
    refine r_iload_n hc 0 rfl rfl dX7_reads_18 ?_
    refine r_bipush hc (v := 48) (by decide) dX7_reads_19 ?_
    refine r_isub hc dX7_reads_21 ?_
    refine r_iconst hc (v := 1) (by decide) dX7_reads_22 ?_
    refine r_bipush hc (v := 7) (by decide) dX7_reads_23 ?_
    obtain ⟨r6, σ7, er6, h⟩ := wp_b h
    refine r_callS hc ms_X7_in ml_X7_81 (c_X7_in er6) rfl rfl (by decide) rfl (Nat.le_of_ble_eq_true rfl) dX7_reads_25 ?_
    refine r_if_ne hc (tgt := 37) dX7_reads_28 (by decide) (fun c => ?_) (fun c => ?_)
    · have h := wp_f c h
      refine r_aload_n hc 1 rfl rfl dX7_reads_37 ?_
      refine r_bipush hc (v := 7) (by decide) dX7_reads_38 ?_
      refine r_iload_n hc 0 rfl rfl dX7_reads_40 ?_
      refine r_bipush hc (v := 48) (by decide) dX7_reads_41 ?_
      refine r_isub hc dX7_reads_43 ?_
      obtain ⟨_, ek10, h⟩ := wp_g h
      obtain ⟨_, σ9, er8, h⟩ := wp_b h
      refine r_callV hc (k0 := x0) mv_X7_begins ml_X7_121 (c_X7_begins er8) (chk_of ek10) cls_7.1 rfl rfl rfl (by decide) rfl (Nat.le_of_ble_eq_true rfl) dX7_reads_44 ?_
      refine r_aload_n hc 1 rfl rfl dX7_reads_47 ?_
      refine r_aload_n hc 1 rfl rfl dX7_reads_48 ?_
      obtain ⟨v11, ev11, h⟩ := wp_g h
      refine r_getI hc ev11 fl_X7_105 rfl dX7_reads_49 ?_
      refine r_iconst hc (v := 1) (by decide) dX7_reads_52 ?_
      refine r_iadd hc dX7_reads_53 ?_
      obtain ⟨σ12, eσ12, h⟩ := wp_g h
      refine r_putI hc eσ12 fp_X7_105 rfl dX7_reads_54 ?_
      refine r_aload_n hc 1 rfl rfl dX7_reads_57 ?_
      obtain ⟨_, ek15, h⟩ := wp_g h
      obtain ⟨r13, σ14, er13, h⟩ := wp_b h
      refine r_callV hc (k0 := x0) mv_X7_see ml_X7_111 (c_X7_see er13) (chk_of ek15) cls_7.1 rfl rfl rfl (by decide) rfl (Nat.le_of_ble_eq_true rfl) dX7_reads_58 ?_
      refine r_bipush hc (v := 58) (by decide) dX7_reads_61 ?_
      refine r_icmp_eq hc (tgt := 72) dX7_reads_63 (by decide) (fun c => ?_) (fun c => ?_)
      · have h := wp_t c h
        refine r_aload_n hc 1 rfl rfl dX7_reads_72 ?_
        refine r_aload_n hc 1 rfl rfl dX7_reads_73 ?_
        obtain ⟨v16, ev16, h⟩ := wp_g h
        refine r_getI hc ev16 fl_X7_105 rfl dX7_reads_74 ?_
        refine r_iconst hc (v := 1) (by decide) dX7_reads_77 ?_
        refine r_iadd hc dX7_reads_78 ?_
        obtain ⟨σ17, eσ17, h⟩ := wp_g h
        refine r_putI hc eσ17 fp_X7_105 rfl dX7_reads_79 ?_
        refine r_sub [1] (lv' := [(0, .ref (ad x0))]) rfl ?_
        refine t_X7_reads_L82 hc (wp_bb h) ?_ ?_ ?_ ?_ ?_ ?_ ?_
        · intro y18' σ19 h
          have h := wp_sl h
          refine r_aload_n hc 0 rfl rfl dX7_reads_102 ?_
          refine r_iconst hc (v := 1) (by decide) dX7_reads_103 ?_
          obtain ⟨_, ek23, h⟩ := wp_g h
          obtain ⟨r21, σ22, er21, h⟩ := wp_b h
          refine r_callV hc (k0 := x0) mv_X7_wrong ml_X7_118 (c_X7_wrong er21) (chk_of ek23) cls_7.1 rfl rfl rfl (by decide) rfl (Nat.le_of_ble_eq_true rfl) dX7_reads_104 ?_
          have h := wp_v h
          exact r_iret hc h dX7_reads_107
        · intro y20' σ19 h
          have h := wp_sr h
          have h := wp_sl h
          refine r_aload_n hc 0 rfl rfl dX7_reads_122 ?_
          refine r_iconst hc (v := 2) (by decide) dX7_reads_123 ?_
          obtain ⟨_, ek27, h⟩ := wp_g h
          obtain ⟨r25, σ26, er25, h⟩ := wp_b h
          refine r_callV hc (k0 := x0) mv_X7_wrong ml_X7_118 (c_X7_wrong er25) (chk_of ek27) cls_7.1 rfl rfl rfl (by decide) rfl (Nat.le_of_ble_eq_true rfl) dX7_reads_124 ?_
          have h := wp_v h
          exact r_iret hc h dX7_reads_127
        · intro y24' σ19 h
          have h := wp_sr h
          have h := wp_sr h
          have h := wp_sl h
          refine r_aload_n hc 0 rfl rfl dX7_reads_155 ?_
          refine r_iconst hc (v := 1) (by decide) dX7_reads_156 ?_
          obtain ⟨_, ek31, h⟩ := wp_g h
          obtain ⟨r29, σ30, er29, h⟩ := wp_b h
          refine r_callV hc (k0 := x0) mv_X7_wrong ml_X7_118 (c_X7_wrong er29) (chk_of ek31) cls_7.1 rfl rfl rfl (by decide) rfl (Nat.le_of_ble_eq_true rfl) dX7_reads_157 ?_
          have h := wp_v h
          exact r_iret hc h dX7_reads_160
        · intro y28' σ19 h
          have h := wp_sr h
          have h := wp_sr h
          have h := wp_sr h
          have h := wp_sl h
          refine r_aload_n hc 0 rfl rfl dX7_reads_185 ?_
          refine r_iconst hc (v := 1) (by decide) dX7_reads_186 ?_
          obtain ⟨_, ek35, h⟩ := wp_g h
          obtain ⟨r33, σ34, er33, h⟩ := wp_b h
          refine r_callV hc (k0 := x0) mv_X7_wrong ml_X7_118 (c_X7_wrong er33) (chk_of ek35) cls_7.1 rfl rfl rfl (by decide) rfl (Nat.le_of_ble_eq_true rfl) dX7_reads_187 ?_
          have h := wp_v h
          exact r_iret hc h dX7_reads_190
        · intro y32' σ19 h
          have h := wp_sr h
          have h := wp_sr h
          have h := wp_sr h
          have h := wp_sr h
          have h := wp_sl h
          refine r_aload_n hc 0 rfl rfl dX7_reads_206 ?_
          refine r_iconst hc (v := 2) (by decide) dX7_reads_207 ?_
          obtain ⟨_, ek39, h⟩ := wp_g h
          obtain ⟨r37, σ38, er37, h⟩ := wp_b h
          refine r_callV hc (k0 := x0) mv_X7_wrong ml_X7_118 (c_X7_wrong er37) (chk_of ek39) cls_7.1 rfl rfl rfl (by decide) rfl (Nat.le_of_ble_eq_true rfl) dX7_reads_208 ?_
          have h := wp_v h
          exact r_iret hc h dX7_reads_211
        · intro y36' σ19 h
          have h := wp_sr h
          have h := wp_sr h
          have h := wp_sr h
          have h := wp_sr h
          have h := wp_sr h
          have h := wp_sl h
          exact t_X7_reads_b254 hc h
        · intro y40 σ19 h
          have h := wp_sr h
          have h := wp_sr h
          have h := wp_sr h
          have h := wp_sr h
          have h := wp_sr h
          have h := wp_sr h
          refine r_iconst hc (v := 0) (by decide) dX7_reads_311 ?_
          have h := wp_v h
          exact r_iret hc h dX7_reads_312
      · have h := wp_f c h
        refine r_aload_n hc 1 rfl rfl dX7_reads_66 ?_
        refine r_iconst hc (v := 1) (by decide) dX7_reads_67 ?_
        obtain ⟨_, ek43, h⟩ := wp_g h
        obtain ⟨r41, σ42, er41, h⟩ := wp_b h
        refine r_callV hc (k0 := x0) mv_X7_wrong ml_X7_118 (c_X7_wrong er41) (chk_of ek43) cls_7.1 rfl rfl rfl (by decide) rfl (Nat.le_of_ble_eq_true rfl) dX7_reads_68 ?_
        have h := wp_v h
        exact r_iret hc h dX7_reads_71
    · have h := wp_t c h
      refine r_aload_n hc 1 rfl rfl dX7_reads_31 ?_
      refine r_iconst hc (v := 2) (by decide) dX7_reads_32 ?_
      obtain ⟨_, ek46, h⟩ := wp_g h
      obtain ⟨r44, σ45, er44, h⟩ := wp_b h
      refine r_callV hc (k0 := x0) mv_X7_wrong ml_X7_118 (c_X7_wrong er44) (chk_of ek46) cls_7.1 rfl rfl rfl (by decide) rfl (Nat.le_of_ble_eq_true rfl) dX7_reads_33 ?_
      have h := wp_v h
      exact r_iret hc h dX7_reads_36
  · have h := wp_t c h
    refine r_aload_n hc 1 rfl rfl dX7_reads_12 ?_
    refine r_iconst hc (v := 1) (by decide) dX7_reads_13 ?_
    obtain ⟨_, ek49, h⟩ := wp_g h
    obtain ⟨r47, σ48, er47, h⟩ := wp_b h
    refine r_callV hc (k0 := x0) mv_X7_wrong ml_X7_118 (c_X7_wrong er47) (chk_of ek49) cls_7.1 rfl rfl rfl (by decide) rfl (Nat.le_of_ble_eq_true rfl) dX7_reads_14 ?_
    have h := wp_v h
    exact r_iret hc h dX7_reads_17
theorem c_X7_reads {l : Launch} {x0 : Nat} {σ σ' : Hp} {r : Int32} (h : f_X7_reads x0 σ = some (r, σ')) : Mt l yX7_reads cX7_reads 5 (some .int) 3 shM (fun ad => [.ref (ad x0)]) σ (fun ad => some (.int r)) σ' := mt_i (own := RX7) (by decide) rfl (fun _ => Nat.le_of_ble_eq_true rfl) (fun γ ad K hc hk => t_X7_reads hc ⟨_, _, h, hk⟩)

-- NetMapsModel.net(II)I
theorem dX7_net_0 : decode cX7_net 0 = .ok (.iload_n 1, 1) := by decide +kernel
theorem dX7_net_1 : decode cX7_net 1 = .ok (.invokestatic 132, 3) := by decide +kernel
theorem dX7_net_4 : decode cX7_net 4 = .ok (.ifCond .eq 21, 3) := by decide +kernel
theorem dX7_net_7 : decode cX7_net 7 = .ok (.iload_n 2, 1) := by decide +kernel
theorem dX7_net_8 : decode cX7_net 8 = .ok (.iconst 1, 1) := by decide +kernel
theorem dX7_net_9 : decode cX7_net 9 = .ok (.bipush 80, 2) := by decide +kernel
theorem dX7_net_11 : decode cX7_net 11 = .ok (.invokestatic 81, 3) := by decide +kernel
theorem dX7_net_14 : decode cX7_net 14 = .ok (.ifCond .eq 11, 3) := by decide +kernel
theorem dX7_net_17 : decode cX7_net 17 = .ok (.iload_n 2, 1) := by decide +kernel
theorem dX7_net_18 : decode cX7_net 18 = .ok (.aload_n 0, 1) := by decide +kernel
theorem dX7_net_19 : decode cX7_net 19 = .ok (.getfield 97, 3) := by decide +kernel
theorem dX7_net_22 : decode cX7_net 22 = .ok (.if_icmp .le 5, 3) := by decide +kernel
theorem dX7_net_25 : decode cX7_net 25 = .ok (.iconst (-1), 1) := by decide +kernel
theorem dX7_net_26 : decode cX7_net 26 = .ok (.ireturn, 1) := by decide +kernel
theorem dX7_net_27 : decode cX7_net 27 = .ok (.aload_n 0, 1) := by decide +kernel
theorem dX7_net_28 : decode cX7_net 28 = .ok (.iconst 0, 1) := by decide +kernel
theorem dX7_net_29 : decode cX7_net 29 = .ok (.putfield 105, 3) := by decide +kernel
theorem dX7_net_32 : decode cX7_net 32 = .ok (.aload_n 0, 1) := by decide +kernel
theorem dX7_net_33 : decode cX7_net 33 = .ok (.iload_n 2, 1) := by decide +kernel
theorem dX7_net_34 : decode cX7_net 34 = .ok (.putfield 108, 3) := by decide +kernel
theorem dX7_net_37 : decode cX7_net 37 = .ok (.aload_n 0, 1) := by decide +kernel
theorem dX7_net_38 : decode cX7_net 38 = .ok (.iconst 0, 1) := by decide +kernel
theorem dX7_net_39 : decode cX7_net 39 = .ok (.putfield 97, 3) := by decide +kernel
theorem dX7_net_42 : decode cX7_net 42 = .ok (.aload_n 0, 1) := by decide +kernel
theorem dX7_net_43 : decode cX7_net 43 = .ok (.invokevirtual 135, 3) := by decide +kernel
theorem dX7_net_46 : decode cX7_net 46 = .ok (.istore_n 3, 1) := by decide +kernel
theorem dX7_net_47 : decode cX7_net 47 = .ok (.iload_n 3, 1) := by decide +kernel
theorem dX7_net_48 : decode cX7_net 48 = .ok (.ifCond .ge 5, 3) := by decide +kernel
theorem dX7_net_51 : decode cX7_net 51 = .ok (.iload_n 3, 1) := by decide +kernel
theorem dX7_net_52 : decode cX7_net 52 = .ok (.ireturn, 1) := by decide +kernel
theorem dX7_net_53 : decode cX7_net 53 = .ok (.aload_n 0, 1) := by decide +kernel
theorem dX7_net_54 : decode cX7_net 54 = .ok (.bipush 7, 2) := by decide +kernel
theorem dX7_net_56 : decode cX7_net 56 = .ok (.iload_n 1, 1) := by decide +kernel
theorem dX7_net_57 : decode cX7_net 57 = .ok (.invokevirtual 138, 3) := by decide +kernel
theorem dX7_net_60 : decode cX7_net 60 = .ok (.aload_n 0, 1) := by decide +kernel
theorem dX7_net_61 : decode cX7_net 61 = .ok (.iload_n 1, 1) := by decide +kernel
theorem dX7_net_62 : decode cX7_net 62 = .ok (.invokevirtual 141, 3) := by decide +kernel
theorem dX7_net_65 : decode cX7_net 65 = .ok (.ireturn, 1) := by decide +kernel
noncomputable def f_X7_net_b25  (σ : Hp) : Option (Int32 × Hp) := some ((-1), σ)
set_option maxRecDepth 100000 in
set_option maxHeartbeats 4000000 in
theorem t_X7_net_b25 {l : Launch} {γ : Gm} {ad : Nat → Nat} {K : Option Value → Hp → Prop} (hc : Cx l γ 4 4 ad shM RX7 cX7_net (some .int) K)  {σ : Hp} (h : wpO (f_X7_net_b25  σ) (KI K)) : WW l γ 4 4 ad shM 25 [] [] σ := by
  unfold f_X7_net_b25 at h
  refine r_iconst hc (v := (-1)) (by decide) dX7_net_25 ?_
  have h := wp_v h
  exact r_iret hc h dX7_net_26
noncomputable def f_X7_net (x0 : Nat) (x1 : Int32) (x2 : Int32) (σ : Hp) : Option (Int32 × Hp) := bO (f_X7_isDrawer x1 σ) fun r1 σ2 => if r1 = 0 then (f_X7_net_b25  σ2) else (bO (f_X7_in x2 1 80 σ2) fun r3 σ4 => if r3 = 0 then (f_X7_net_b25  σ4) else (gO (getI shM 7 x0 6 σ4) fun v5 => if x2 ≤ v5 then (gO (putI shM 7 x0 7 0 σ4) fun σ6 => gO (putI shM 7 x0 8 x2 σ6) fun σ7 => gO (putI shM 7 x0 6 0 σ7) fun σ8 => gO (chk shM x0 7) fun _ => bO (f_X7_reads x0 σ8) fun r9 σ10 => if 0 ≤ r9 then (gO (chk shM x0 7) fun _ => bO (f_X7_copies x0 7 x1 σ10) fun _ σ13 => gO (chk shM x0 7) fun _ => bO (f_X7_lines x0 x1 σ13) fun r15 σ16 => some (r15, σ16)) else (some (r9, σ10))) else (f_X7_net_b25  σ4)))
set_option maxRecDepth 100000 in
set_option maxHeartbeats 4000000 in
theorem t_X7_net {l : Launch} {γ : Gm} {ad : Nat → Nat} {K : Option Value → Hp → Prop} (hc : Cx l γ 4 4 ad shM RX7 cX7_net (some .int) K) {x0 : Nat} {x1 : Int32} {x2 : Int32} {σ : Hp} (h : wpO (f_X7_net x0 x1 x2 σ) (KI K)) : WW l γ 4 4 ad shM 0 [(0, .ref (ad x0)), (1, .int x1), (2, .int x2)] [] σ := by
  unfold f_X7_net at h
  refine r_iload_n hc 1 rfl rfl dX7_net_0 ?_
  obtain ⟨r1, σ2, er1, h⟩ := wp_b h
  refine r_callS hc ms_X7_isDrawer ml_X7_132 (c_X7_isDrawer er1) rfl rfl (by decide) rfl (Nat.le_of_ble_eq_true rfl) dX7_net_1 ?_
  refine r_if_eq hc (tgt := 25) dX7_net_4 (by decide) (fun c => ?_) (fun c => ?_)
  · have h := wp_t c h
    refine r_sub [] (lv' := []) rfl ?_
    exact t_X7_net_b25 hc h
  · have h := wp_f c h
    refine r_iload_n hc 2 rfl rfl dX7_net_7 ?_
    refine r_iconst hc (v := 1) (by decide) dX7_net_8 ?_
    refine r_bipush hc (v := 80) (by decide) dX7_net_9 ?_
    obtain ⟨r3, σ4, er3, h⟩ := wp_b h
    refine r_callS hc ms_X7_in ml_X7_81 (c_X7_in er3) rfl rfl (by decide) rfl (Nat.le_of_ble_eq_true rfl) dX7_net_11 ?_
    refine r_if_eq hc (tgt := 25) dX7_net_14 (by decide) (fun c => ?_) (fun c => ?_)
    · have h := wp_t c h
      refine r_sub [] (lv' := []) rfl ?_
      exact t_X7_net_b25 hc h
    · have h := wp_f c h
      refine r_iload_n hc 2 rfl rfl dX7_net_17 ?_
      refine r_aload_n hc 0 rfl rfl dX7_net_18 ?_
      obtain ⟨v5, ev5, h⟩ := wp_g h
      refine r_getI hc ev5 fl_X7_97 rfl dX7_net_19 ?_
      refine r_icmp_le hc (tgt := 27) dX7_net_22 (by decide) (fun c => ?_) (fun c => ?_)
      · have h := wp_t c h
        refine r_aload_n hc 0 rfl rfl dX7_net_27 ?_
        refine r_iconst hc (v := 0) (by decide) dX7_net_28 ?_
        obtain ⟨σ6, eσ6, h⟩ := wp_g h
        refine r_putI hc eσ6 fp_X7_105 rfl dX7_net_29 ?_
        refine r_aload_n hc 0 rfl rfl dX7_net_32 ?_
        refine r_iload_n hc 2 rfl rfl dX7_net_33 ?_
        obtain ⟨σ7, eσ7, h⟩ := wp_g h
        refine r_putI hc eσ7 fp_X7_108 rfl dX7_net_34 ?_
        refine r_aload_n hc 0 rfl rfl dX7_net_37 ?_
        refine r_iconst hc (v := 0) (by decide) dX7_net_38 ?_
        obtain ⟨σ8, eσ8, h⟩ := wp_g h
        refine r_putI hc eσ8 fp_X7_97 rfl dX7_net_39 ?_
        refine r_aload_n hc 0 rfl rfl dX7_net_42 ?_
        obtain ⟨_, ek11, h⟩ := wp_g h
        obtain ⟨r9, σ10, er9, h⟩ := wp_b h
        refine r_callV hc (k0 := x0) mv_X7_reads ml_X7_135 (c_X7_reads er9) (chk_of ek11) cls_7.1 rfl rfl rfl (by decide) rfl (Nat.le_of_ble_eq_true rfl) dX7_net_43 ?_
        refine r_istore_nE hc (i := 3) (lv' := [(3, .int r9), (0, .ref (ad x0)), (1, .int x1), (2, .int x2)]) rfl rfl (by decide) rfl dX7_net_46 ?_
        refine r_iload_n hc 0 rfl rfl dX7_net_47 ?_
        refine r_if_ge hc (tgt := 53) dX7_net_48 (by decide) (fun c => ?_) (fun c => ?_)
        · have h := wp_t c h
          refine r_aload_n hc 1 rfl rfl dX7_net_53 ?_
          refine r_bipush hc (v := 7) (by decide) dX7_net_54 ?_
          refine r_iload_n hc 2 rfl rfl dX7_net_56 ?_
          obtain ⟨_, ek14, h⟩ := wp_g h
          obtain ⟨_, σ13, er12, h⟩ := wp_b h
          refine r_callV hc (k0 := x0) mv_X7_copies ml_X7_138 (c_X7_copies er12) (chk_of ek14) cls_7.1 rfl rfl rfl (by decide) rfl (Nat.le_of_ble_eq_true rfl) dX7_net_57 ?_
          refine r_aload_n hc 1 rfl rfl dX7_net_60 ?_
          refine r_iload_n hc 2 rfl rfl dX7_net_61 ?_
          obtain ⟨_, ek17, h⟩ := wp_g h
          obtain ⟨r15, σ16, er15, h⟩ := wp_b h
          refine r_callV hc (k0 := x0) mv_X7_lines ml_X7_141 (c_X7_lines er15) (chk_of ek17) cls_7.1 rfl rfl rfl (by decide) rfl (Nat.le_of_ble_eq_true rfl) dX7_net_62 ?_
          have h := wp_v h
          exact r_iret hc h dX7_net_65
        · have h := wp_f c h
          refine r_iload_n hc 0 rfl rfl dX7_net_51 ?_
          have h := wp_v h
          exact r_iret hc h dX7_net_52
      · have h := wp_f c h
        refine r_sub [] (lv' := []) rfl ?_
        exact t_X7_net_b25 hc h
theorem c_X7_net {l : Launch} {x0 : Nat} {x1 : Int32} {x2 : Int32} {σ σ' : Hp} {r : Int32} (h : f_X7_net x0 x1 x2 σ = some (r, σ')) : Mt l yX7_net cX7_net 4 (some .int) 4 shM (fun ad => [.ref (ad x0), .int x1, .int x2]) σ (fun ad => some (.int r)) σ' := mt_i (own := RX7) (by decide) rfl (fun _ => Nat.le_of_ble_eq_true rfl) (fun γ ad K hc hk => t_X7_net hc ⟨_, _, h, hk⟩)

-- NetMapsModel.put(II)Z
theorem dX7_put_0 : decode cX7_put 0 = .ok (.iload_n 1, 1) := by decide +kernel
theorem dX7_put_1 : decode cX7_put 1 = .ok (.invokestatic 132, 3) := by decide +kernel
theorem dX7_put_4 : decode cX7_put 4 = .ok (.ifCond .eq 13, 3) := by decide +kernel
theorem dX7_put_7 : decode cX7_put 7 = .ok (.iload_n 2, 1) := by decide +kernel
theorem dX7_put_8 : decode cX7_put 8 = .ok (.iconst 1, 1) := by decide +kernel
theorem dX7_put_9 : decode cX7_put 9 = .ok (.bipush 7, 2) := by decide +kernel
theorem dX7_put_11 : decode cX7_put 11 = .ok (.invokestatic 81, 3) := by decide +kernel
theorem dX7_put_14 : decode cX7_put 14 = .ok (.ifCond .ne 5, 3) := by decide +kernel
theorem dX7_put_17 : decode cX7_put 17 = .ok (.iconst 0, 1) := by decide +kernel
theorem dX7_put_18 : decode cX7_put 18 = .ok (.ireturn, 1) := by decide +kernel
theorem dX7_put_19 : decode cX7_put 19 = .ok (.aload_n 0, 1) := by decide +kernel
theorem dX7_put_20 : decode cX7_put 20 = .ok (.iload_n 1, 1) := by decide +kernel
theorem dX7_put_21 : decode cX7_put 21 = .ok (.iload_n 2, 1) := by decide +kernel
theorem dX7_put_22 : decode cX7_put 22 = .ok (.invokevirtual 121, 3) := by decide +kernel
theorem dX7_put_25 : decode cX7_put 25 = .ok (.iconst 1, 1) := by decide +kernel
theorem dX7_put_26 : decode cX7_put 26 = .ok (.ireturn, 1) := by decide +kernel
noncomputable def f_X7_put_b17  (σ : Hp) : Option (Int32 × Hp) := some (0, σ)
set_option maxRecDepth 100000 in
set_option maxHeartbeats 4000000 in
theorem t_X7_put_b17 {l : Launch} {γ : Gm} {ad : Nat → Nat} {K : Option Value → Hp → Prop} (hc : Cx l γ 3 3 ad shM RX7 cX7_put (some .boolean) K)  {σ : Hp} (h : wpO (f_X7_put_b17  σ) (KI K)) : WW l γ 3 3 ad shM 17 [] [] σ := by
  unfold f_X7_put_b17 at h
  refine r_iconst hc (v := 0) (by decide) dX7_put_17 ?_
  have h := wp_v h
  exact r_zret hc h (by decide) dX7_put_18
noncomputable def f_X7_put (x0 : Nat) (x1 : Int32) (x2 : Int32) (σ : Hp) : Option (Int32 × Hp) := bO (f_X7_isDrawer x1 σ) fun r1 σ2 => if r1 = 0 then (f_X7_put_b17  σ2) else (bO (f_X7_in x2 1 7 σ2) fun r3 σ4 => if r3 = 0 then (f_X7_put_b17  σ4) else (gO (chk shM x0 7) fun _ => bO (f_X7_begins x0 x1 x2 σ4) fun _ σ6 => some (1, σ6)))
set_option maxRecDepth 100000 in
set_option maxHeartbeats 4000000 in
theorem t_X7_put {l : Launch} {γ : Gm} {ad : Nat → Nat} {K : Option Value → Hp → Prop} (hc : Cx l γ 3 3 ad shM RX7 cX7_put (some .boolean) K) {x0 : Nat} {x1 : Int32} {x2 : Int32} {σ : Hp} (h : wpO (f_X7_put x0 x1 x2 σ) (KI K)) : WW l γ 3 3 ad shM 0 [(0, .ref (ad x0)), (1, .int x1), (2, .int x2)] [] σ := by
  unfold f_X7_put at h
  refine r_iload_n hc 1 rfl rfl dX7_put_0 ?_
  obtain ⟨r1, σ2, er1, h⟩ := wp_b h
  refine r_callS hc ms_X7_isDrawer ml_X7_132 (c_X7_isDrawer er1) rfl rfl (by decide) rfl (Nat.le_of_ble_eq_true rfl) dX7_put_1 ?_
  refine r_if_eq hc (tgt := 17) dX7_put_4 (by decide) (fun c => ?_) (fun c => ?_)
  · have h := wp_t c h
    refine r_sub [] (lv' := []) rfl ?_
    exact t_X7_put_b17 hc h
  · have h := wp_f c h
    refine r_iload_n hc 2 rfl rfl dX7_put_7 ?_
    refine r_iconst hc (v := 1) (by decide) dX7_put_8 ?_
    refine r_bipush hc (v := 7) (by decide) dX7_put_9 ?_
    obtain ⟨r3, σ4, er3, h⟩ := wp_b h
    refine r_callS hc ms_X7_in ml_X7_81 (c_X7_in er3) rfl rfl (by decide) rfl (Nat.le_of_ble_eq_true rfl) dX7_put_11 ?_
    refine r_if_ne hc (tgt := 19) dX7_put_14 (by decide) (fun c => ?_) (fun c => ?_)
    · have h := wp_f c h
      refine r_aload_n hc 0 rfl rfl dX7_put_19 ?_
      refine r_iload_n hc 1 rfl rfl dX7_put_20 ?_
      refine r_iload_n hc 2 rfl rfl dX7_put_21 ?_
      obtain ⟨_, ek7, h⟩ := wp_g h
      obtain ⟨_, σ6, er5, h⟩ := wp_b h
      refine r_callV hc (k0 := x0) mv_X7_begins ml_X7_121 (c_X7_begins er5) (chk_of ek7) cls_7.1 rfl rfl rfl (by decide) rfl (Nat.le_of_ble_eq_true rfl) dX7_put_22 ?_
      refine r_iconst hc (v := 1) (by decide) dX7_put_25 ?_
      have h := wp_v h
      exact r_zret hc h (by decide) dX7_put_26
    · have h := wp_t c h
      refine r_sub [] (lv' := []) rfl ?_
      exact t_X7_put_b17 hc h
theorem c_X7_put {l : Launch} {x0 : Nat} {x1 : Int32} {x2 : Int32} {σ σ' : Hp} {r : Int32} (h : f_X7_put x0 x1 x2 σ = some (r, σ')) : Mt l yX7_put cX7_put 3 (some .boolean) 3 shM (fun ad => [.ref (ad x0), .int x1, .int x2]) σ (fun ad => some (.int r)) σ' := mt_i (own := RX7) (by decide) rfl (fun _ => Nat.le_of_ble_eq_true rfl) (fun γ ad K hc hk => t_X7_put hc ⟨_, _, h, hk⟩)

-- NetMapsModel.take(I)I
theorem dX7_take_0 : decode cX7_take 0 = .ok (.iload_n 1, 1) := by decide +kernel
theorem dX7_take_1 : decode cX7_take 1 = .ok (.invokestatic 132, 3) := by decide +kernel
theorem dX7_take_4 : decode cX7_take 4 = .ok (.ifCond .ne 5, 3) := by decide +kernel
theorem dX7_take_7 : decode cX7_take 7 = .ok (.iconst (-1), 1) := by decide +kernel
theorem dX7_take_8 : decode cX7_take 8 = .ok (.ireturn, 1) := by decide +kernel
theorem dX7_take_9 : decode cX7_take 9 = .ok (.aload_n 0, 1) := by decide +kernel
theorem dX7_take_10 : decode cX7_take 10 = .ok (.iload_n 1, 1) := by decide +kernel
theorem dX7_take_11 : decode cX7_take 11 = .ok (.invokevirtual 85, 3) := by decide +kernel
theorem dX7_take_14 : decode cX7_take 14 = .ok (.ifCond .eq 7, 3) := by decide +kernel
theorem dX7_take_17 : decode cX7_take 17 = .ok (.iconst 0, 1) := by decide +kernel
theorem dX7_take_18 : decode cX7_take 18 = .ok (.goto 4, 3) := by decide +kernel
theorem dX7_take_21 : decode cX7_take 21 = .ok (.iconst 1, 1) := by decide +kernel
theorem dX7_take_22 : decode cX7_take 22 = .ok (.istore_n 2, 1) := by decide +kernel
theorem dX7_take_23 : decode cX7_take 23 = .ok (.aload_n 0, 1) := by decide +kernel
theorem dX7_take_24 : decode cX7_take 24 = .ok (.getfield 7, 3) := by decide +kernel
theorem dX7_take_27 : decode cX7_take 27 = .ok (.iload_n 1, 1) := by decide +kernel
theorem dX7_take_28 : decode cX7_take 28 = .ok (.iconst 0, 1) := by decide +kernel
theorem dX7_take_29 : decode cX7_take 29 = .ok (.iastore, 1) := by decide +kernel
theorem dX7_take_30 : decode cX7_take 30 = .ok (.iload_n 2, 1) := by decide +kernel
theorem dX7_take_31 : decode cX7_take 31 = .ok (.ireturn, 1) := by decide +kernel
noncomputable def f_X7_take_b22 (x0 : Nat) (x1 : Int32) (s0 : Int32) (σ : Hp) : Option (Int32 × Hp) := gO (getR shM 7 x0 0 σ) fun v1 => gO (astI shM 0 v1 x1 0 σ) fun σ2 => some (s0, σ2)
set_option maxRecDepth 100000 in
set_option maxHeartbeats 4000000 in
theorem t_X7_take_b22 {l : Launch} {γ : Gm} {ad : Nat → Nat} {K : Option Value → Hp → Prop} (hc : Cx l γ 3 3 ad shM RX7 cX7_take (some .int) K) {x0 : Nat} {x1 : Int32} {s0 : Int32} {σ : Hp} (h : wpO (f_X7_take_b22 x0 x1 s0 σ) (KI K)) : WW l γ 3 3 ad shM 22 [(0, .ref (ad x0)), (1, .int x1)] [.int s0] σ := by
  unfold f_X7_take_b22 at h
  refine r_istore_nE hc (i := 2) (lv' := [(2, .int s0), (0, .ref (ad x0)), (1, .int x1)]) rfl rfl (by decide) rfl dX7_take_22 ?_
  refine r_aload_n hc 1 rfl rfl dX7_take_23 ?_
  obtain ⟨v1, ev1, h⟩ := wp_g h
  refine r_getR hc ev1 fl_X7_7 rfl dX7_take_24 ?_
  refine r_iload_n hc 2 rfl rfl dX7_take_27 ?_
  refine r_iconst hc (v := 0) (by decide) dX7_take_28 ?_
  obtain ⟨σ2, eσ2, h⟩ := wp_g h
  refine r_iast hc eσ2 dX7_take_29 ?_
  refine r_iload_n hc 0 rfl rfl dX7_take_30 ?_
  have h := wp_v h
  exact r_iret hc h dX7_take_31
noncomputable def f_X7_take (x0 : Nat) (x1 : Int32) (σ : Hp) : Option (Int32 × Hp) := bO (f_X7_isDrawer x1 σ) fun r1 σ2 => if r1 = 0 then (some ((-1), σ2)) else (gO (chk shM x0 7) fun _ => bO (f_X7_isEmpty x0 x1 σ2) fun r3 σ4 => if r3 = 0 then (f_X7_take_b22 x0 x1 1 σ4) else (f_X7_take_b22 x0 x1 0 σ4))
set_option maxRecDepth 100000 in
set_option maxHeartbeats 4000000 in
theorem t_X7_take {l : Launch} {γ : Gm} {ad : Nat → Nat} {K : Option Value → Hp → Prop} (hc : Cx l γ 3 3 ad shM RX7 cX7_take (some .int) K) {x0 : Nat} {x1 : Int32} {σ : Hp} (h : wpO (f_X7_take x0 x1 σ) (KI K)) : WW l γ 3 3 ad shM 0 [(0, .ref (ad x0)), (1, .int x1)] [] σ := by
  unfold f_X7_take at h
  refine r_iload_n hc 1 rfl rfl dX7_take_0 ?_
  obtain ⟨r1, σ2, er1, h⟩ := wp_b h
  refine r_callS hc ms_X7_isDrawer ml_X7_132 (c_X7_isDrawer er1) rfl rfl (by decide) rfl (Nat.le_of_ble_eq_true rfl) dX7_take_1 ?_
  refine r_if_ne hc (tgt := 9) dX7_take_4 (by decide) (fun c => ?_) (fun c => ?_)
  · have h := wp_f c h
    refine r_aload_n hc 0 rfl rfl dX7_take_9 ?_
    refine r_iload_n hc 1 rfl rfl dX7_take_10 ?_
    obtain ⟨_, ek5, h⟩ := wp_g h
    obtain ⟨r3, σ4, er3, h⟩ := wp_b h
    refine r_callV hc (k0 := x0) mv_X7_isEmpty ml_X7_85 (c_X7_isEmpty er3) (chk_of ek5) cls_7.1 rfl rfl rfl (by decide) rfl (Nat.le_of_ble_eq_true rfl) dX7_take_11 ?_
    refine r_if_eq hc (tgt := 21) dX7_take_14 (by decide) (fun c => ?_) (fun c => ?_)
    · have h := wp_t c h
      refine r_iconst hc (v := 1) (by decide) dX7_take_21 ?_
      exact t_X7_take_b22 hc h
    · have h := wp_f c h
      refine r_iconst hc (v := 0) (by decide) dX7_take_17 ?_
      refine r_goto hc (tgt := 22) dX7_take_18 (by decide) ?_
      exact t_X7_take_b22 hc h
  · have h := wp_t c h
    refine r_iconst hc (v := (-1)) (by decide) dX7_take_7 ?_
    have h := wp_v h
    exact r_iret hc h dX7_take_8
theorem c_X7_take {l : Launch} {x0 : Nat} {x1 : Int32} {σ σ' : Hp} {r : Int32} (h : f_X7_take x0 x1 σ = some (r, σ')) : Mt l yX7_take cX7_take 3 (some .int) 3 shM (fun ad => [.ref (ad x0), .int x1]) σ (fun ad => some (.int r)) σ' := mt_i (own := RX7) (by decide) rfl (fun _ => Nat.le_of_ble_eq_true rfl) (fun γ ad K hc hk => t_X7_take hc ⟨_, _, h, hk⟩)

-- NetMapsModel.line(IIIZ)Z
theorem dX7_line_0 : decode cX7_line 0 = .ok (.iload_n 1, 1) := by decide +kernel
theorem dX7_line_1 : decode cX7_line 1 = .ok (.invokestatic 132, 3) := by decide +kernel
theorem dX7_line_4 : decode cX7_line 4 = .ok (.ifCond .eq 41, 3) := by decide +kernel
theorem dX7_line_7 : decode cX7_line 7 = .ok (.aload_n 0, 1) := by decide +kernel
theorem dX7_line_8 : decode cX7_line 8 = .ok (.iload_n 1, 1) := by decide +kernel
theorem dX7_line_9 : decode cX7_line 9 = .ok (.invokevirtual 85, 3) := by decide +kernel
theorem dX7_line_12 : decode cX7_line 12 = .ok (.ifCond .ne 33, 3) := by decide +kernel
theorem dX7_line_15 : decode cX7_line 15 = .ok (.aload_n 0, 1) := by decide +kernel
theorem dX7_line_16 : decode cX7_line 16 = .ok (.iload_n 1, 1) := by decide +kernel
theorem dX7_line_17 : decode cX7_line 17 = .ok (.iload_n 2, 1) := by decide +kernel
theorem dX7_line_18 : decode cX7_line 18 = .ok (.invokevirtual 144, 3) := by decide +kernel
theorem dX7_line_21 : decode cX7_line 21 = .ok (.ifCond .eq 24, 3) := by decide +kernel
theorem dX7_line_24 : decode cX7_line 24 = .ok (.aload_n 0, 1) := by decide +kernel
theorem dX7_line_25 : decode cX7_line 25 = .ok (.iload_n 1, 1) := by decide +kernel
theorem dX7_line_26 : decode cX7_line 26 = .ok (.iload_n 3, 1) := by decide +kernel
theorem dX7_line_27 : decode cX7_line 27 = .ok (.invokevirtual 144, 3) := by decide +kernel
theorem dX7_line_30 : decode cX7_line 30 = .ok (.ifCond .eq 15, 3) := by decide +kernel
theorem dX7_line_33 : decode cX7_line 33 = .ok (.aload_n 0, 1) := by decide +kernel
theorem dX7_line_34 : decode cX7_line 34 = .ok (.iload_n 1, 1) := by decide +kernel
theorem dX7_line_35 : decode cX7_line 35 = .ok (.iload_n 2, 1) := by decide +kernel
theorem dX7_line_36 : decode cX7_line 36 = .ok (.iload_n 3, 1) := by decide +kernel
theorem dX7_line_37 : decode cX7_line 37 = .ok (.invokevirtual 125, 3) := by decide +kernel
theorem dX7_line_40 : decode cX7_line 40 = .ok (.iload 4, 2) := by decide +kernel
theorem dX7_line_42 : decode cX7_line 42 = .ok (.if_icmp .ne 5, 3) := by decide +kernel
theorem dX7_line_45 : decode cX7_line 45 = .ok (.iconst 0, 1) := by decide +kernel
theorem dX7_line_46 : decode cX7_line 46 = .ok (.ireturn, 1) := by decide +kernel
theorem dX7_line_47 : decode cX7_line 47 = .ok (.aload_n 0, 1) := by decide +kernel
theorem dX7_line_48 : decode cX7_line 48 = .ok (.iload_n 1, 1) := by decide +kernel
theorem dX7_line_49 : decode cX7_line 49 = .ok (.iload_n 2, 1) := by decide +kernel
theorem dX7_line_50 : decode cX7_line 50 = .ok (.iload_n 3, 1) := by decide +kernel
theorem dX7_line_51 : decode cX7_line 51 = .ok (.iload 4, 2) := by decide +kernel
theorem dX7_line_53 : decode cX7_line 53 = .ok (.invokevirtual 128, 3) := by decide +kernel
theorem dX7_line_56 : decode cX7_line 56 = .ok (.iconst 1, 1) := by decide +kernel
theorem dX7_line_57 : decode cX7_line 57 = .ok (.ireturn, 1) := by decide +kernel
noncomputable def f_X7_line_b45  (σ : Hp) : Option (Int32 × Hp) := some (0, σ)
set_option maxRecDepth 100000 in
set_option maxHeartbeats 4000000 in
theorem t_X7_line_b45 {l : Launch} {γ : Gm} {ad : Nat → Nat} {K : Option Value → Hp → Prop} (hc : Cx l γ 3 5 ad shM RX7 cX7_line (some .boolean) K)  {σ : Hp} (h : wpO (f_X7_line_b45  σ) (KI K)) : WW l γ 3 5 ad shM 45 [] [] σ := by
  unfold f_X7_line_b45 at h
  refine r_iconst hc (v := 0) (by decide) dX7_line_45 ?_
  have h := wp_v h
  exact r_zret hc h (by decide) dX7_line_46
noncomputable def f_X7_line (x0 : Nat) (x1 : Int32) (x2 : Int32) (x3 : Int32) (x4 : Int32) (σ : Hp) : Option (Int32 × Hp) := bO (f_X7_isDrawer x1 σ) fun r1 σ2 => if r1 = 0 then (f_X7_line_b45  σ2) else (gO (chk shM x0 7) fun _ => bO (f_X7_isEmpty x0 x1 σ2) fun r3 σ4 => if r3 = 0 then (gO (chk shM x0 7) fun _ => bO (f_X7_isNode x0 x1 x2 σ4) fun r6 σ7 => if r6 = 0 then (f_X7_line_b45  σ7) else (gO (chk shM x0 7) fun _ => bO (f_X7_isNode x0 x1 x3 σ7) fun r9 σ10 => if r9 = 0 then (f_X7_line_b45  σ10) else (gO (chk shM x0 7) fun _ => bO (f_X7_isLine x0 x1 x2 x3 σ10) fun r12 σ13 => if r12 = x4 then (f_X7_line_b45  σ13) else (gO (chk shM x0 7) fun _ => bO (f_X7_sets x0 x1 x2 x3 x4 σ13) fun _ σ16 => some (1, σ16))))) else (f_X7_line_b45  σ4))
set_option maxRecDepth 100000 in
set_option maxHeartbeats 4000000 in
theorem t_X7_line {l : Launch} {γ : Gm} {ad : Nat → Nat} {K : Option Value → Hp → Prop} (hc : Cx l γ 3 5 ad shM RX7 cX7_line (some .boolean) K) {x0 : Nat} {x1 : Int32} {x2 : Int32} {x3 : Int32} {x4 : Int32} {σ : Hp} (h : wpO (f_X7_line x0 x1 x2 x3 x4 σ) (KI K)) : WW l γ 3 5 ad shM 0 [(0, .ref (ad x0)), (1, .int x1), (2, .int x2), (3, .int x3), (4, .int x4)] [] σ := by
  unfold f_X7_line at h
  refine r_iload_n hc 1 rfl rfl dX7_line_0 ?_
  obtain ⟨r1, σ2, er1, h⟩ := wp_b h
  refine r_callS hc ms_X7_isDrawer ml_X7_132 (c_X7_isDrawer er1) rfl rfl (by decide) rfl (Nat.le_of_ble_eq_true rfl) dX7_line_1 ?_
  refine r_if_eq hc (tgt := 45) dX7_line_4 (by decide) (fun c => ?_) (fun c => ?_)
  · have h := wp_t c h
    refine r_sub [] (lv' := []) rfl ?_
    exact t_X7_line_b45 hc h
  · have h := wp_f c h
    refine r_aload_n hc 0 rfl rfl dX7_line_7 ?_
    refine r_iload_n hc 1 rfl rfl dX7_line_8 ?_
    obtain ⟨_, ek5, h⟩ := wp_g h
    obtain ⟨r3, σ4, er3, h⟩ := wp_b h
    refine r_callV hc (k0 := x0) mv_X7_isEmpty ml_X7_85 (c_X7_isEmpty er3) (chk_of ek5) cls_7.1 rfl rfl rfl (by decide) rfl (Nat.le_of_ble_eq_true rfl) dX7_line_9 ?_
    refine r_if_ne hc (tgt := 45) dX7_line_12 (by decide) (fun c => ?_) (fun c => ?_)
    · have h := wp_f c h
      refine r_sub [] (lv' := []) rfl ?_
      exact t_X7_line_b45 hc h
    · have h := wp_t c h
      refine r_aload_n hc 0 rfl rfl dX7_line_15 ?_
      refine r_iload_n hc 1 rfl rfl dX7_line_16 ?_
      refine r_iload_n hc 2 rfl rfl dX7_line_17 ?_
      obtain ⟨_, ek8, h⟩ := wp_g h
      obtain ⟨r6, σ7, er6, h⟩ := wp_b h
      refine r_callV hc (k0 := x0) mv_X7_isNode ml_X7_144 (c_X7_isNode er6) (chk_of ek8) cls_7.1 rfl rfl rfl (by decide) rfl (Nat.le_of_ble_eq_true rfl) dX7_line_18 ?_
      refine r_if_eq hc (tgt := 45) dX7_line_21 (by decide) (fun c => ?_) (fun c => ?_)
      · have h := wp_t c h
        refine r_sub [] (lv' := []) rfl ?_
        exact t_X7_line_b45 hc h
      · have h := wp_f c h
        refine r_aload_n hc 0 rfl rfl dX7_line_24 ?_
        refine r_iload_n hc 1 rfl rfl dX7_line_25 ?_
        refine r_iload_n hc 3 rfl rfl dX7_line_26 ?_
        obtain ⟨_, ek11, h⟩ := wp_g h
        obtain ⟨r9, σ10, er9, h⟩ := wp_b h
        refine r_callV hc (k0 := x0) mv_X7_isNode ml_X7_144 (c_X7_isNode er9) (chk_of ek11) cls_7.1 rfl rfl rfl (by decide) rfl (Nat.le_of_ble_eq_true rfl) dX7_line_27 ?_
        refine r_if_eq hc (tgt := 45) dX7_line_30 (by decide) (fun c => ?_) (fun c => ?_)
        · have h := wp_t c h
          refine r_sub [] (lv' := []) rfl ?_
          exact t_X7_line_b45 hc h
        · have h := wp_f c h
          refine r_aload_n hc 0 rfl rfl dX7_line_33 ?_
          refine r_iload_n hc 1 rfl rfl dX7_line_34 ?_
          refine r_iload_n hc 2 rfl rfl dX7_line_35 ?_
          refine r_iload_n hc 3 rfl rfl dX7_line_36 ?_
          obtain ⟨_, ek14, h⟩ := wp_g h
          obtain ⟨r12, σ13, er12, h⟩ := wp_b h
          refine r_callV hc (k0 := x0) mv_X7_isLine ml_X7_125 (c_X7_isLine er12) (chk_of ek14) cls_7.1 rfl rfl rfl (by decide) rfl (Nat.le_of_ble_eq_true rfl) dX7_line_37 ?_
          refine r_iload hc 4 rfl dX7_line_40 ?_
          refine r_icmp_ne hc (tgt := 47) dX7_line_42 (by decide) (fun c => ?_) (fun c => ?_)
          · have h := wp_f c h
            refine r_aload_n hc 0 rfl rfl dX7_line_47 ?_
            refine r_iload_n hc 1 rfl rfl dX7_line_48 ?_
            refine r_iload_n hc 2 rfl rfl dX7_line_49 ?_
            refine r_iload_n hc 3 rfl rfl dX7_line_50 ?_
            refine r_iload hc 4 rfl dX7_line_51 ?_
            obtain ⟨_, ek17, h⟩ := wp_g h
            obtain ⟨_, σ16, er15, h⟩ := wp_b h
            refine r_callV hc (k0 := x0) mv_X7_sets ml_X7_128 (c_X7_sets er15) (chk_of ek17) cls_7.1 rfl rfl rfl (by decide) rfl (Nat.le_of_ble_eq_true rfl) dX7_line_53 ?_
            refine r_iconst hc (v := 1) (by decide) dX7_line_56 ?_
            have h := wp_v h
            exact r_zret hc h (by decide) dX7_line_57
          · have h := wp_t c h
            refine r_sub [] (lv' := []) rfl ?_
            exact t_X7_line_b45 hc h
theorem c_X7_line {l : Launch} {x0 : Nat} {x1 : Int32} {x2 : Int32} {x3 : Int32} {x4 : Int32} {σ σ' : Hp} {r : Int32} (h : f_X7_line x0 x1 x2 x3 x4 σ = some (r, σ')) : Mt l yX7_line cX7_line 5 (some .boolean) 3 shM (fun ad => [.ref (ad x0), .int x1, .int x2, .int x3, .int x4]) σ (fun ad => some (.int r)) σ' := mt_i (own := RX7) (by decide) rfl (fun _ => Nat.le_of_ble_eq_true rfl) (fun γ ad K hc hk => t_X7_line hc ⟨_, _, h, hk⟩)

-- NetMapsModel.reachOf(II)I
theorem dX7_reachOf_0 : decode cX7_reachOf 0 = .ok (.aload_n 0, 1) := by decide +kernel
theorem dX7_reachOf_1 : decode cX7_reachOf 1 = .ok (.getfield 13, 3) := by decide +kernel
theorem dX7_reachOf_4 : decode cX7_reachOf 4 = .ok (.bipush 7, 2) := by decide +kernel
theorem dX7_reachOf_6 : decode cX7_reachOf 6 = .ok (.iload_n 1, 1) := by decide +kernel
theorem dX7_reachOf_7 : decode cX7_reachOf 7 = .ok (.imul, 1) := by decide +kernel
theorem dX7_reachOf_8 : decode cX7_reachOf 8 = .ok (.iload_n 2, 1) := by decide +kernel
theorem dX7_reachOf_9 : decode cX7_reachOf 9 = .ok (.iadd, 1) := by decide +kernel
theorem dX7_reachOf_10 : decode cX7_reachOf 10 = .ok (.iaload, 1) := by decide +kernel
theorem dX7_reachOf_11 : decode cX7_reachOf 11 = .ok (.istore_n 3, 1) := by decide +kernel
theorem dX7_reachOf_12 : decode cX7_reachOf 12 = .ok (.iconst 0, 1) := by decide +kernel
theorem dX7_reachOf_13 : decode cX7_reachOf 13 = .ok (.istore 4, 2) := by decide +kernel
theorem dX7_reachOf_15 : decode cX7_reachOf 15 = .ok (.iload_n 3, 1) := by decide +kernel
theorem dX7_reachOf_16 : decode cX7_reachOf 16 = .ok (.iload 4, 2) := by decide +kernel
theorem dX7_reachOf_18 : decode cX7_reachOf 18 = .ok (.if_icmp .eq 58, 3) := by decide +kernel
theorem dX7_reachOf_21 : decode cX7_reachOf 21 = .ok (.iload_n 3, 1) := by decide +kernel
theorem dX7_reachOf_22 : decode cX7_reachOf 22 = .ok (.istore 4, 2) := by decide +kernel
theorem dX7_reachOf_24 : decode cX7_reachOf 24 = .ok (.iconst 0, 1) := by decide +kernel
theorem dX7_reachOf_25 : decode cX7_reachOf 25 = .ok (.istore 5, 2) := by decide +kernel
theorem dX7_reachOf_27 : decode cX7_reachOf 27 = .ok (.iload 5, 2) := by decide +kernel
theorem dX7_reachOf_29 : decode cX7_reachOf 29 = .ok (.aload_n 0, 1) := by decide +kernel
theorem dX7_reachOf_30 : decode cX7_reachOf 30 = .ok (.getfield 7, 3) := by decide +kernel
theorem dX7_reachOf_33 : decode cX7_reachOf 33 = .ok (.iload_n 1, 1) := by decide +kernel
theorem dX7_reachOf_34 : decode cX7_reachOf 34 = .ok (.iaload, 1) := by decide +kernel
theorem dX7_reachOf_35 : decode cX7_reachOf 35 = .ok (.if_icmp .ge 38, 3) := by decide +kernel
theorem dX7_reachOf_38 : decode cX7_reachOf 38 = .ok (.iload_n 3, 1) := by decide +kernel
theorem dX7_reachOf_39 : decode cX7_reachOf 39 = .ok (.iload 4, 2) := by decide +kernel
theorem dX7_reachOf_41 : decode cX7_reachOf 41 = .ok (.iload 5, 2) := by decide +kernel
theorem dX7_reachOf_43 : decode cX7_reachOf 43 = .ok (.invokestatic 89, 3) := by decide +kernel
theorem dX7_reachOf_46 : decode cX7_reachOf 46 = .ok (.ifCond .eq 18, 3) := by decide +kernel
theorem dX7_reachOf_49 : decode cX7_reachOf 49 = .ok (.aload_n 0, 1) := by decide +kernel
theorem dX7_reachOf_50 : decode cX7_reachOf 50 = .ok (.getfield 13, 3) := by decide +kernel
theorem dX7_reachOf_53 : decode cX7_reachOf 53 = .ok (.bipush 7, 2) := by decide +kernel
theorem dX7_reachOf_55 : decode cX7_reachOf 55 = .ok (.iload_n 1, 1) := by decide +kernel
theorem dX7_reachOf_56 : decode cX7_reachOf 56 = .ok (.imul, 1) := by decide +kernel
theorem dX7_reachOf_57 : decode cX7_reachOf 57 = .ok (.iload 5, 2) := by decide +kernel
theorem dX7_reachOf_59 : decode cX7_reachOf 59 = .ok (.iadd, 1) := by decide +kernel
theorem dX7_reachOf_60 : decode cX7_reachOf 60 = .ok (.iaload, 1) := by decide +kernel
theorem dX7_reachOf_61 : decode cX7_reachOf 61 = .ok (.goto 4, 3) := by decide +kernel
theorem dX7_reachOf_64 : decode cX7_reachOf 64 = .ok (.iconst 0, 1) := by decide +kernel
theorem dX7_reachOf_65 : decode cX7_reachOf 65 = .ok (.ior, 1) := by decide +kernel
theorem dX7_reachOf_66 : decode cX7_reachOf 66 = .ok (.istore_n 3, 1) := by decide +kernel
theorem dX7_reachOf_67 : decode cX7_reachOf 67 = .ok (.iinc 5 1, 3) := by decide +kernel
theorem dX7_reachOf_70 : decode cX7_reachOf 70 = .ok (.goto (-43), 3) := by decide +kernel
theorem dX7_reachOf_73 : decode cX7_reachOf 73 = .ok (.goto (-58), 3) := by decide +kernel
theorem dX7_reachOf_76 : decode cX7_reachOf 76 = .ok (.iload_n 3, 1) := by decide +kernel
theorem dX7_reachOf_77 : decode cX7_reachOf 77 = .ok (.ireturn, 1) := by decide +kernel
noncomputable def f_X7_reachOf_b65 (x0 : Nat) (x1 : Int32) (x4 : Int32) (x5 : Int32) (s0 : Int32) (s1 : Int32) (σ : Hp) : Option (((Int32 × Int32) ⊕ (Int32)) × Hp) := some (Sum.inl ((s0 ||| s1), (x5 + 1)), σ)
set_option maxRecDepth 100000 in
set_option maxHeartbeats 4000000 in
theorem t_X7_reachOf_b65 {l : Launch} {γ : Gm} {ad : Nat → Nat} {K : Option Value → Hp → Prop} (hc : Cx l γ 2 6 ad shM RX7 cX7_reachOf (some .int) K) {x0 : Nat} {x1 : Int32} {x4 : Int32} {x5 : Int32} {s0 : Int32} {s1 : Int32}  {σ : Hp} {KL : ((Int32 × Int32) ⊕ (Int32)) → Hp → Prop} (h : wpO (f_X7_reachOf_b65 x0 x1 x4 x5 s0 s1 σ) KL) (kn : ∀ (v : (Int32 × Int32)) (σ : Hp), KL (Sum.inl v) σ → WW l γ 2 6 ad shM 27 [(0, .ref (ad x0)), (1, .int x1), (3, .int v.1), (4, .int x4), (5, .int v.2)] [] σ) (kx73 : ∀ (v : Int32) (σ : Hp), KL (Sum.inr v) σ → WW l γ 2 6 ad shM 73 [(0, .ref (ad x0)), (1, .int x1), (3, .int v), (4, .int x4)] [] σ) : WW l γ 2 6 ad shM 65 [(0, .ref (ad x0)), (1, .int x1), (4, .int x4), (5, .int x5)] [.int s1, .int s0] σ := by
  unfold f_X7_reachOf_b65 at h
  refine r_ior hc dX7_reachOf_65 ?_
  refine r_istore_nE hc (i := 3) (lv' := [(3, .int (s0 ||| s1)), (0, .ref (ad x0)), (1, .int x1), (4, .int x4), (5, .int x5)]) rfl rfl (by decide) rfl dX7_reachOf_66 ?_
  refine r_iincE hc (j := 4) (w := 1) (lv' := [(5, .int (x5 + 1)), (3, .int (s0 ||| s1)), (0, .ref (ad x0)), (1, .int x1), (4, .int x4)]) rfl (by decide) rfl (by decide) rfl dX7_reachOf_67 ?_
  refine r_goto hc (tgt := 27) dX7_reachOf_70 (by decide) ?_
  refine r_sub [2, 3, 1, 4, 0] (lv' := [(0, .ref (ad x0)), (1, .int x1), (3, .int (s0 ||| s1)), (4, .int x4), (5, .int (x5 + 1))]) rfl ?_
  have h := wp_v h
  exact kn ((s0 ||| s1), (x5 + 1)) _ h
noncomputable def f_X7_reachOf_L27 (x0 : Nat) (x1 : Int32) (x4 : Int32) (v : (Int32 × Int32)) (σ : Hp) : Option (((Int32 × Int32) ⊕ (Int32)) × Hp) := gO (getR shM 7 x0 0 σ) fun v1 => gO (aldI shM 0 v1 x1 σ) fun v2 => if v2 ≤ v.2 then (some (Sum.inr v.1, σ)) else (bO (f_X7_has x4 v.2 σ) fun r3 σ4 => if r3 = 0 then (f_X7_reachOf_b65 x0 x1 x4 v.2 v.1 0 σ4) else (gO (getR shM 7 x0 1 σ4) fun v5 => gO (aldI shM 0 v5 ((7 * x1) + v.2) σ4) fun v6 => f_X7_reachOf_b65 x0 x1 x4 v.2 v.1 v6 σ4))
set_option maxRecDepth 100000 in
set_option maxHeartbeats 4000000 in
theorem t_X7_reachOf_L27 {l : Launch} {γ : Gm} {ad : Nat → Nat} {K : Option Value → Hp → Prop}  (hc : Cx l γ 2 6 ad shM RX7 cX7_reachOf (some .int) K) {x0 : Nat} {x1 : Int32} {x4 : Int32} {v : (Int32 × Int32)} {σ : Hp} {KX : (Int32) → Hp → Prop} (h : wpO (wh (f_X7_reachOf_L27 x0 x1 x4) v σ) KX) (kx73 : ∀ (v : Int32) (σ : Hp), KX v σ → WW l γ 2 6 ad shM 73 [(0, .ref (ad x0)), (1, .int x1), (3, .int v), (4, .int x4)] [] σ) : WW l γ 2 6 ad shM 27 [(0, .ref (ad x0)), (1, .int x1), (3, .int v.1), (4, .int x4), (5, .int v.2)] [] σ := by
  refine wh_W (P := fun v σ => WW l γ 2 6 ad shM 27 [(0, .ref (ad x0)), (1, .int x1), (3, .int v.1), (4, .int x4), (5, .int v.2)] [] σ) (fun v σ h => ?_) h
  have kn : ∀ (v : (Int32 × Int32)) (σ : Hp), WW l γ 2 6 ad shM 27 [(0, .ref (ad x0)), (1, .int x1), (3, .int v.1), (4, .int x4), (5, .int v.2)] [] σ → WW l γ 2 6 ad shM 27 [(0, .ref (ad x0)), (1, .int x1), (3, .int v.1), (4, .int x4), (5, .int v.2)] [] σ := fun _ _ h => h
  · unfold f_X7_reachOf_L27 at h
    refine r_iload hc 4 rfl dX7_reachOf_27 ?_
    refine r_aload_n hc 0 rfl rfl dX7_reachOf_29 ?_
    obtain ⟨v1, ev1, h⟩ := wp_g h
    refine r_getR hc ev1 fl_X7_7 rfl dX7_reachOf_30 ?_
    refine r_iload_n hc 1 rfl rfl dX7_reachOf_33 ?_
    obtain ⟨v2, ev2, h⟩ := wp_g h
    refine r_iald hc ev2 dX7_reachOf_34 ?_
    refine r_icmp_ge hc (tgt := 73) dX7_reachOf_35 (by decide) (fun c => ?_) (fun c => ?_)
    · have h := wp_t c h
      refine r_sub [0, 1, 2, 3] (lv' := [(0, .ref (ad x0)), (1, .int x1), (3, .int v.1), (4, .int x4)]) rfl ?_
      have h := wp_v h
      exact kx73 v.1 _ h
    · have h := wp_f c h
      refine r_iload_n hc 2 rfl rfl dX7_reachOf_38 ?_
      refine r_iload hc 3 rfl dX7_reachOf_39 ?_
      refine r_iload hc 4 rfl dX7_reachOf_41 ?_
      obtain ⟨r3, σ4, er3, h⟩ := wp_b h
      refine r_callS hc ms_X7_has ml_X7_89 (c_X7_has er3) rfl rfl (by decide) rfl (Nat.le_of_ble_eq_true rfl) dX7_reachOf_43 ?_
      refine r_if_eq hc (tgt := 64) dX7_reachOf_46 (by decide) (fun c => ?_) (fun c => ?_)
      · have h := wp_t c h
        refine r_iconst hc (v := 0) (by decide) dX7_reachOf_64 ?_
        refine r_sub [0, 1, 3, 4] (lv' := [(0, .ref (ad x0)), (1, .int x1), (4, .int x4), (5, .int v.2)]) rfl ?_
        exact t_X7_reachOf_b65 hc h kn kx73
      · have h := wp_f c h
        refine r_aload_n hc 0 rfl rfl dX7_reachOf_49 ?_
        obtain ⟨v5, ev5, h⟩ := wp_g h
        refine r_getR hc ev5 fl_X7_13 rfl dX7_reachOf_50 ?_
        refine r_bipush hc (v := 7) (by decide) dX7_reachOf_53 ?_
        refine r_iload_n hc 1 rfl rfl dX7_reachOf_55 ?_
        refine r_imul hc dX7_reachOf_56 ?_
        refine r_iload hc 4 rfl dX7_reachOf_57 ?_
        refine r_iadd hc dX7_reachOf_59 ?_
        obtain ⟨v6, ev6, h⟩ := wp_g h
        refine r_iald hc ev6 dX7_reachOf_60 ?_
        refine r_goto hc (tgt := 65) dX7_reachOf_61 (by decide) ?_
        refine r_sub [0, 1, 3, 4] (lv' := [(0, .ref (ad x0)), (1, .int x1), (4, .int x4), (5, .int v.2)]) rfl ?_
        exact t_X7_reachOf_b65 hc h kn kx73
noncomputable def f_X7_reachOf_L15 (x0 : Nat) (x1 : Int32) (v : (Int32 × Int32)) (σ : Hp) : Option (((Int32 × Int32) ⊕ (Int32)) × Hp) := if v.1 = v.2 then (some (Sum.inr v.1, σ)) else (bO (wh (f_X7_reachOf_L27 x0 x1 v.1) (v.1, 0) σ) fun y1 σ2 => (some (Sum.inl (y1, v.1), σ2)))
set_option maxRecDepth 100000 in
set_option maxHeartbeats 4000000 in
theorem t_X7_reachOf_L15 {l : Launch} {γ : Gm} {ad : Nat → Nat} {K : Option Value → Hp → Prop}  (hc : Cx l γ 2 6 ad shM RX7 cX7_reachOf (some .int) K) {x0 : Nat} {x1 : Int32} {v : (Int32 × Int32)} {σ : Hp} {KX : (Int32) → Hp → Prop} (h : wpO (wh (f_X7_reachOf_L15 x0 x1) v σ) KX) (kx76 : ∀ (v : Int32) (σ : Hp), KX v σ → WW l γ 2 6 ad shM 76 [(3, .int v)] [] σ) : WW l γ 2 6 ad shM 15 [(0, .ref (ad x0)), (1, .int x1), (3, .int v.1), (4, .int v.2)] [] σ := by
  refine wh_W (P := fun v σ => WW l γ 2 6 ad shM 15 [(0, .ref (ad x0)), (1, .int x1), (3, .int v.1), (4, .int v.2)] [] σ) (fun v σ h => ?_) h
  have kn : ∀ (v : (Int32 × Int32)) (σ : Hp), WW l γ 2 6 ad shM 15 [(0, .ref (ad x0)), (1, .int x1), (3, .int v.1), (4, .int v.2)] [] σ → WW l γ 2 6 ad shM 15 [(0, .ref (ad x0)), (1, .int x1), (3, .int v.1), (4, .int v.2)] [] σ := fun _ _ h => h
  · unfold f_X7_reachOf_L15 at h
    refine r_iload_n hc 2 rfl rfl dX7_reachOf_15 ?_
    refine r_iload hc 3 rfl dX7_reachOf_16 ?_
    refine r_icmp_eq hc (tgt := 76) dX7_reachOf_18 (by decide) (fun c => ?_) (fun c => ?_)
    · have h := wp_t c h
      refine r_sub [2] (lv' := [(3, .int v.1)]) rfl ?_
      have h := wp_v h
      exact kx76 v.1 _ h
    · have h := wp_f c h
      refine r_iload_n hc 2 rfl rfl dX7_reachOf_21 ?_
      refine r_istoreE hc (i := 4) (lv' := [(4, .int v.1), (0, .ref (ad x0)), (1, .int x1), (3, .int v.1)]) rfl (by decide) rfl dX7_reachOf_22 ?_
      refine r_iconst hc (v := 0) (by decide) dX7_reachOf_24 ?_
      refine r_istoreE hc (i := 5) (lv' := [(5, .int 0), (4, .int v.1), (0, .ref (ad x0)), (1, .int x1), (3, .int v.1)]) rfl (by decide) rfl dX7_reachOf_25 ?_
      refine r_sub [2, 3, 4, 1, 0] (lv' := [(0, .ref (ad x0)), (1, .int x1), (3, .int v.1), (4, .int v.1), (5, .int 0)]) rfl ?_
      refine t_X7_reachOf_L27 hc (wp_bb h) ?_
      · intro y1 σ2 h
        refine r_goto hc (tgt := 15) dX7_reachOf_73 (by decide) ?_
        have h := wp_v h
        exact kn (y1, v.1) _ h
noncomputable def f_X7_reachOf (x0 : Nat) (x1 : Int32) (x2 : Int32) (σ : Hp) : Option (Int32 × Hp) := gO (getR shM 7 x0 1 σ) fun v1 => gO (aldI shM 0 v1 ((7 * x1) + x2) σ) fun v2 => bO (wh (f_X7_reachOf_L15 x0 x1) (v2, 0) σ) fun y3 σ4 => (some (y3, σ4))
set_option maxRecDepth 100000 in
set_option maxHeartbeats 4000000 in
theorem t_X7_reachOf {l : Launch} {γ : Gm} {ad : Nat → Nat} {K : Option Value → Hp → Prop} (hc : Cx l γ 2 6 ad shM RX7 cX7_reachOf (some .int) K) {x0 : Nat} {x1 : Int32} {x2 : Int32} {σ : Hp} (h : wpO (f_X7_reachOf x0 x1 x2 σ) (KI K)) : WW l γ 2 6 ad shM 0 [(0, .ref (ad x0)), (1, .int x1), (2, .int x2)] [] σ := by
  unfold f_X7_reachOf at h
  refine r_aload_n hc 0 rfl rfl dX7_reachOf_0 ?_
  obtain ⟨v1, ev1, h⟩ := wp_g h
  refine r_getR hc ev1 fl_X7_13 rfl dX7_reachOf_1 ?_
  refine r_bipush hc (v := 7) (by decide) dX7_reachOf_4 ?_
  refine r_iload_n hc 1 rfl rfl dX7_reachOf_6 ?_
  refine r_imul hc dX7_reachOf_7 ?_
  refine r_iload_n hc 2 rfl rfl dX7_reachOf_8 ?_
  refine r_iadd hc dX7_reachOf_9 ?_
  obtain ⟨v2, ev2, h⟩ := wp_g h
  refine r_iald hc ev2 dX7_reachOf_10 ?_
  refine r_istore_nE hc (i := 3) (lv' := [(3, .int v2), (0, .ref (ad x0)), (1, .int x1), (2, .int x2)]) rfl rfl (by decide) rfl dX7_reachOf_11 ?_
  refine r_iconst hc (v := 0) (by decide) dX7_reachOf_12 ?_
  refine r_istoreE hc (i := 4) (lv' := [(4, .int 0), (3, .int v2), (0, .ref (ad x0)), (1, .int x1), (2, .int x2)]) rfl (by decide) rfl dX7_reachOf_13 ?_
  refine r_sub [2, 3, 1, 0] (lv' := [(0, .ref (ad x0)), (1, .int x1), (3, .int v2), (4, .int 0)]) rfl ?_
  refine t_X7_reachOf_L15 hc (wp_bb h) ?_
  · intro y3 σ4 h
    refine r_iload_n hc 0 rfl rfl dX7_reachOf_76 ?_
    have h := wp_v h
    exact r_iret hc h dX7_reachOf_77
theorem c_X7_reachOf {l : Launch} {x0 : Nat} {x1 : Int32} {x2 : Int32} {σ σ' : Hp} {r : Int32} (h : f_X7_reachOf x0 x1 x2 σ = some (r, σ')) : Mt l yX7_reachOf cX7_reachOf 6 (some .int) 2 shM (fun ad => [.ref (ad x0), .int x1, .int x2]) σ (fun ad => some (.int r)) σ' := mt_i (own := RX7) (by decide) rfl (fun _ => Nat.le_of_ble_eq_true rfl) (fun γ ad K hc hk => t_X7_reachOf hc ⟨_, _, h, hk⟩)

-- NetMapsModel.pieces(I)I
theorem dX7_pieces_0 : decode cX7_pieces 0 = .ok (.iconst 1, 1) := by decide +kernel
theorem dX7_pieces_1 : decode cX7_pieces 1 = .ok (.aload_n 0, 1) := by decide +kernel
theorem dX7_pieces_2 : decode cX7_pieces 2 = .ok (.getfield 7, 3) := by decide +kernel
theorem dX7_pieces_5 : decode cX7_pieces 5 = .ok (.iload_n 1, 1) := by decide +kernel
theorem dX7_pieces_6 : decode cX7_pieces 6 = .ok (.iaload, 1) := by decide +kernel
theorem dX7_pieces_7 : decode cX7_pieces 7 = .ok (.ishl, 1) := by decide +kernel
theorem dX7_pieces_8 : decode cX7_pieces 8 = .ok (.iconst 1, 1) := by decide +kernel
theorem dX7_pieces_9 : decode cX7_pieces 9 = .ok (.isub, 1) := by decide +kernel
theorem dX7_pieces_10 : decode cX7_pieces 10 = .ok (.istore_n 2, 1) := by decide +kernel
theorem dX7_pieces_11 : decode cX7_pieces 11 = .ok (.iconst 0, 1) := by decide +kernel
theorem dX7_pieces_12 : decode cX7_pieces 12 = .ok (.istore_n 3, 1) := by decide +kernel
theorem dX7_pieces_13 : decode cX7_pieces 13 = .ok (.iload_n 2, 1) := by decide +kernel
theorem dX7_pieces_14 : decode cX7_pieces 14 = .ok (.ifCond .eq 104, 3) := by decide +kernel
theorem dX7_pieces_17 : decode cX7_pieces 17 = .ok (.iload_n 2, 1) := by decide +kernel
theorem dX7_pieces_18 : decode cX7_pieces 18 = .ok (.iload_n 2, 1) := by decide +kernel
theorem dX7_pieces_19 : decode cX7_pieces 19 = .ok (.ineg, 1) := by decide +kernel
theorem dX7_pieces_20 : decode cX7_pieces 20 = .ok (.iand, 1) := by decide +kernel
theorem dX7_pieces_21 : decode cX7_pieces 21 = .ok (.istore 4, 2) := by decide +kernel
theorem dX7_pieces_23 : decode cX7_pieces 23 = .ok (.iconst 0, 1) := by decide +kernel
theorem dX7_pieces_24 : decode cX7_pieces 24 = .ok (.istore 5, 2) := by decide +kernel
theorem dX7_pieces_26 : decode cX7_pieces 26 = .ok (.iload 4, 2) := by decide +kernel
theorem dX7_pieces_28 : decode cX7_pieces 28 = .ok (.iload 5, 2) := by decide +kernel
theorem dX7_pieces_30 : decode cX7_pieces 30 = .ok (.if_icmp .eq 74, 3) := by decide +kernel
theorem dX7_pieces_33 : decode cX7_pieces 33 = .ok (.iload 4, 2) := by decide +kernel
theorem dX7_pieces_35 : decode cX7_pieces 35 = .ok (.istore 5, 2) := by decide +kernel
theorem dX7_pieces_37 : decode cX7_pieces 37 = .ok (.iconst 0, 1) := by decide +kernel
theorem dX7_pieces_38 : decode cX7_pieces 38 = .ok (.istore 6, 2) := by decide +kernel
theorem dX7_pieces_40 : decode cX7_pieces 40 = .ok (.iload 6, 2) := by decide +kernel
theorem dX7_pieces_42 : decode cX7_pieces 42 = .ok (.aload_n 0, 1) := by decide +kernel
theorem dX7_pieces_43 : decode cX7_pieces 43 = .ok (.getfield 7, 3) := by decide +kernel
theorem dX7_pieces_46 : decode cX7_pieces 46 = .ok (.iload_n 1, 1) := by decide +kernel
theorem dX7_pieces_47 : decode cX7_pieces 47 = .ok (.iaload, 1) := by decide +kernel
theorem dX7_pieces_48 : decode cX7_pieces 48 = .ok (.if_icmp .ge 53, 3) := by decide +kernel
theorem dX7_pieces_51 : decode cX7_pieces 51 = .ok (.iload 4, 2) := by decide +kernel
theorem dX7_pieces_53 : decode cX7_pieces 53 = .ok (.iload 5, 2) := by decide +kernel
theorem dX7_pieces_55 : decode cX7_pieces 55 = .ok (.iload 6, 2) := by decide +kernel
theorem dX7_pieces_57 : decode cX7_pieces 57 = .ok (.invokestatic 89, 3) := by decide +kernel
theorem dX7_pieces_60 : decode cX7_pieces 60 = .ok (.ifCond .eq 31, 3) := by decide +kernel
theorem dX7_pieces_63 : decode cX7_pieces 63 = .ok (.aload_n 0, 1) := by decide +kernel
theorem dX7_pieces_64 : decode cX7_pieces 64 = .ok (.getfield 13, 3) := by decide +kernel
theorem dX7_pieces_67 : decode cX7_pieces 67 = .ok (.bipush 7, 2) := by decide +kernel
theorem dX7_pieces_69 : decode cX7_pieces 69 = .ok (.iload_n 1, 1) := by decide +kernel
theorem dX7_pieces_70 : decode cX7_pieces 70 = .ok (.imul, 1) := by decide +kernel
theorem dX7_pieces_71 : decode cX7_pieces 71 = .ok (.iload 6, 2) := by decide +kernel
theorem dX7_pieces_73 : decode cX7_pieces 73 = .ok (.iadd, 1) := by decide +kernel
theorem dX7_pieces_74 : decode cX7_pieces 74 = .ok (.iaload, 1) := by decide +kernel
theorem dX7_pieces_75 : decode cX7_pieces 75 = .ok (.aload_n 0, 1) := by decide +kernel
theorem dX7_pieces_76 : decode cX7_pieces 76 = .ok (.getfield 16, 3) := by decide +kernel
theorem dX7_pieces_79 : decode cX7_pieces 79 = .ok (.bipush 7, 2) := by decide +kernel
theorem dX7_pieces_81 : decode cX7_pieces 81 = .ok (.iload_n 1, 1) := by decide +kernel
theorem dX7_pieces_82 : decode cX7_pieces 82 = .ok (.imul, 1) := by decide +kernel
theorem dX7_pieces_83 : decode cX7_pieces 83 = .ok (.iload 6, 2) := by decide +kernel
theorem dX7_pieces_85 : decode cX7_pieces 85 = .ok (.iadd, 1) := by decide +kernel
theorem dX7_pieces_86 : decode cX7_pieces 86 = .ok (.iaload, 1) := by decide +kernel
theorem dX7_pieces_87 : decode cX7_pieces 87 = .ok (.ior, 1) := by decide +kernel
theorem dX7_pieces_88 : decode cX7_pieces 88 = .ok (.goto 4, 3) := by decide +kernel
theorem dX7_pieces_91 : decode cX7_pieces 91 = .ok (.iconst 0, 1) := by decide +kernel
theorem dX7_pieces_92 : decode cX7_pieces 92 = .ok (.ior, 1) := by decide +kernel
theorem dX7_pieces_93 : decode cX7_pieces 93 = .ok (.istore 4, 2) := by decide +kernel
theorem dX7_pieces_95 : decode cX7_pieces 95 = .ok (.iinc 6 1, 3) := by decide +kernel
theorem dX7_pieces_98 : decode cX7_pieces 98 = .ok (.goto (-58), 3) := by decide +kernel
theorem dX7_pieces_101 : decode cX7_pieces 101 = .ok (.goto (-75), 3) := by decide +kernel
theorem dX7_pieces_104 : decode cX7_pieces 104 = .ok (.iload_n 2, 1) := by decide +kernel
theorem dX7_pieces_105 : decode cX7_pieces 105 = .ok (.iload 4, 2) := by decide +kernel
theorem dX7_pieces_107 : decode cX7_pieces 107 = .ok (.iconst (-1), 1) := by decide +kernel
theorem dX7_pieces_108 : decode cX7_pieces 108 = .ok (.ixor, 1) := by decide +kernel
theorem dX7_pieces_109 : decode cX7_pieces 109 = .ok (.iand, 1) := by decide +kernel
theorem dX7_pieces_110 : decode cX7_pieces 110 = .ok (.istore_n 2, 1) := by decide +kernel
theorem dX7_pieces_111 : decode cX7_pieces 111 = .ok (.iload_n 3, 1) := by decide +kernel
theorem dX7_pieces_112 : decode cX7_pieces 112 = .ok (.iconst 1, 1) := by decide +kernel
theorem dX7_pieces_113 : decode cX7_pieces 113 = .ok (.iadd, 1) := by decide +kernel
theorem dX7_pieces_114 : decode cX7_pieces 114 = .ok (.istore_n 3, 1) := by decide +kernel
theorem dX7_pieces_115 : decode cX7_pieces 115 = .ok (.goto (-102), 3) := by decide +kernel
theorem dX7_pieces_118 : decode cX7_pieces 118 = .ok (.iload_n 3, 1) := by decide +kernel
theorem dX7_pieces_119 : decode cX7_pieces 119 = .ok (.ireturn, 1) := by decide +kernel
noncomputable def f_X7_pieces_b92 (x0 : Nat) (x1 : Int32) (x2 : Int32) (x3 : Int32) (x5 : Int32) (x6 : Int32) (s0 : Int32) (s1 : Int32) (σ : Hp) : Option (((Int32 × Int32) ⊕ (Int32)) × Hp) := some (Sum.inl ((s0 ||| s1), (x6 + 1)), σ)
set_option maxRecDepth 100000 in
set_option maxHeartbeats 4000000 in
theorem t_X7_pieces_b92 {l : Launch} {γ : Gm} {ad : Nat → Nat} {K : Option Value → Hp → Prop} (hc : Cx l γ 2 7 ad shM RX7 cX7_pieces (some .int) K) {x0 : Nat} {x1 : Int32} {x2 : Int32} {x3 : Int32} {x5 : Int32} {x6 : Int32} {s0 : Int32} {s1 : Int32}  {σ : Hp} {KL : ((Int32 × Int32) ⊕ (Int32)) → Hp → Prop} (h : wpO (f_X7_pieces_b92 x0 x1 x2 x3 x5 x6 s0 s1 σ) KL) (kn : ∀ (v : (Int32 × Int32)) (σ : Hp), KL (Sum.inl v) σ → WW l γ 2 7 ad shM 40 [(0, .ref (ad x0)), (1, .int x1), (2, .int x2), (3, .int x3), (4, .int v.1), (5, .int x5), (6, .int v.2)] [] σ) (kx101 : ∀ (v : Int32) (σ : Hp), KL (Sum.inr v) σ → WW l γ 2 7 ad shM 101 [(0, .ref (ad x0)), (1, .int x1), (2, .int x2), (3, .int x3), (4, .int v), (5, .int x5)] [] σ) : WW l γ 2 7 ad shM 92 [(0, .ref (ad x0)), (1, .int x1), (2, .int x2), (3, .int x3), (5, .int x5), (6, .int x6)] [.int s1, .int s0] σ := by
  unfold f_X7_pieces_b92 at h
  refine r_ior hc dX7_pieces_92 ?_
  refine r_istoreE hc (i := 4) (lv' := [(4, .int (s0 ||| s1)), (0, .ref (ad x0)), (1, .int x1), (2, .int x2), (3, .int x3), (5, .int x5), (6, .int x6)]) rfl (by decide) rfl dX7_pieces_93 ?_
  refine r_iincE hc (j := 6) (w := 1) (lv' := [(6, .int (x6 + 1)), (4, .int (s0 ||| s1)), (0, .ref (ad x0)), (1, .int x1), (2, .int x2), (3, .int x3), (5, .int x5)]) rfl (by decide) rfl (by decide) rfl dX7_pieces_95 ?_
  refine r_goto hc (tgt := 40) dX7_pieces_98 (by decide) ?_
  refine r_sub [2, 3, 4, 5, 1, 6, 0] (lv' := [(0, .ref (ad x0)), (1, .int x1), (2, .int x2), (3, .int x3), (4, .int (s0 ||| s1)), (5, .int x5), (6, .int (x6 + 1))]) rfl ?_
  have h := wp_v h
  exact kn ((s0 ||| s1), (x6 + 1)) _ h
noncomputable def f_X7_pieces_L40 (x0 : Nat) (x1 : Int32) (x2 : Int32) (x3 : Int32) (x5 : Int32) (v : (Int32 × Int32)) (σ : Hp) : Option (((Int32 × Int32) ⊕ (Int32)) × Hp) := gO (getR shM 7 x0 0 σ) fun v1 => gO (aldI shM 0 v1 x1 σ) fun v2 => if v2 ≤ v.2 then (some (Sum.inr v.1, σ)) else (bO (f_X7_has x5 v.2 σ) fun r3 σ4 => if r3 = 0 then (f_X7_pieces_b92 x0 x1 x2 x3 x5 v.2 v.1 0 σ4) else (gO (getR shM 7 x0 1 σ4) fun v5 => gO (aldI shM 0 v5 ((7 * x1) + v.2) σ4) fun v6 => gO (getR shM 7 x0 2 σ4) fun v7 => gO (aldI shM 0 v7 ((7 * x1) + v.2) σ4) fun v8 => f_X7_pieces_b92 x0 x1 x2 x3 x5 v.2 v.1 (v6 ||| v8) σ4))
set_option maxRecDepth 100000 in
set_option maxHeartbeats 4000000 in
theorem t_X7_pieces_L40 {l : Launch} {γ : Gm} {ad : Nat → Nat} {K : Option Value → Hp → Prop}  (hc : Cx l γ 2 7 ad shM RX7 cX7_pieces (some .int) K) {x0 : Nat} {x1 : Int32} {x2 : Int32} {x3 : Int32} {x5 : Int32} {v : (Int32 × Int32)} {σ : Hp} {KX : (Int32) → Hp → Prop} (h : wpO (wh (f_X7_pieces_L40 x0 x1 x2 x3 x5) v σ) KX) (kx101 : ∀ (v : Int32) (σ : Hp), KX v σ → WW l γ 2 7 ad shM 101 [(0, .ref (ad x0)), (1, .int x1), (2, .int x2), (3, .int x3), (4, .int v), (5, .int x5)] [] σ) : WW l γ 2 7 ad shM 40 [(0, .ref (ad x0)), (1, .int x1), (2, .int x2), (3, .int x3), (4, .int v.1), (5, .int x5), (6, .int v.2)] [] σ := by
  refine wh_W (P := fun v σ => WW l γ 2 7 ad shM 40 [(0, .ref (ad x0)), (1, .int x1), (2, .int x2), (3, .int x3), (4, .int v.1), (5, .int x5), (6, .int v.2)] [] σ) (fun v σ h => ?_) h
  have kn : ∀ (v : (Int32 × Int32)) (σ : Hp), WW l γ 2 7 ad shM 40 [(0, .ref (ad x0)), (1, .int x1), (2, .int x2), (3, .int x3), (4, .int v.1), (5, .int x5), (6, .int v.2)] [] σ → WW l γ 2 7 ad shM 40 [(0, .ref (ad x0)), (1, .int x1), (2, .int x2), (3, .int x3), (4, .int v.1), (5, .int x5), (6, .int v.2)] [] σ := fun _ _ h => h
  · unfold f_X7_pieces_L40 at h
    refine r_iload hc 6 rfl dX7_pieces_40 ?_
    refine r_aload_n hc 0 rfl rfl dX7_pieces_42 ?_
    obtain ⟨v1, ev1, h⟩ := wp_g h
    refine r_getR hc ev1 fl_X7_7 rfl dX7_pieces_43 ?_
    refine r_iload_n hc 1 rfl rfl dX7_pieces_46 ?_
    obtain ⟨v2, ev2, h⟩ := wp_g h
    refine r_iald hc ev2 dX7_pieces_47 ?_
    refine r_icmp_ge hc (tgt := 101) dX7_pieces_48 (by decide) (fun c => ?_) (fun c => ?_)
    · have h := wp_t c h
      refine r_sub [0, 1, 2, 3, 4, 5] (lv' := [(0, .ref (ad x0)), (1, .int x1), (2, .int x2), (3, .int x3), (4, .int v.1), (5, .int x5)]) rfl ?_
      have h := wp_v h
      exact kx101 v.1 _ h
    · have h := wp_f c h
      refine r_iload hc 4 rfl dX7_pieces_51 ?_
      refine r_iload hc 5 rfl dX7_pieces_53 ?_
      refine r_iload hc 6 rfl dX7_pieces_55 ?_
      obtain ⟨r3, σ4, er3, h⟩ := wp_b h
      refine r_callS hc ms_X7_has ml_X7_89 (c_X7_has er3) rfl rfl (by decide) rfl (Nat.le_of_ble_eq_true rfl) dX7_pieces_57 ?_
      refine r_if_eq hc (tgt := 91) dX7_pieces_60 (by decide) (fun c => ?_) (fun c => ?_)
      · have h := wp_t c h
        refine r_iconst hc (v := 0) (by decide) dX7_pieces_91 ?_
        refine r_sub [0, 1, 2, 3, 5, 6] (lv' := [(0, .ref (ad x0)), (1, .int x1), (2, .int x2), (3, .int x3), (5, .int x5), (6, .int v.2)]) rfl ?_
        exact t_X7_pieces_b92 hc h kn kx101
      · have h := wp_f c h
        refine r_aload_n hc 0 rfl rfl dX7_pieces_63 ?_
        obtain ⟨v5, ev5, h⟩ := wp_g h
        refine r_getR hc ev5 fl_X7_13 rfl dX7_pieces_64 ?_
        refine r_bipush hc (v := 7) (by decide) dX7_pieces_67 ?_
        refine r_iload_n hc 1 rfl rfl dX7_pieces_69 ?_
        refine r_imul hc dX7_pieces_70 ?_
        refine r_iload hc 6 rfl dX7_pieces_71 ?_
        refine r_iadd hc dX7_pieces_73 ?_
        obtain ⟨v6, ev6, h⟩ := wp_g h
        refine r_iald hc ev6 dX7_pieces_74 ?_
        refine r_aload_n hc 0 rfl rfl dX7_pieces_75 ?_
        obtain ⟨v7, ev7, h⟩ := wp_g h
        refine r_getR hc ev7 fl_X7_16 rfl dX7_pieces_76 ?_
        refine r_bipush hc (v := 7) (by decide) dX7_pieces_79 ?_
        refine r_iload_n hc 1 rfl rfl dX7_pieces_81 ?_
        refine r_imul hc dX7_pieces_82 ?_
        refine r_iload hc 6 rfl dX7_pieces_83 ?_
        refine r_iadd hc dX7_pieces_85 ?_
        obtain ⟨v8, ev8, h⟩ := wp_g h
        refine r_iald hc ev8 dX7_pieces_86 ?_
        refine r_ior hc dX7_pieces_87 ?_
        refine r_goto hc (tgt := 92) dX7_pieces_88 (by decide) ?_
        refine r_sub [0, 1, 2, 3, 5, 6] (lv' := [(0, .ref (ad x0)), (1, .int x1), (2, .int x2), (3, .int x3), (5, .int x5), (6, .int v.2)]) rfl ?_
        exact t_X7_pieces_b92 hc h kn kx101
noncomputable def f_X7_pieces_L26 (x0 : Nat) (x1 : Int32) (x2 : Int32) (x3 : Int32) (v : (Int32 × Int32)) (σ : Hp) : Option (((Int32 × Int32) ⊕ (Int32)) × Hp) := if v.1 = v.2 then (some (Sum.inr v.1, σ)) else (bO (wh (f_X7_pieces_L40 x0 x1 x2 x3 v.1) (v.1, 0) σ) fun y1 σ2 => (some (Sum.inl (y1, v.1), σ2)))
set_option maxRecDepth 100000 in
set_option maxHeartbeats 4000000 in
theorem t_X7_pieces_L26 {l : Launch} {γ : Gm} {ad : Nat → Nat} {K : Option Value → Hp → Prop}  (hc : Cx l γ 2 7 ad shM RX7 cX7_pieces (some .int) K) {x0 : Nat} {x1 : Int32} {x2 : Int32} {x3 : Int32} {v : (Int32 × Int32)} {σ : Hp} {KX : (Int32) → Hp → Prop} (h : wpO (wh (f_X7_pieces_L26 x0 x1 x2 x3) v σ) KX) (kx104 : ∀ (v : Int32) (σ : Hp), KX v σ → WW l γ 2 7 ad shM 104 [(0, .ref (ad x0)), (1, .int x1), (2, .int x2), (3, .int x3), (4, .int v)] [] σ) : WW l γ 2 7 ad shM 26 [(0, .ref (ad x0)), (1, .int x1), (2, .int x2), (3, .int x3), (4, .int v.1), (5, .int v.2)] [] σ := by
  refine wh_W (P := fun v σ => WW l γ 2 7 ad shM 26 [(0, .ref (ad x0)), (1, .int x1), (2, .int x2), (3, .int x3), (4, .int v.1), (5, .int v.2)] [] σ) (fun v σ h => ?_) h
  have kn : ∀ (v : (Int32 × Int32)) (σ : Hp), WW l γ 2 7 ad shM 26 [(0, .ref (ad x0)), (1, .int x1), (2, .int x2), (3, .int x3), (4, .int v.1), (5, .int v.2)] [] σ → WW l γ 2 7 ad shM 26 [(0, .ref (ad x0)), (1, .int x1), (2, .int x2), (3, .int x3), (4, .int v.1), (5, .int v.2)] [] σ := fun _ _ h => h
  · unfold f_X7_pieces_L26 at h
    refine r_iload hc 4 rfl dX7_pieces_26 ?_
    refine r_iload hc 5 rfl dX7_pieces_28 ?_
    refine r_icmp_eq hc (tgt := 104) dX7_pieces_30 (by decide) (fun c => ?_) (fun c => ?_)
    · have h := wp_t c h
      refine r_sub [0, 1, 2, 3, 4] (lv' := [(0, .ref (ad x0)), (1, .int x1), (2, .int x2), (3, .int x3), (4, .int v.1)]) rfl ?_
      have h := wp_v h
      exact kx104 v.1 _ h
    · have h := wp_f c h
      refine r_iload hc 4 rfl dX7_pieces_33 ?_
      refine r_istoreE hc (i := 5) (lv' := [(5, .int v.1), (0, .ref (ad x0)), (1, .int x1), (2, .int x2), (3, .int x3), (4, .int v.1)]) rfl (by decide) rfl dX7_pieces_35 ?_
      refine r_iconst hc (v := 0) (by decide) dX7_pieces_37 ?_
      refine r_istoreE hc (i := 6) (lv' := [(6, .int 0), (5, .int v.1), (0, .ref (ad x0)), (1, .int x1), (2, .int x2), (3, .int x3), (4, .int v.1)]) rfl (by decide) rfl dX7_pieces_38 ?_
      refine r_sub [2, 3, 4, 5, 6, 1, 0] (lv' := [(0, .ref (ad x0)), (1, .int x1), (2, .int x2), (3, .int x3), (4, .int v.1), (5, .int v.1), (6, .int 0)]) rfl ?_
      refine t_X7_pieces_L40 hc (wp_bb h) ?_
      · intro y1 σ2 h
        refine r_goto hc (tgt := 26) dX7_pieces_101 (by decide) ?_
        have h := wp_v h
        exact kn (y1, v.1) _ h
noncomputable def f_X7_pieces_L13 (x0 : Nat) (x1 : Int32) (v : (Int32 × Int32)) (σ : Hp) : Option (((Int32 × Int32) ⊕ (Int32)) × Hp) := if v.1 = 0 then (some (Sum.inr v.2, σ)) else (bO (wh (f_X7_pieces_L26 x0 x1 v.1 v.2) ((v.1 &&& (-v.1)), 0) σ) fun y1 σ2 => (some (Sum.inl ((v.1 &&& (y1 ^^^ (-1))), (v.2 + 1)), σ2)))
set_option maxRecDepth 100000 in
set_option maxHeartbeats 4000000 in
theorem t_X7_pieces_L13 {l : Launch} {γ : Gm} {ad : Nat → Nat} {K : Option Value → Hp → Prop}  (hc : Cx l γ 2 7 ad shM RX7 cX7_pieces (some .int) K) {x0 : Nat} {x1 : Int32} {v : (Int32 × Int32)} {σ : Hp} {KX : (Int32) → Hp → Prop} (h : wpO (wh (f_X7_pieces_L13 x0 x1) v σ) KX) (kx118 : ∀ (v : Int32) (σ : Hp), KX v σ → WW l γ 2 7 ad shM 118 [(3, .int v)] [] σ) : WW l γ 2 7 ad shM 13 [(0, .ref (ad x0)), (1, .int x1), (2, .int v.1), (3, .int v.2)] [] σ := by
  refine wh_W (P := fun v σ => WW l γ 2 7 ad shM 13 [(0, .ref (ad x0)), (1, .int x1), (2, .int v.1), (3, .int v.2)] [] σ) (fun v σ h => ?_) h
  have kn : ∀ (v : (Int32 × Int32)) (σ : Hp), WW l γ 2 7 ad shM 13 [(0, .ref (ad x0)), (1, .int x1), (2, .int v.1), (3, .int v.2)] [] σ → WW l γ 2 7 ad shM 13 [(0, .ref (ad x0)), (1, .int x1), (2, .int v.1), (3, .int v.2)] [] σ := fun _ _ h => h
  · unfold f_X7_pieces_L13 at h
    refine r_iload_n hc 2 rfl rfl dX7_pieces_13 ?_
    refine r_if_eq hc (tgt := 118) dX7_pieces_14 (by decide) (fun c => ?_) (fun c => ?_)
    · have h := wp_t c h
      refine r_sub [3] (lv' := [(3, .int v.2)]) rfl ?_
      have h := wp_v h
      exact kx118 v.2 _ h
    · have h := wp_f c h
      refine r_iload_n hc 2 rfl rfl dX7_pieces_17 ?_
      refine r_iload_n hc 2 rfl rfl dX7_pieces_18 ?_
      refine r_ineg hc dX7_pieces_19 ?_
      refine r_iand hc dX7_pieces_20 ?_
      refine r_istoreE hc (i := 4) (lv' := [(4, .int (v.1 &&& (-v.1))), (0, .ref (ad x0)), (1, .int x1), (2, .int v.1), (3, .int v.2)]) rfl (by decide) rfl dX7_pieces_21 ?_
      refine r_iconst hc (v := 0) (by decide) dX7_pieces_23 ?_
      refine r_istoreE hc (i := 5) (lv' := [(5, .int 0), (4, .int (v.1 &&& (-v.1))), (0, .ref (ad x0)), (1, .int x1), (2, .int v.1), (3, .int v.2)]) rfl (by decide) rfl dX7_pieces_24 ?_
      refine r_sub [2, 3, 4, 5, 1, 0] (lv' := [(0, .ref (ad x0)), (1, .int x1), (2, .int v.1), (3, .int v.2), (4, .int (v.1 &&& (-v.1))), (5, .int 0)]) rfl ?_
      refine t_X7_pieces_L26 hc (wp_bb h) ?_
      · intro y1 σ2 h
        refine r_iload_n hc 2 rfl rfl dX7_pieces_104 ?_
        refine r_iload hc 4 rfl dX7_pieces_105 ?_
        refine r_iconst hc (v := (-1)) (by decide) dX7_pieces_107 ?_
        refine r_ixor hc dX7_pieces_108 ?_
        refine r_iand hc dX7_pieces_109 ?_
        refine r_istore_nE hc (i := 2) (lv' := [(2, .int (v.1 &&& (y1 ^^^ (-1)))), (0, .ref (ad x0)), (1, .int x1), (3, .int v.2), (4, .int y1)]) rfl rfl (by decide) rfl dX7_pieces_110 ?_
        refine r_iload_n hc 3 rfl rfl dX7_pieces_111 ?_
        refine r_iconst hc (v := 1) (by decide) dX7_pieces_112 ?_
        refine r_iadd hc dX7_pieces_113 ?_
        refine r_istore_nE hc (i := 3) (lv' := [(3, .int (v.2 + 1)), (2, .int (v.1 &&& (y1 ^^^ (-1)))), (0, .ref (ad x0)), (1, .int x1), (4, .int y1)]) rfl rfl (by decide) rfl dX7_pieces_114 ?_
        refine r_goto hc (tgt := 13) dX7_pieces_115 (by decide) ?_
        refine r_sub [2, 3, 1, 0] (lv' := [(0, .ref (ad x0)), (1, .int x1), (2, .int (v.1 &&& (y1 ^^^ (-1)))), (3, .int (v.2 + 1))]) rfl ?_
        have h := wp_v h
        exact kn ((v.1 &&& (y1 ^^^ (-1))), (v.2 + 1)) _ h
noncomputable def f_X7_pieces (x0 : Nat) (x1 : Int32) (σ : Hp) : Option (Int32 × Hp) := gO (getR shM 7 x0 0 σ) fun v1 => gO (aldI shM 0 v1 x1 σ) fun v2 => lt' ((((1 : Int32) <<< (v2 &&& 31)) - 1)) fun t3 => bO (wh (f_X7_pieces_L13 x0 x1) (t3, 0) σ) fun y4 σ5 => (some (y4, σ5))
set_option maxRecDepth 100000 in
set_option maxHeartbeats 4000000 in
theorem t_X7_pieces {l : Launch} {γ : Gm} {ad : Nat → Nat} {K : Option Value → Hp → Prop} (hc : Cx l γ 2 7 ad shM RX7 cX7_pieces (some .int) K) {x0 : Nat} {x1 : Int32} {σ : Hp} (h : wpO (f_X7_pieces x0 x1 σ) (KI K)) : WW l γ 2 7 ad shM 0 [(0, .ref (ad x0)), (1, .int x1)] [] σ := by
  unfold f_X7_pieces at h
  refine r_iconst hc (v := 1) (by decide) dX7_pieces_0 ?_
  refine r_aload_n hc 0 rfl rfl dX7_pieces_1 ?_
  obtain ⟨v1, ev1, h⟩ := wp_g h
  refine r_getR hc ev1 fl_X7_7 rfl dX7_pieces_2 ?_
  refine r_iload_n hc 1 rfl rfl dX7_pieces_5 ?_
  obtain ⟨v2, ev2, h⟩ := wp_g h
  refine r_iald hc ev2 dX7_pieces_6 ?_
  refine r_ishl hc dX7_pieces_7 ?_
  refine r_iconst hc (v := 1) (by decide) dX7_pieces_8 ?_
  refine r_isub hc dX7_pieces_9 ?_
  obtain ⟨t3, et3, h⟩ := wp_l h
  refine r_istore_nE hc (i := 2) (lv' := [(2, .int t3), (0, .ref (ad x0)), (1, .int x1)]) et3 rfl (by decide) rfl dX7_pieces_10 ?_
  refine r_iconst hc (v := 0) (by decide) dX7_pieces_11 ?_
  refine r_istore_nE hc (i := 3) (lv' := [(3, .int 0), (2, .int t3), (0, .ref (ad x0)), (1, .int x1)]) rfl rfl (by decide) rfl dX7_pieces_12 ?_
  refine r_sub [2, 3, 1, 0] (lv' := [(0, .ref (ad x0)), (1, .int x1), (2, .int t3), (3, .int 0)]) rfl ?_
  refine t_X7_pieces_L13 hc (wp_bb h) ?_
  · intro y4 σ5 h
    refine r_iload_n hc 0 rfl rfl dX7_pieces_118 ?_
    have h := wp_v h
    exact r_iret hc h dX7_pieces_119
theorem c_X7_pieces {l : Launch} {x0 : Nat} {x1 : Int32} {σ σ' : Hp} {r : Int32} (h : f_X7_pieces x0 x1 σ = some (r, σ')) : Mt l yX7_pieces cX7_pieces 7 (some .int) 2 shM (fun ad => [.ref (ad x0), .int x1]) σ (fun ad => some (.int r)) σ' := mt_i (own := RX7) (by decide) rfl (fun _ => Nat.le_of_ble_eq_true rfl) (fun γ ad K hc hk => t_X7_pieces hc ⟨_, _, h, hk⟩)

-- NetMapsModel.isTwoWay(I)Z
theorem dX7_isTwoWay_0 : decode cX7_isTwoWay 0 = .ok (.iconst 1, 1) := by decide +kernel
theorem dX7_isTwoWay_1 : decode cX7_isTwoWay 1 = .ok (.istore_n 2, 1) := by decide +kernel
theorem dX7_isTwoWay_2 : decode cX7_isTwoWay 2 = .ok (.iconst 0, 1) := by decide +kernel
theorem dX7_isTwoWay_3 : decode cX7_isTwoWay 3 = .ok (.istore_n 3, 1) := by decide +kernel
theorem dX7_isTwoWay_4 : decode cX7_isTwoWay 4 = .ok (.iload_n 3, 1) := by decide +kernel
theorem dX7_isTwoWay_5 : decode cX7_isTwoWay 5 = .ok (.aload_n 0, 1) := by decide +kernel
theorem dX7_isTwoWay_6 : decode cX7_isTwoWay 6 = .ok (.getfield 7, 3) := by decide +kernel
theorem dX7_isTwoWay_9 : decode cX7_isTwoWay 9 = .ok (.iload_n 1, 1) := by decide +kernel
theorem dX7_isTwoWay_10 : decode cX7_isTwoWay 10 = .ok (.iaload, 1) := by decide +kernel
theorem dX7_isTwoWay_11 : decode cX7_isTwoWay 11 = .ok (.if_icmp .ge 44, 3) := by decide +kernel
theorem dX7_isTwoWay_14 : decode cX7_isTwoWay 14 = .ok (.iload_n 2, 1) := by decide +kernel
theorem dX7_isTwoWay_15 : decode cX7_isTwoWay 15 = .ok (.ifCond .eq 32, 3) := by decide +kernel
theorem dX7_isTwoWay_18 : decode cX7_isTwoWay 18 = .ok (.aload_n 0, 1) := by decide +kernel
theorem dX7_isTwoWay_19 : decode cX7_isTwoWay 19 = .ok (.getfield 13, 3) := by decide +kernel
theorem dX7_isTwoWay_22 : decode cX7_isTwoWay 22 = .ok (.bipush 7, 2) := by decide +kernel
theorem dX7_isTwoWay_24 : decode cX7_isTwoWay 24 = .ok (.iload_n 1, 1) := by decide +kernel
theorem dX7_isTwoWay_25 : decode cX7_isTwoWay 25 = .ok (.imul, 1) := by decide +kernel
theorem dX7_isTwoWay_26 : decode cX7_isTwoWay 26 = .ok (.iload_n 3, 1) := by decide +kernel
theorem dX7_isTwoWay_27 : decode cX7_isTwoWay 27 = .ok (.iadd, 1) := by decide +kernel
theorem dX7_isTwoWay_28 : decode cX7_isTwoWay 28 = .ok (.iaload, 1) := by decide +kernel
theorem dX7_isTwoWay_29 : decode cX7_isTwoWay 29 = .ok (.aload_n 0, 1) := by decide +kernel
theorem dX7_isTwoWay_30 : decode cX7_isTwoWay 30 = .ok (.getfield 16, 3) := by decide +kernel
theorem dX7_isTwoWay_33 : decode cX7_isTwoWay 33 = .ok (.bipush 7, 2) := by decide +kernel
theorem dX7_isTwoWay_35 : decode cX7_isTwoWay 35 = .ok (.iload_n 1, 1) := by decide +kernel
theorem dX7_isTwoWay_36 : decode cX7_isTwoWay 36 = .ok (.imul, 1) := by decide +kernel
theorem dX7_isTwoWay_37 : decode cX7_isTwoWay 37 = .ok (.iload_n 3, 1) := by decide +kernel
theorem dX7_isTwoWay_38 : decode cX7_isTwoWay 38 = .ok (.iadd, 1) := by decide +kernel
theorem dX7_isTwoWay_39 : decode cX7_isTwoWay 39 = .ok (.iaload, 1) := by decide +kernel
theorem dX7_isTwoWay_40 : decode cX7_isTwoWay 40 = .ok (.if_icmp .ne 7, 3) := by decide +kernel
theorem dX7_isTwoWay_43 : decode cX7_isTwoWay 43 = .ok (.iconst 1, 1) := by decide +kernel
theorem dX7_isTwoWay_44 : decode cX7_isTwoWay 44 = .ok (.goto 4, 3) := by decide +kernel
theorem dX7_isTwoWay_47 : decode cX7_isTwoWay 47 = .ok (.iconst 0, 1) := by decide +kernel
theorem dX7_isTwoWay_48 : decode cX7_isTwoWay 48 = .ok (.istore_n 2, 1) := by decide +kernel
theorem dX7_isTwoWay_49 : decode cX7_isTwoWay 49 = .ok (.iinc 3 1, 3) := by decide +kernel
theorem dX7_isTwoWay_52 : decode cX7_isTwoWay 52 = .ok (.goto (-48), 3) := by decide +kernel
theorem dX7_isTwoWay_55 : decode cX7_isTwoWay 55 = .ok (.iload_n 2, 1) := by decide +kernel
theorem dX7_isTwoWay_56 : decode cX7_isTwoWay 56 = .ok (.ireturn, 1) := by decide +kernel
noncomputable def f_X7_isTwoWay_b48 (x0 : Nat) (x1 : Int32) (x3 : Int32) (s0 : Int32) (σ : Hp) : Option (((Int32 × Int32) ⊕ (Int32)) × Hp) := some (Sum.inl (s0, (x3 + 1)), σ)
set_option maxRecDepth 100000 in
set_option maxHeartbeats 4000000 in
theorem t_X7_isTwoWay_b48 {l : Launch} {γ : Gm} {ad : Nat → Nat} {K : Option Value → Hp → Prop} (hc : Cx l γ 1 4 ad shM RX7 cX7_isTwoWay (some .boolean) K) {x0 : Nat} {x1 : Int32} {x3 : Int32} {s0 : Int32}  {σ : Hp} {KL : ((Int32 × Int32) ⊕ (Int32)) → Hp → Prop} (h : wpO (f_X7_isTwoWay_b48 x0 x1 x3 s0 σ) KL) (kn : ∀ (v : (Int32 × Int32)) (σ : Hp), KL (Sum.inl v) σ → WW l γ 1 4 ad shM 4 [(0, .ref (ad x0)), (1, .int x1), (2, .int v.1), (3, .int v.2)] [] σ) (kx55 : ∀ (v : Int32) (σ : Hp), KL (Sum.inr v) σ → WW l γ 1 4 ad shM 55 [(2, .int v)] [] σ) : WW l γ 1 4 ad shM 48 [(0, .ref (ad x0)), (1, .int x1), (3, .int x3)] [.int s0] σ := by
  unfold f_X7_isTwoWay_b48 at h
  refine r_istore_nE hc (i := 2) (lv' := [(2, .int s0), (0, .ref (ad x0)), (1, .int x1), (3, .int x3)]) rfl rfl (by decide) rfl dX7_isTwoWay_48 ?_
  refine r_iincE hc (j := 3) (w := 1) (lv' := [(3, .int (x3 + 1)), (2, .int s0), (0, .ref (ad x0)), (1, .int x1)]) rfl (by decide) rfl (by decide) rfl dX7_isTwoWay_49 ?_
  refine r_goto hc (tgt := 4) dX7_isTwoWay_52 (by decide) ?_
  refine r_sub [2, 3, 1, 0] (lv' := [(0, .ref (ad x0)), (1, .int x1), (2, .int s0), (3, .int (x3 + 1))]) rfl ?_
  have h := wp_v h
  exact kn (s0, (x3 + 1)) _ h
noncomputable def f_X7_isTwoWay_b47 (x0 : Nat) (x1 : Int32) (x3 : Int32) (σ : Hp) : Option (((Int32 × Int32) ⊕ (Int32)) × Hp) := f_X7_isTwoWay_b48 x0 x1 x3 0 σ
set_option maxRecDepth 100000 in
set_option maxHeartbeats 4000000 in
theorem t_X7_isTwoWay_b47 {l : Launch} {γ : Gm} {ad : Nat → Nat} {K : Option Value → Hp → Prop} (hc : Cx l γ 1 4 ad shM RX7 cX7_isTwoWay (some .boolean) K) {x0 : Nat} {x1 : Int32} {x3 : Int32}  {σ : Hp} {KL : ((Int32 × Int32) ⊕ (Int32)) → Hp → Prop} (h : wpO (f_X7_isTwoWay_b47 x0 x1 x3 σ) KL) (kn : ∀ (v : (Int32 × Int32)) (σ : Hp), KL (Sum.inl v) σ → WW l γ 1 4 ad shM 4 [(0, .ref (ad x0)), (1, .int x1), (2, .int v.1), (3, .int v.2)] [] σ) (kx55 : ∀ (v : Int32) (σ : Hp), KL (Sum.inr v) σ → WW l γ 1 4 ad shM 55 [(2, .int v)] [] σ) : WW l γ 1 4 ad shM 47 [(0, .ref (ad x0)), (1, .int x1), (3, .int x3)] [] σ := by
  unfold f_X7_isTwoWay_b47 at h
  refine r_iconst hc (v := 0) (by decide) dX7_isTwoWay_47 ?_
  exact t_X7_isTwoWay_b48 hc h kn kx55
noncomputable def f_X7_isTwoWay_L4 (x0 : Nat) (x1 : Int32) (v : (Int32 × Int32)) (σ : Hp) : Option (((Int32 × Int32) ⊕ (Int32)) × Hp) := gO (getR shM 7 x0 0 σ) fun v1 => gO (aldI shM 0 v1 x1 σ) fun v2 => if v2 ≤ v.2 then (some (Sum.inr v.1, σ)) else (if v.1 = 0 then (f_X7_isTwoWay_b47 x0 x1 v.2 σ) else (gO (getR shM 7 x0 1 σ) fun v3 => gO (aldI shM 0 v3 ((7 * x1) + v.2) σ) fun v4 => gO (getR shM 7 x0 2 σ) fun v5 => gO (aldI shM 0 v5 ((7 * x1) + v.2) σ) fun v6 => if v4 = v6 then (f_X7_isTwoWay_b48 x0 x1 v.2 1 σ) else (f_X7_isTwoWay_b47 x0 x1 v.2 σ)))
set_option maxRecDepth 100000 in
set_option maxHeartbeats 4000000 in
theorem t_X7_isTwoWay_L4 {l : Launch} {γ : Gm} {ad : Nat → Nat} {K : Option Value → Hp → Prop}  (hc : Cx l γ 1 4 ad shM RX7 cX7_isTwoWay (some .boolean) K) {x0 : Nat} {x1 : Int32} {v : (Int32 × Int32)} {σ : Hp} {KX : (Int32) → Hp → Prop} (h : wpO (wh (f_X7_isTwoWay_L4 x0 x1) v σ) KX) (kx55 : ∀ (v : Int32) (σ : Hp), KX v σ → WW l γ 1 4 ad shM 55 [(2, .int v)] [] σ) : WW l γ 1 4 ad shM 4 [(0, .ref (ad x0)), (1, .int x1), (2, .int v.1), (3, .int v.2)] [] σ := by
  refine wh_W (P := fun v σ => WW l γ 1 4 ad shM 4 [(0, .ref (ad x0)), (1, .int x1), (2, .int v.1), (3, .int v.2)] [] σ) (fun v σ h => ?_) h
  have kn : ∀ (v : (Int32 × Int32)) (σ : Hp), WW l γ 1 4 ad shM 4 [(0, .ref (ad x0)), (1, .int x1), (2, .int v.1), (3, .int v.2)] [] σ → WW l γ 1 4 ad shM 4 [(0, .ref (ad x0)), (1, .int x1), (2, .int v.1), (3, .int v.2)] [] σ := fun _ _ h => h
  · unfold f_X7_isTwoWay_L4 at h
    refine r_iload_n hc 3 rfl rfl dX7_isTwoWay_4 ?_
    refine r_aload_n hc 0 rfl rfl dX7_isTwoWay_5 ?_
    obtain ⟨v1, ev1, h⟩ := wp_g h
    refine r_getR hc ev1 fl_X7_7 rfl dX7_isTwoWay_6 ?_
    refine r_iload_n hc 1 rfl rfl dX7_isTwoWay_9 ?_
    obtain ⟨v2, ev2, h⟩ := wp_g h
    refine r_iald hc ev2 dX7_isTwoWay_10 ?_
    refine r_icmp_ge hc (tgt := 55) dX7_isTwoWay_11 (by decide) (fun c => ?_) (fun c => ?_)
    · have h := wp_t c h
      refine r_sub [2] (lv' := [(2, .int v.1)]) rfl ?_
      have h := wp_v h
      exact kx55 v.1 _ h
    · have h := wp_f c h
      refine r_iload_n hc 2 rfl rfl dX7_isTwoWay_14 ?_
      refine r_if_eq hc (tgt := 47) dX7_isTwoWay_15 (by decide) (fun c => ?_) (fun c => ?_)
      · have h := wp_t c h
        refine r_sub [0, 1, 3] (lv' := [(0, .ref (ad x0)), (1, .int x1), (3, .int v.2)]) rfl ?_
        exact t_X7_isTwoWay_b47 hc h kn kx55
      · have h := wp_f c h
        refine r_aload_n hc 0 rfl rfl dX7_isTwoWay_18 ?_
        obtain ⟨v3, ev3, h⟩ := wp_g h
        refine r_getR hc ev3 fl_X7_13 rfl dX7_isTwoWay_19 ?_
        refine r_bipush hc (v := 7) (by decide) dX7_isTwoWay_22 ?_
        refine r_iload_n hc 1 rfl rfl dX7_isTwoWay_24 ?_
        refine r_imul hc dX7_isTwoWay_25 ?_
        refine r_iload_n hc 3 rfl rfl dX7_isTwoWay_26 ?_
        refine r_iadd hc dX7_isTwoWay_27 ?_
        obtain ⟨v4, ev4, h⟩ := wp_g h
        refine r_iald hc ev4 dX7_isTwoWay_28 ?_
        refine r_aload_n hc 0 rfl rfl dX7_isTwoWay_29 ?_
        obtain ⟨v5, ev5, h⟩ := wp_g h
        refine r_getR hc ev5 fl_X7_16 rfl dX7_isTwoWay_30 ?_
        refine r_bipush hc (v := 7) (by decide) dX7_isTwoWay_33 ?_
        refine r_iload_n hc 1 rfl rfl dX7_isTwoWay_35 ?_
        refine r_imul hc dX7_isTwoWay_36 ?_
        refine r_iload_n hc 3 rfl rfl dX7_isTwoWay_37 ?_
        refine r_iadd hc dX7_isTwoWay_38 ?_
        obtain ⟨v6, ev6, h⟩ := wp_g h
        refine r_iald hc ev6 dX7_isTwoWay_39 ?_
        refine r_icmp_ne hc (tgt := 47) dX7_isTwoWay_40 (by decide) (fun c => ?_) (fun c => ?_)
        · have h := wp_f c h
          refine r_sub [0, 1, 3] (lv' := [(0, .ref (ad x0)), (1, .int x1), (3, .int v.2)]) rfl ?_
          exact t_X7_isTwoWay_b47 hc h kn kx55
        · have h := wp_t c h
          refine r_iconst hc (v := 1) (by decide) dX7_isTwoWay_43 ?_
          refine r_goto hc (tgt := 48) dX7_isTwoWay_44 (by decide) ?_
          refine r_sub [0, 1, 3] (lv' := [(0, .ref (ad x0)), (1, .int x1), (3, .int v.2)]) rfl ?_
          exact t_X7_isTwoWay_b48 hc h kn kx55
noncomputable def f_X7_isTwoWay (x0 : Nat) (x1 : Int32) (σ : Hp) : Option (Int32 × Hp) := bO (wh (f_X7_isTwoWay_L4 x0 x1) (1, 0) σ) fun y1 σ2 => (gO (zz y1) fun _ => some (y1, σ2))
set_option maxRecDepth 100000 in
set_option maxHeartbeats 4000000 in
theorem t_X7_isTwoWay {l : Launch} {γ : Gm} {ad : Nat → Nat} {K : Option Value → Hp → Prop} (hc : Cx l γ 1 4 ad shM RX7 cX7_isTwoWay (some .boolean) K) {x0 : Nat} {x1 : Int32} {σ : Hp} (h : wpO (f_X7_isTwoWay x0 x1 σ) (KI K)) : WW l γ 1 4 ad shM 0 [(0, .ref (ad x0)), (1, .int x1)] [] σ := by
  unfold f_X7_isTwoWay at h
  refine r_iconst hc (v := 1) (by decide) dX7_isTwoWay_0 ?_
  refine r_istore_nE hc (i := 2) (lv' := [(2, .int 1), (0, .ref (ad x0)), (1, .int x1)]) rfl rfl (by decide) rfl dX7_isTwoWay_1 ?_
  refine r_iconst hc (v := 0) (by decide) dX7_isTwoWay_2 ?_
  refine r_istore_nE hc (i := 3) (lv' := [(3, .int 0), (2, .int 1), (0, .ref (ad x0)), (1, .int x1)]) rfl rfl (by decide) rfl dX7_isTwoWay_3 ?_
  refine r_sub [2, 3, 1, 0] (lv' := [(0, .ref (ad x0)), (1, .int x1), (2, .int 1), (3, .int 0)]) rfl ?_
  refine t_X7_isTwoWay_L4 hc (wp_bb h) ?_
  · intro y1 σ2 h
    refine r_iload_n hc 0 rfl rfl dX7_isTwoWay_55 ?_
    obtain ⟨_, ek3, h⟩ := wp_g h
    have h := wp_v h
    exact r_zret hc h (zz_of ek3) dX7_isTwoWay_56
theorem c_X7_isTwoWay {l : Launch} {x0 : Nat} {x1 : Int32} {σ σ' : Hp} {r : Int32} (h : f_X7_isTwoWay x0 x1 σ = some (r, σ')) : Mt l yX7_isTwoWay cX7_isTwoWay 4 (some .boolean) 1 shM (fun ad => [.ref (ad x0), .int x1]) σ (fun ad => some (.int r)) σ' := mt_i (own := RX7) (by decide) rfl (fun _ => Nat.le_of_ble_eq_true rfl) (fun γ ad K hc hk => t_X7_isTwoWay hc ⟨_, _, h, hk⟩)

-- NetMapsModel.shortest(I)I
theorem dX7_shortest_0 : decode cX7_shortest 0 = .ok (.iconst 0, 1) := by decide +kernel
theorem dX7_shortest_1 : decode cX7_shortest 1 = .ok (.istore_n 2, 1) := by decide +kernel
theorem dX7_shortest_2 : decode cX7_shortest 2 = .ok (.iconst 0, 1) := by decide +kernel
theorem dX7_shortest_3 : decode cX7_shortest 3 = .ok (.istore_n 3, 1) := by decide +kernel
theorem dX7_shortest_4 : decode cX7_shortest 4 = .ok (.iload_n 3, 1) := by decide +kernel
theorem dX7_shortest_5 : decode cX7_shortest 5 = .ok (.aload_n 0, 1) := by decide +kernel
theorem dX7_shortest_6 : decode cX7_shortest 6 = .ok (.getfield 7, 3) := by decide +kernel
theorem dX7_shortest_9 : decode cX7_shortest 9 = .ok (.iload_n 1, 1) := by decide +kernel
theorem dX7_shortest_10 : decode cX7_shortest 10 = .ok (.iaload, 1) := by decide +kernel
theorem dX7_shortest_11 : decode cX7_shortest 11 = .ok (.if_icmp .ge 114, 3) := by decide +kernel
theorem dX7_shortest_14 : decode cX7_shortest 14 = .ok (.iconst 1, 1) := by decide +kernel
theorem dX7_shortest_15 : decode cX7_shortest 15 = .ok (.iload_n 3, 1) := by decide +kernel
theorem dX7_shortest_16 : decode cX7_shortest 16 = .ok (.ishl, 1) := by decide +kernel
theorem dX7_shortest_17 : decode cX7_shortest 17 = .ok (.istore 4, 2) := by decide +kernel
theorem dX7_shortest_19 : decode cX7_shortest 19 = .ok (.iconst 1, 1) := by decide +kernel
theorem dX7_shortest_20 : decode cX7_shortest 20 = .ok (.istore 5, 2) := by decide +kernel
theorem dX7_shortest_22 : decode cX7_shortest 22 = .ok (.iload 5, 2) := by decide +kernel
theorem dX7_shortest_24 : decode cX7_shortest 24 = .ok (.aload_n 0, 1) := by decide +kernel
theorem dX7_shortest_25 : decode cX7_shortest 25 = .ok (.getfield 7, 3) := by decide +kernel
theorem dX7_shortest_28 : decode cX7_shortest 28 = .ok (.iload_n 1, 1) := by decide +kernel
theorem dX7_shortest_29 : decode cX7_shortest 29 = .ok (.iaload, 1) := by decide +kernel
theorem dX7_shortest_30 : decode cX7_shortest 30 = .ok (.if_icmp .gt 89, 3) := by decide +kernel
theorem dX7_shortest_33 : decode cX7_shortest 33 = .ok (.iconst 0, 1) := by decide +kernel
theorem dX7_shortest_34 : decode cX7_shortest 34 = .ok (.istore 6, 2) := by decide +kernel
theorem dX7_shortest_36 : decode cX7_shortest 36 = .ok (.iconst 0, 1) := by decide +kernel
theorem dX7_shortest_37 : decode cX7_shortest 37 = .ok (.istore 7, 2) := by decide +kernel
theorem dX7_shortest_39 : decode cX7_shortest 39 = .ok (.iload 7, 2) := by decide +kernel
theorem dX7_shortest_41 : decode cX7_shortest 41 = .ok (.aload_n 0, 1) := by decide +kernel
theorem dX7_shortest_42 : decode cX7_shortest 42 = .ok (.getfield 7, 3) := by decide +kernel
theorem dX7_shortest_45 : decode cX7_shortest 45 = .ok (.iload_n 1, 1) := by decide +kernel
theorem dX7_shortest_46 : decode cX7_shortest 46 = .ok (.iaload, 1) := by decide +kernel
theorem dX7_shortest_47 : decode cX7_shortest 47 = .ok (.if_icmp .ge 40, 3) := by decide +kernel
theorem dX7_shortest_50 : decode cX7_shortest 50 = .ok (.iload 6, 2) := by decide +kernel
theorem dX7_shortest_52 : decode cX7_shortest 52 = .ok (.iload 4, 2) := by decide +kernel
theorem dX7_shortest_54 : decode cX7_shortest 54 = .ok (.iload 7, 2) := by decide +kernel
theorem dX7_shortest_56 : decode cX7_shortest 56 = .ok (.invokestatic 89, 3) := by decide +kernel
theorem dX7_shortest_59 : decode cX7_shortest 59 = .ok (.ifCond .eq 18, 3) := by decide +kernel
theorem dX7_shortest_62 : decode cX7_shortest 62 = .ok (.aload_n 0, 1) := by decide +kernel
theorem dX7_shortest_63 : decode cX7_shortest 63 = .ok (.getfield 13, 3) := by decide +kernel
theorem dX7_shortest_66 : decode cX7_shortest 66 = .ok (.bipush 7, 2) := by decide +kernel
theorem dX7_shortest_68 : decode cX7_shortest 68 = .ok (.iload_n 1, 1) := by decide +kernel
theorem dX7_shortest_69 : decode cX7_shortest 69 = .ok (.imul, 1) := by decide +kernel
theorem dX7_shortest_70 : decode cX7_shortest 70 = .ok (.iload 7, 2) := by decide +kernel
theorem dX7_shortest_72 : decode cX7_shortest 72 = .ok (.iadd, 1) := by decide +kernel
theorem dX7_shortest_73 : decode cX7_shortest 73 = .ok (.iaload, 1) := by decide +kernel
theorem dX7_shortest_74 : decode cX7_shortest 74 = .ok (.goto 4, 3) := by decide +kernel
theorem dX7_shortest_77 : decode cX7_shortest 77 = .ok (.iconst 0, 1) := by decide +kernel
theorem dX7_shortest_78 : decode cX7_shortest 78 = .ok (.ior, 1) := by decide +kernel
theorem dX7_shortest_79 : decode cX7_shortest 79 = .ok (.istore 6, 2) := by decide +kernel
theorem dX7_shortest_81 : decode cX7_shortest 81 = .ok (.iinc 7 1, 3) := by decide +kernel
theorem dX7_shortest_84 : decode cX7_shortest 84 = .ok (.goto (-45), 3) := by decide +kernel
theorem dX7_shortest_87 : decode cX7_shortest 87 = .ok (.iload 6, 2) := by decide +kernel
theorem dX7_shortest_89 : decode cX7_shortest 89 = .ok (.istore 4, 2) := by decide +kernel
theorem dX7_shortest_91 : decode cX7_shortest 91 = .ok (.iload 4, 2) := by decide +kernel
theorem dX7_shortest_93 : decode cX7_shortest 93 = .ok (.iload_n 3, 1) := by decide +kernel
theorem dX7_shortest_94 : decode cX7_shortest 94 = .ok (.invokestatic 89, 3) := by decide +kernel
theorem dX7_shortest_97 : decode cX7_shortest 97 = .ok (.ifCond .eq 16, 3) := by decide +kernel
theorem dX7_shortest_100 : decode cX7_shortest 100 = .ok (.iload_n 2, 1) := by decide +kernel
theorem dX7_shortest_101 : decode cX7_shortest 101 = .ok (.ifCond .eq 9, 3) := by decide +kernel
theorem dX7_shortest_104 : decode cX7_shortest 104 = .ok (.iload 5, 2) := by decide +kernel
theorem dX7_shortest_106 : decode cX7_shortest 106 = .ok (.iload_n 2, 1) := by decide +kernel
theorem dX7_shortest_107 : decode cX7_shortest 107 = .ok (.if_icmp .ge 6, 3) := by decide +kernel
theorem dX7_shortest_110 : decode cX7_shortest 110 = .ok (.iload 5, 2) := by decide +kernel
theorem dX7_shortest_112 : decode cX7_shortest 112 = .ok (.istore_n 2, 1) := by decide +kernel
theorem dX7_shortest_113 : decode cX7_shortest 113 = .ok (.iinc 5 1, 3) := by decide +kernel
theorem dX7_shortest_116 : decode cX7_shortest 116 = .ok (.goto (-94), 3) := by decide +kernel
theorem dX7_shortest_119 : decode cX7_shortest 119 = .ok (.iinc 3 1, 3) := by decide +kernel
theorem dX7_shortest_122 : decode cX7_shortest 122 = .ok (.goto (-118), 3) := by decide +kernel
theorem dX7_shortest_125 : decode cX7_shortest 125 = .ok (.iload_n 2, 1) := by decide +kernel
theorem dX7_shortest_126 : decode cX7_shortest 126 = .ok (.ireturn, 1) := by decide +kernel
noncomputable def f_X7_shortest_b78 (x0 : Nat) (x1 : Int32) (x2 : Int32) (x3 : Int32) (x4 : Int32) (x5 : Int32) (x7 : Int32) (s0 : Int32) (s1 : Int32) (σ : Hp) : Option (((Int32 × Int32) ⊕ (Int32)) × Hp) := some (Sum.inl ((s0 ||| s1), (x7 + 1)), σ)
set_option maxRecDepth 100000 in
set_option maxHeartbeats 4000000 in
theorem t_X7_shortest_b78 {l : Launch} {γ : Gm} {ad : Nat → Nat} {K : Option Value → Hp → Prop} (hc : Cx l γ 2 8 ad shM RX7 cX7_shortest (some .int) K) {x0 : Nat} {x1 : Int32} {x2 : Int32} {x3 : Int32} {x4 : Int32} {x5 : Int32} {x7 : Int32} {s0 : Int32} {s1 : Int32}  {σ : Hp} {KL : ((Int32 × Int32) ⊕ (Int32)) → Hp → Prop} (h : wpO (f_X7_shortest_b78 x0 x1 x2 x3 x4 x5 x7 s0 s1 σ) KL) (kn : ∀ (v : (Int32 × Int32)) (σ : Hp), KL (Sum.inl v) σ → WW l γ 2 8 ad shM 39 [(0, .ref (ad x0)), (1, .int x1), (2, .int x2), (3, .int x3), (4, .int x4), (5, .int x5), (6, .int v.1), (7, .int v.2)] [] σ) (kx87 : ∀ (v : Int32) (σ : Hp), KL (Sum.inr v) σ → WW l γ 2 8 ad shM 87 [(0, .ref (ad x0)), (1, .int x1), (2, .int x2), (3, .int x3), (5, .int x5), (6, .int v)] [] σ) : WW l γ 2 8 ad shM 78 [(0, .ref (ad x0)), (1, .int x1), (2, .int x2), (3, .int x3), (4, .int x4), (5, .int x5), (7, .int x7)] [.int s1, .int s0] σ := by
  unfold f_X7_shortest_b78 at h
  refine r_ior hc dX7_shortest_78 ?_
  refine r_istoreE hc (i := 6) (lv' := [(6, .int (s0 ||| s1)), (0, .ref (ad x0)), (1, .int x1), (2, .int x2), (3, .int x3), (4, .int x4), (5, .int x5), (7, .int x7)]) rfl (by decide) rfl dX7_shortest_79 ?_
  refine r_iincE hc (j := 7) (w := 1) (lv' := [(7, .int (x7 + 1)), (6, .int (s0 ||| s1)), (0, .ref (ad x0)), (1, .int x1), (2, .int x2), (3, .int x3), (4, .int x4), (5, .int x5)]) rfl (by decide) rfl (by decide) rfl dX7_shortest_81 ?_
  refine r_goto hc (tgt := 39) dX7_shortest_84 (by decide) ?_
  refine r_sub [2, 3, 4, 5, 6, 7, 1, 0] (lv' := [(0, .ref (ad x0)), (1, .int x1), (2, .int x2), (3, .int x3), (4, .int x4), (5, .int x5), (6, .int (s0 ||| s1)), (7, .int (x7 + 1))]) rfl ?_
  have h := wp_v h
  exact kn ((s0 ||| s1), (x7 + 1)) _ h
noncomputable def f_X7_shortest_L39 (x0 : Nat) (x1 : Int32) (x2 : Int32) (x3 : Int32) (x4 : Int32) (x5 : Int32) (v : (Int32 × Int32)) (σ : Hp) : Option (((Int32 × Int32) ⊕ (Int32)) × Hp) := gO (getR shM 7 x0 0 σ) fun v1 => gO (aldI shM 0 v1 x1 σ) fun v2 => if v2 ≤ v.2 then (some (Sum.inr v.1, σ)) else (bO (f_X7_has x4 v.2 σ) fun r3 σ4 => if r3 = 0 then (f_X7_shortest_b78 x0 x1 x2 x3 x4 x5 v.2 v.1 0 σ4) else (gO (getR shM 7 x0 1 σ4) fun v5 => gO (aldI shM 0 v5 ((7 * x1) + v.2) σ4) fun v6 => f_X7_shortest_b78 x0 x1 x2 x3 x4 x5 v.2 v.1 v6 σ4))
set_option maxRecDepth 100000 in
set_option maxHeartbeats 4000000 in
theorem t_X7_shortest_L39 {l : Launch} {γ : Gm} {ad : Nat → Nat} {K : Option Value → Hp → Prop}  (hc : Cx l γ 2 8 ad shM RX7 cX7_shortest (some .int) K) {x0 : Nat} {x1 : Int32} {x2 : Int32} {x3 : Int32} {x4 : Int32} {x5 : Int32} {v : (Int32 × Int32)} {σ : Hp} {KX : (Int32) → Hp → Prop} (h : wpO (wh (f_X7_shortest_L39 x0 x1 x2 x3 x4 x5) v σ) KX) (kx87 : ∀ (v : Int32) (σ : Hp), KX v σ → WW l γ 2 8 ad shM 87 [(0, .ref (ad x0)), (1, .int x1), (2, .int x2), (3, .int x3), (5, .int x5), (6, .int v)] [] σ) : WW l γ 2 8 ad shM 39 [(0, .ref (ad x0)), (1, .int x1), (2, .int x2), (3, .int x3), (4, .int x4), (5, .int x5), (6, .int v.1), (7, .int v.2)] [] σ := by
  refine wh_W (P := fun v σ => WW l γ 2 8 ad shM 39 [(0, .ref (ad x0)), (1, .int x1), (2, .int x2), (3, .int x3), (4, .int x4), (5, .int x5), (6, .int v.1), (7, .int v.2)] [] σ) (fun v σ h => ?_) h
  have kn : ∀ (v : (Int32 × Int32)) (σ : Hp), WW l γ 2 8 ad shM 39 [(0, .ref (ad x0)), (1, .int x1), (2, .int x2), (3, .int x3), (4, .int x4), (5, .int x5), (6, .int v.1), (7, .int v.2)] [] σ → WW l γ 2 8 ad shM 39 [(0, .ref (ad x0)), (1, .int x1), (2, .int x2), (3, .int x3), (4, .int x4), (5, .int x5), (6, .int v.1), (7, .int v.2)] [] σ := fun _ _ h => h
  · unfold f_X7_shortest_L39 at h
    refine r_iload hc 7 rfl dX7_shortest_39 ?_
    refine r_aload_n hc 0 rfl rfl dX7_shortest_41 ?_
    obtain ⟨v1, ev1, h⟩ := wp_g h
    refine r_getR hc ev1 fl_X7_7 rfl dX7_shortest_42 ?_
    refine r_iload_n hc 1 rfl rfl dX7_shortest_45 ?_
    obtain ⟨v2, ev2, h⟩ := wp_g h
    refine r_iald hc ev2 dX7_shortest_46 ?_
    refine r_icmp_ge hc (tgt := 87) dX7_shortest_47 (by decide) (fun c => ?_) (fun c => ?_)
    · have h := wp_t c h
      refine r_sub [0, 1, 2, 3, 5, 6] (lv' := [(0, .ref (ad x0)), (1, .int x1), (2, .int x2), (3, .int x3), (5, .int x5), (6, .int v.1)]) rfl ?_
      have h := wp_v h
      exact kx87 v.1 _ h
    · have h := wp_f c h
      refine r_iload hc 6 rfl dX7_shortest_50 ?_
      refine r_iload hc 4 rfl dX7_shortest_52 ?_
      refine r_iload hc 7 rfl dX7_shortest_54 ?_
      obtain ⟨r3, σ4, er3, h⟩ := wp_b h
      refine r_callS hc ms_X7_has ml_X7_89 (c_X7_has er3) rfl rfl (by decide) rfl (Nat.le_of_ble_eq_true rfl) dX7_shortest_56 ?_
      refine r_if_eq hc (tgt := 77) dX7_shortest_59 (by decide) (fun c => ?_) (fun c => ?_)
      · have h := wp_t c h
        refine r_iconst hc (v := 0) (by decide) dX7_shortest_77 ?_
        refine r_sub [0, 1, 2, 3, 4, 5, 7] (lv' := [(0, .ref (ad x0)), (1, .int x1), (2, .int x2), (3, .int x3), (4, .int x4), (5, .int x5), (7, .int v.2)]) rfl ?_
        exact t_X7_shortest_b78 hc h kn kx87
      · have h := wp_f c h
        refine r_aload_n hc 0 rfl rfl dX7_shortest_62 ?_
        obtain ⟨v5, ev5, h⟩ := wp_g h
        refine r_getR hc ev5 fl_X7_13 rfl dX7_shortest_63 ?_
        refine r_bipush hc (v := 7) (by decide) dX7_shortest_66 ?_
        refine r_iload_n hc 1 rfl rfl dX7_shortest_68 ?_
        refine r_imul hc dX7_shortest_69 ?_
        refine r_iload hc 7 rfl dX7_shortest_70 ?_
        refine r_iadd hc dX7_shortest_72 ?_
        obtain ⟨v6, ev6, h⟩ := wp_g h
        refine r_iald hc ev6 dX7_shortest_73 ?_
        refine r_goto hc (tgt := 78) dX7_shortest_74 (by decide) ?_
        refine r_sub [0, 1, 2, 3, 4, 5, 7] (lv' := [(0, .ref (ad x0)), (1, .int x1), (2, .int x2), (3, .int x3), (4, .int x4), (5, .int x5), (7, .int v.2)]) rfl ?_
        exact t_X7_shortest_b78 hc h kn kx87
noncomputable def f_X7_shortest_b113 (x0 : Nat) (x1 : Int32) (x2 : Int32) (x3 : Int32) (x4 : Int32) (x5 : Int32) (σ : Hp) : Option (((Int32 × Int32 × Int32) ⊕ (Int32)) × Hp) := some (Sum.inl (x2, x4, (x5 + 1)), σ)
set_option maxRecDepth 100000 in
set_option maxHeartbeats 4000000 in
theorem t_X7_shortest_b113 {l : Launch} {γ : Gm} {ad : Nat → Nat} {K : Option Value → Hp → Prop} (hc : Cx l γ 2 8 ad shM RX7 cX7_shortest (some .int) K) {x0 : Nat} {x1 : Int32} {x2 : Int32} {x3 : Int32} {x4 : Int32} {x5 : Int32}  {σ : Hp} {KL : ((Int32 × Int32 × Int32) ⊕ (Int32)) → Hp → Prop} (h : wpO (f_X7_shortest_b113 x0 x1 x2 x3 x4 x5 σ) KL) (kn : ∀ (v : (Int32 × Int32 × Int32)) (σ : Hp), KL (Sum.inl v) σ → WW l γ 2 8 ad shM 22 [(0, .ref (ad x0)), (1, .int x1), (2, .int v.1), (3, .int x3), (4, .int v.2.1), (5, .int v.2.2)] [] σ) (kx119 : ∀ (v : Int32) (σ : Hp), KL (Sum.inr v) σ → WW l γ 2 8 ad shM 119 [(0, .ref (ad x0)), (1, .int x1), (2, .int v), (3, .int x3)] [] σ) : WW l γ 2 8 ad shM 113 [(0, .ref (ad x0)), (1, .int x1), (2, .int x2), (3, .int x3), (4, .int x4), (5, .int x5)] [] σ := by
  unfold f_X7_shortest_b113 at h
  refine r_iincE hc (j := 5) (w := 1) (lv' := [(5, .int (x5 + 1)), (0, .ref (ad x0)), (1, .int x1), (2, .int x2), (3, .int x3), (4, .int x4)]) rfl (by decide) rfl (by decide) rfl dX7_shortest_113 ?_
  refine r_goto hc (tgt := 22) dX7_shortest_116 (by decide) ?_
  refine r_sub [1, 2, 3, 4, 5, 0] (lv' := [(0, .ref (ad x0)), (1, .int x1), (2, .int x2), (3, .int x3), (4, .int x4), (5, .int (x5 + 1))]) rfl ?_
  have h := wp_v h
  exact kn (x2, x4, (x5 + 1)) _ h
noncomputable def f_X7_shortest_b110 (x0 : Nat) (x1 : Int32) (x3 : Int32) (x4 : Int32) (x5 : Int32) (σ : Hp) : Option (((Int32 × Int32 × Int32) ⊕ (Int32)) × Hp) := f_X7_shortest_b113 x0 x1 x5 x3 x4 x5 σ
set_option maxRecDepth 100000 in
set_option maxHeartbeats 4000000 in
theorem t_X7_shortest_b110 {l : Launch} {γ : Gm} {ad : Nat → Nat} {K : Option Value → Hp → Prop} (hc : Cx l γ 2 8 ad shM RX7 cX7_shortest (some .int) K) {x0 : Nat} {x1 : Int32} {x3 : Int32} {x4 : Int32} {x5 : Int32}  {σ : Hp} {KL : ((Int32 × Int32 × Int32) ⊕ (Int32)) → Hp → Prop} (h : wpO (f_X7_shortest_b110 x0 x1 x3 x4 x5 σ) KL) (kn : ∀ (v : (Int32 × Int32 × Int32)) (σ : Hp), KL (Sum.inl v) σ → WW l γ 2 8 ad shM 22 [(0, .ref (ad x0)), (1, .int x1), (2, .int v.1), (3, .int x3), (4, .int v.2.1), (5, .int v.2.2)] [] σ) (kx119 : ∀ (v : Int32) (σ : Hp), KL (Sum.inr v) σ → WW l γ 2 8 ad shM 119 [(0, .ref (ad x0)), (1, .int x1), (2, .int v), (3, .int x3)] [] σ) : WW l γ 2 8 ad shM 110 [(0, .ref (ad x0)), (1, .int x1), (3, .int x3), (4, .int x4), (5, .int x5)] [] σ := by
  unfold f_X7_shortest_b110 at h
  refine r_iload hc 4 rfl dX7_shortest_110 ?_
  refine r_istore_nE hc (i := 2) (lv' := [(2, .int x5), (0, .ref (ad x0)), (1, .int x1), (3, .int x3), (4, .int x4), (5, .int x5)]) rfl rfl (by decide) rfl dX7_shortest_112 ?_
  refine r_sub [1, 2, 0, 3, 4, 5] (lv' := [(0, .ref (ad x0)), (1, .int x1), (2, .int x5), (3, .int x3), (4, .int x4), (5, .int x5)]) rfl ?_
  exact t_X7_shortest_b113 hc h kn kx119
noncomputable def f_X7_shortest_L22 (x0 : Nat) (x1 : Int32) (x3 : Int32) (v : (Int32 × Int32 × Int32)) (σ : Hp) : Option (((Int32 × Int32 × Int32) ⊕ (Int32)) × Hp) := gO (getR shM 7 x0 0 σ) fun v1 => gO (aldI shM 0 v1 x1 σ) fun v2 => if v2 < v.2.2 then (some (Sum.inr v.1, σ)) else (bO (wh (f_X7_shortest_L39 x0 x1 v.1 x3 v.2.1 v.2.2) (0, 0) σ) fun y3 σ4 => (bO (f_X7_has y3 x3 σ4) fun r5 σ6 => if r5 = 0 then (f_X7_shortest_b113 x0 x1 v.1 x3 y3 v.2.2 σ6) else (if v.1 = 0 then (f_X7_shortest_b110 x0 x1 x3 y3 v.2.2 σ6) else (if v.1 ≤ v.2.2 then (f_X7_shortest_b113 x0 x1 v.1 x3 y3 v.2.2 σ6) else (f_X7_shortest_b110 x0 x1 x3 y3 v.2.2 σ6)))))
set_option maxRecDepth 100000 in
set_option maxHeartbeats 4000000 in
theorem t_X7_shortest_L22 {l : Launch} {γ : Gm} {ad : Nat → Nat} {K : Option Value → Hp → Prop}  (hc : Cx l γ 2 8 ad shM RX7 cX7_shortest (some .int) K) {x0 : Nat} {x1 : Int32} {x3 : Int32} {v : (Int32 × Int32 × Int32)} {σ : Hp} {KX : (Int32) → Hp → Prop} (h : wpO (wh (f_X7_shortest_L22 x0 x1 x3) v σ) KX) (kx119 : ∀ (v : Int32) (σ : Hp), KX v σ → WW l γ 2 8 ad shM 119 [(0, .ref (ad x0)), (1, .int x1), (2, .int v), (3, .int x3)] [] σ) : WW l γ 2 8 ad shM 22 [(0, .ref (ad x0)), (1, .int x1), (2, .int v.1), (3, .int x3), (4, .int v.2.1), (5, .int v.2.2)] [] σ := by
  refine wh_W (P := fun v σ => WW l γ 2 8 ad shM 22 [(0, .ref (ad x0)), (1, .int x1), (2, .int v.1), (3, .int x3), (4, .int v.2.1), (5, .int v.2.2)] [] σ) (fun v σ h => ?_) h
  have kn : ∀ (v : (Int32 × Int32 × Int32)) (σ : Hp), WW l γ 2 8 ad shM 22 [(0, .ref (ad x0)), (1, .int x1), (2, .int v.1), (3, .int x3), (4, .int v.2.1), (5, .int v.2.2)] [] σ → WW l γ 2 8 ad shM 22 [(0, .ref (ad x0)), (1, .int x1), (2, .int v.1), (3, .int x3), (4, .int v.2.1), (5, .int v.2.2)] [] σ := fun _ _ h => h
  · unfold f_X7_shortest_L22 at h
    refine r_iload hc 5 rfl dX7_shortest_22 ?_
    refine r_aload_n hc 0 rfl rfl dX7_shortest_24 ?_
    obtain ⟨v1, ev1, h⟩ := wp_g h
    refine r_getR hc ev1 fl_X7_7 rfl dX7_shortest_25 ?_
    refine r_iload_n hc 1 rfl rfl dX7_shortest_28 ?_
    obtain ⟨v2, ev2, h⟩ := wp_g h
    refine r_iald hc ev2 dX7_shortest_29 ?_
    refine r_icmp_gt hc (tgt := 119) dX7_shortest_30 (by decide) (fun c => ?_) (fun c => ?_)
    · have h := wp_t c h
      refine r_sub [0, 1, 2, 3] (lv' := [(0, .ref (ad x0)), (1, .int x1), (2, .int v.1), (3, .int x3)]) rfl ?_
      have h := wp_v h
      exact kx119 v.1 _ h
    · have h := wp_f c h
      refine r_iconst hc (v := 0) (by decide) dX7_shortest_33 ?_
      refine r_istoreE hc (i := 6) (lv' := [(6, .int 0), (0, .ref (ad x0)), (1, .int x1), (2, .int v.1), (3, .int x3), (4, .int v.2.1), (5, .int v.2.2)]) rfl (by decide) rfl dX7_shortest_34 ?_
      refine r_iconst hc (v := 0) (by decide) dX7_shortest_36 ?_
      refine r_istoreE hc (i := 7) (lv' := [(7, .int 0), (6, .int 0), (0, .ref (ad x0)), (1, .int x1), (2, .int v.1), (3, .int x3), (4, .int v.2.1), (5, .int v.2.2)]) rfl (by decide) rfl dX7_shortest_37 ?_
      refine r_sub [2, 3, 4, 5, 6, 7, 1, 0] (lv' := [(0, .ref (ad x0)), (1, .int x1), (2, .int v.1), (3, .int x3), (4, .int v.2.1), (5, .int v.2.2), (6, .int 0), (7, .int 0)]) rfl ?_
      refine t_X7_shortest_L39 hc (wp_bb h) ?_
      · intro y3 σ4 h
        refine r_iload hc 5 rfl dX7_shortest_87 ?_
        refine r_istoreE hc (i := 4) (lv' := [(4, .int y3), (0, .ref (ad x0)), (1, .int x1), (2, .int v.1), (3, .int x3), (5, .int v.2.2), (6, .int y3)]) rfl (by decide) rfl dX7_shortest_89 ?_
        refine r_iload hc 0 rfl dX7_shortest_91 ?_
        refine r_iload_n hc 4 rfl rfl dX7_shortest_93 ?_
        obtain ⟨r5, σ6, er5, h⟩ := wp_b h
        refine r_callS hc ms_X7_has ml_X7_89 (c_X7_has er5) rfl rfl (by decide) rfl (Nat.le_of_ble_eq_true rfl) dX7_shortest_94 ?_
        refine r_if_eq hc (tgt := 113) dX7_shortest_97 (by decide) (fun c => ?_) (fun c => ?_)
        · have h := wp_t c h
          refine r_sub [1, 2, 3, 4, 0, 5] (lv' := [(0, .ref (ad x0)), (1, .int x1), (2, .int v.1), (3, .int x3), (4, .int y3), (5, .int v.2.2)]) rfl ?_
          exact t_X7_shortest_b113 hc h kn kx119
        · have h := wp_f c h
          refine r_iload_n hc 3 rfl rfl dX7_shortest_100 ?_
          refine r_if_eq hc (tgt := 110) dX7_shortest_101 (by decide) (fun c => ?_) (fun c => ?_)
          · have h := wp_t c h
            refine r_sub [1, 2, 4, 0, 5] (lv' := [(0, .ref (ad x0)), (1, .int x1), (3, .int x3), (4, .int y3), (5, .int v.2.2)]) rfl ?_
            exact t_X7_shortest_b110 hc h kn kx119
          · have h := wp_f c h
            refine r_iload hc 5 rfl dX7_shortest_104 ?_
            refine r_iload_n hc 3 rfl rfl dX7_shortest_106 ?_
            refine r_icmp_ge hc (tgt := 113) dX7_shortest_107 (by decide) (fun c => ?_) (fun c => ?_)
            · have h := wp_t c h
              refine r_sub [1, 2, 3, 4, 0, 5] (lv' := [(0, .ref (ad x0)), (1, .int x1), (2, .int v.1), (3, .int x3), (4, .int y3), (5, .int v.2.2)]) rfl ?_
              exact t_X7_shortest_b113 hc h kn kx119
            · have h := wp_f c h
              refine r_sub [1, 2, 4, 0, 5] (lv' := [(0, .ref (ad x0)), (1, .int x1), (3, .int x3), (4, .int y3), (5, .int v.2.2)]) rfl ?_
              exact t_X7_shortest_b110 hc h kn kx119
noncomputable def f_X7_shortest_L4 (x0 : Nat) (x1 : Int32) (v : (Int32 × Int32)) (σ : Hp) : Option (((Int32 × Int32) ⊕ (Int32)) × Hp) := gO (getR shM 7 x0 0 σ) fun v1 => gO (aldI shM 0 v1 x1 σ) fun v2 => if v2 ≤ v.2 then (some (Sum.inr v.1, σ)) else (lt' (((1 : Int32) <<< (v.2 &&& 31))) fun t3 => bO (wh (f_X7_shortest_L22 x0 x1 v.2) (v.1, t3, 1) σ) fun y4 σ5 => (some (Sum.inl (y4, (v.2 + 1)), σ5)))
set_option maxRecDepth 100000 in
set_option maxHeartbeats 4000000 in
theorem t_X7_shortest_L4 {l : Launch} {γ : Gm} {ad : Nat → Nat} {K : Option Value → Hp → Prop}  (hc : Cx l γ 2 8 ad shM RX7 cX7_shortest (some .int) K) {x0 : Nat} {x1 : Int32} {v : (Int32 × Int32)} {σ : Hp} {KX : (Int32) → Hp → Prop} (h : wpO (wh (f_X7_shortest_L4 x0 x1) v σ) KX) (kx125 : ∀ (v : Int32) (σ : Hp), KX v σ → WW l γ 2 8 ad shM 125 [(2, .int v)] [] σ) : WW l γ 2 8 ad shM 4 [(0, .ref (ad x0)), (1, .int x1), (2, .int v.1), (3, .int v.2)] [] σ := by
  refine wh_W (P := fun v σ => WW l γ 2 8 ad shM 4 [(0, .ref (ad x0)), (1, .int x1), (2, .int v.1), (3, .int v.2)] [] σ) (fun v σ h => ?_) h
  have kn : ∀ (v : (Int32 × Int32)) (σ : Hp), WW l γ 2 8 ad shM 4 [(0, .ref (ad x0)), (1, .int x1), (2, .int v.1), (3, .int v.2)] [] σ → WW l γ 2 8 ad shM 4 [(0, .ref (ad x0)), (1, .int x1), (2, .int v.1), (3, .int v.2)] [] σ := fun _ _ h => h
  · unfold f_X7_shortest_L4 at h
    refine r_iload_n hc 3 rfl rfl dX7_shortest_4 ?_
    refine r_aload_n hc 0 rfl rfl dX7_shortest_5 ?_
    obtain ⟨v1, ev1, h⟩ := wp_g h
    refine r_getR hc ev1 fl_X7_7 rfl dX7_shortest_6 ?_
    refine r_iload_n hc 1 rfl rfl dX7_shortest_9 ?_
    obtain ⟨v2, ev2, h⟩ := wp_g h
    refine r_iald hc ev2 dX7_shortest_10 ?_
    refine r_icmp_ge hc (tgt := 125) dX7_shortest_11 (by decide) (fun c => ?_) (fun c => ?_)
    · have h := wp_t c h
      refine r_sub [2] (lv' := [(2, .int v.1)]) rfl ?_
      have h := wp_v h
      exact kx125 v.1 _ h
    · have h := wp_f c h
      refine r_iconst hc (v := 1) (by decide) dX7_shortest_14 ?_
      refine r_iload_n hc 3 rfl rfl dX7_shortest_15 ?_
      refine r_ishl hc dX7_shortest_16 ?_
      obtain ⟨t3, et3, h⟩ := wp_l h
      refine r_istoreE hc (i := 4) (lv' := [(4, .int t3), (0, .ref (ad x0)), (1, .int x1), (2, .int v.1), (3, .int v.2)]) et3 (by decide) rfl dX7_shortest_17 ?_
      refine r_iconst hc (v := 1) (by decide) dX7_shortest_19 ?_
      refine r_istoreE hc (i := 5) (lv' := [(5, .int 1), (4, .int t3), (0, .ref (ad x0)), (1, .int x1), (2, .int v.1), (3, .int v.2)]) rfl (by decide) rfl dX7_shortest_20 ?_
      refine r_sub [2, 3, 4, 5, 1, 0] (lv' := [(0, .ref (ad x0)), (1, .int x1), (2, .int v.1), (3, .int v.2), (4, .int t3), (5, .int 1)]) rfl ?_
      refine t_X7_shortest_L22 hc (wp_bb h) ?_
      · intro y4 σ5 h
        refine r_iincE hc (j := 3) (w := 1) (lv' := [(3, .int (v.2 + 1)), (0, .ref (ad x0)), (1, .int x1), (2, .int y4)]) rfl (by decide) rfl (by decide) rfl dX7_shortest_119 ?_
        refine r_goto hc (tgt := 4) dX7_shortest_122 (by decide) ?_
        refine r_sub [1, 2, 3, 0] (lv' := [(0, .ref (ad x0)), (1, .int x1), (2, .int y4), (3, .int (v.2 + 1))]) rfl ?_
        have h := wp_v h
        exact kn (y4, (v.2 + 1)) _ h
noncomputable def f_X7_shortest (x0 : Nat) (x1 : Int32) (σ : Hp) : Option (Int32 × Hp) := bO (wh (f_X7_shortest_L4 x0 x1) (0, 0) σ) fun y1 σ2 => (some (y1, σ2))
set_option maxRecDepth 100000 in
set_option maxHeartbeats 4000000 in
theorem t_X7_shortest {l : Launch} {γ : Gm} {ad : Nat → Nat} {K : Option Value → Hp → Prop} (hc : Cx l γ 2 8 ad shM RX7 cX7_shortest (some .int) K) {x0 : Nat} {x1 : Int32} {σ : Hp} (h : wpO (f_X7_shortest x0 x1 σ) (KI K)) : WW l γ 2 8 ad shM 0 [(0, .ref (ad x0)), (1, .int x1)] [] σ := by
  unfold f_X7_shortest at h
  refine r_iconst hc (v := 0) (by decide) dX7_shortest_0 ?_
  refine r_istore_nE hc (i := 2) (lv' := [(2, .int 0), (0, .ref (ad x0)), (1, .int x1)]) rfl rfl (by decide) rfl dX7_shortest_1 ?_
  refine r_iconst hc (v := 0) (by decide) dX7_shortest_2 ?_
  refine r_istore_nE hc (i := 3) (lv' := [(3, .int 0), (2, .int 0), (0, .ref (ad x0)), (1, .int x1)]) rfl rfl (by decide) rfl dX7_shortest_3 ?_
  refine r_sub [2, 3, 1, 0] (lv' := [(0, .ref (ad x0)), (1, .int x1), (2, .int 0), (3, .int 0)]) rfl ?_
  refine t_X7_shortest_L4 hc (wp_bb h) ?_
  · intro y1 σ2 h
    refine r_iload_n hc 0 rfl rfl dX7_shortest_125 ?_
    have h := wp_v h
    exact r_iret hc h dX7_shortest_126
theorem c_X7_shortest {l : Launch} {x0 : Nat} {x1 : Int32} {σ σ' : Hp} {r : Int32} (h : f_X7_shortest x0 x1 σ = some (r, σ')) : Mt l yX7_shortest cX7_shortest 8 (some .int) 2 shM (fun ad => [.ref (ad x0), .int x1]) σ (fun ad => some (.int r)) σ' := mt_i (own := RX7) (by decide) rfl (fun _ => Nat.le_of_ble_eq_true rfl) (fun γ ad K hc hk => t_X7_shortest hc ⟨_, _, h, hk⟩)

-- NetMapsModel.loops(I)I
theorem dX7_loops_0 : decode cX7_loops 0 = .ok (.iconst 0, 1) := by decide +kernel
theorem dX7_loops_1 : decode cX7_loops 1 = .ok (.istore_n 2, 1) := by decide +kernel
theorem dX7_loops_2 : decode cX7_loops 2 = .ok (.iconst 0, 1) := by decide +kernel
theorem dX7_loops_3 : decode cX7_loops 3 = .ok (.istore_n 3, 1) := by decide +kernel
theorem dX7_loops_4 : decode cX7_loops 4 = .ok (.iload_n 3, 1) := by decide +kernel
theorem dX7_loops_5 : decode cX7_loops 5 = .ok (.aload_n 0, 1) := by decide +kernel
theorem dX7_loops_6 : decode cX7_loops 6 = .ok (.getfield 7, 3) := by decide +kernel
theorem dX7_loops_9 : decode cX7_loops 9 = .ok (.iload_n 1, 1) := by decide +kernel
theorem dX7_loops_10 : decode cX7_loops 10 = .ok (.iaload, 1) := by decide +kernel
theorem dX7_loops_11 : decode cX7_loops 11 = .ok (.if_icmp .ge 27, 3) := by decide +kernel
theorem dX7_loops_14 : decode cX7_loops 14 = .ok (.iload_n 2, 1) := by decide +kernel
theorem dX7_loops_15 : decode cX7_loops 15 = .ok (.aload_n 0, 1) := by decide +kernel
theorem dX7_loops_16 : decode cX7_loops 16 = .ok (.getfield 13, 3) := by decide +kernel
theorem dX7_loops_19 : decode cX7_loops 19 = .ok (.bipush 7, 2) := by decide +kernel
theorem dX7_loops_21 : decode cX7_loops 21 = .ok (.iload_n 1, 1) := by decide +kernel
theorem dX7_loops_22 : decode cX7_loops 22 = .ok (.imul, 1) := by decide +kernel
theorem dX7_loops_23 : decode cX7_loops 23 = .ok (.iload_n 3, 1) := by decide +kernel
theorem dX7_loops_24 : decode cX7_loops 24 = .ok (.iadd, 1) := by decide +kernel
theorem dX7_loops_25 : decode cX7_loops 25 = .ok (.iaload, 1) := by decide +kernel
theorem dX7_loops_26 : decode cX7_loops 26 = .ok (.iconst 1, 1) := by decide +kernel
theorem dX7_loops_27 : decode cX7_loops 27 = .ok (.iload_n 3, 1) := by decide +kernel
theorem dX7_loops_28 : decode cX7_loops 28 = .ok (.ishl, 1) := by decide +kernel
theorem dX7_loops_29 : decode cX7_loops 29 = .ok (.iand, 1) := by decide +kernel
theorem dX7_loops_30 : decode cX7_loops 30 = .ok (.ior, 1) := by decide +kernel
theorem dX7_loops_31 : decode cX7_loops 31 = .ok (.istore_n 2, 1) := by decide +kernel
theorem dX7_loops_32 : decode cX7_loops 32 = .ok (.iinc 3 1, 3) := by decide +kernel
theorem dX7_loops_35 : decode cX7_loops 35 = .ok (.goto (-31), 3) := by decide +kernel
theorem dX7_loops_38 : decode cX7_loops 38 = .ok (.iload_n 2, 1) := by decide +kernel
theorem dX7_loops_39 : decode cX7_loops 39 = .ok (.ireturn, 1) := by decide +kernel
noncomputable def f_X7_loops_L4 (x0 : Nat) (x1 : Int32) (v : (Int32 × Int32)) (σ : Hp) : Option (((Int32 × Int32) ⊕ (Int32)) × Hp) := gO (getR shM 7 x0 0 σ) fun v1 => gO (aldI shM 0 v1 x1 σ) fun v2 => if v2 ≤ v.2 then (some (Sum.inr v.1, σ)) else (gO (getR shM 7 x0 1 σ) fun v3 => gO (aldI shM 0 v3 ((7 * x1) + v.2) σ) fun v4 => lt' ((v.1 ||| (v4 &&& ((1 : Int32) <<< (v.2 &&& 31))))) fun t5 => some (Sum.inl (t5, (v.2 + 1)), σ))
set_option maxRecDepth 100000 in
set_option maxHeartbeats 4000000 in
theorem t_X7_loops_L4 {l : Launch} {γ : Gm} {ad : Nat → Nat} {K : Option Value → Hp → Prop}  (hc : Cx l γ 1 4 ad shM RX7 cX7_loops (some .int) K) {x0 : Nat} {x1 : Int32} {v : (Int32 × Int32)} {σ : Hp} {KX : (Int32) → Hp → Prop} (h : wpO (wh (f_X7_loops_L4 x0 x1) v σ) KX) (kx38 : ∀ (v : Int32) (σ : Hp), KX v σ → WW l γ 1 4 ad shM 38 [(2, .int v)] [] σ) : WW l γ 1 4 ad shM 4 [(0, .ref (ad x0)), (1, .int x1), (2, .int v.1), (3, .int v.2)] [] σ := by
  refine wh_W (P := fun v σ => WW l γ 1 4 ad shM 4 [(0, .ref (ad x0)), (1, .int x1), (2, .int v.1), (3, .int v.2)] [] σ) (fun v σ h => ?_) h
  have kn : ∀ (v : (Int32 × Int32)) (σ : Hp), WW l γ 1 4 ad shM 4 [(0, .ref (ad x0)), (1, .int x1), (2, .int v.1), (3, .int v.2)] [] σ → WW l γ 1 4 ad shM 4 [(0, .ref (ad x0)), (1, .int x1), (2, .int v.1), (3, .int v.2)] [] σ := fun _ _ h => h
  · unfold f_X7_loops_L4 at h
    refine r_iload_n hc 3 rfl rfl dX7_loops_4 ?_
    refine r_aload_n hc 0 rfl rfl dX7_loops_5 ?_
    obtain ⟨v1, ev1, h⟩ := wp_g h
    refine r_getR hc ev1 fl_X7_7 rfl dX7_loops_6 ?_
    refine r_iload_n hc 1 rfl rfl dX7_loops_9 ?_
    obtain ⟨v2, ev2, h⟩ := wp_g h
    refine r_iald hc ev2 dX7_loops_10 ?_
    refine r_icmp_ge hc (tgt := 38) dX7_loops_11 (by decide) (fun c => ?_) (fun c => ?_)
    · have h := wp_t c h
      refine r_sub [2] (lv' := [(2, .int v.1)]) rfl ?_
      have h := wp_v h
      exact kx38 v.1 _ h
    · have h := wp_f c h
      refine r_iload_n hc 2 rfl rfl dX7_loops_14 ?_
      refine r_aload_n hc 0 rfl rfl dX7_loops_15 ?_
      obtain ⟨v3, ev3, h⟩ := wp_g h
      refine r_getR hc ev3 fl_X7_13 rfl dX7_loops_16 ?_
      refine r_bipush hc (v := 7) (by decide) dX7_loops_19 ?_
      refine r_iload_n hc 1 rfl rfl dX7_loops_21 ?_
      refine r_imul hc dX7_loops_22 ?_
      refine r_iload_n hc 3 rfl rfl dX7_loops_23 ?_
      refine r_iadd hc dX7_loops_24 ?_
      obtain ⟨v4, ev4, h⟩ := wp_g h
      refine r_iald hc ev4 dX7_loops_25 ?_
      refine r_iconst hc (v := 1) (by decide) dX7_loops_26 ?_
      refine r_iload_n hc 3 rfl rfl dX7_loops_27 ?_
      refine r_ishl hc dX7_loops_28 ?_
      refine r_iand hc dX7_loops_29 ?_
      refine r_ior hc dX7_loops_30 ?_
      obtain ⟨t5, et5, h⟩ := wp_l h
      refine r_istore_nE hc (i := 2) (lv' := [(2, .int t5), (0, .ref (ad x0)), (1, .int x1), (3, .int v.2)]) et5 rfl (by decide) rfl dX7_loops_31 ?_
      refine r_iincE hc (j := 3) (w := 1) (lv' := [(3, .int (v.2 + 1)), (2, .int t5), (0, .ref (ad x0)), (1, .int x1)]) rfl (by decide) rfl (by decide) rfl dX7_loops_32 ?_
      refine r_goto hc (tgt := 4) dX7_loops_35 (by decide) ?_
      refine r_sub [2, 3, 1, 0] (lv' := [(0, .ref (ad x0)), (1, .int x1), (2, .int t5), (3, .int (v.2 + 1))]) rfl ?_
      have h := wp_v h
      exact kn (t5, (v.2 + 1)) _ h
noncomputable def f_X7_loops (x0 : Nat) (x1 : Int32) (σ : Hp) : Option (Int32 × Hp) := bO (wh (f_X7_loops_L4 x0 x1) (0, 0) σ) fun y1 σ2 => (some (y1, σ2))
set_option maxRecDepth 100000 in
set_option maxHeartbeats 4000000 in
theorem t_X7_loops {l : Launch} {γ : Gm} {ad : Nat → Nat} {K : Option Value → Hp → Prop} (hc : Cx l γ 1 4 ad shM RX7 cX7_loops (some .int) K) {x0 : Nat} {x1 : Int32} {σ : Hp} (h : wpO (f_X7_loops x0 x1 σ) (KI K)) : WW l γ 1 4 ad shM 0 [(0, .ref (ad x0)), (1, .int x1)] [] σ := by
  unfold f_X7_loops at h
  refine r_iconst hc (v := 0) (by decide) dX7_loops_0 ?_
  refine r_istore_nE hc (i := 2) (lv' := [(2, .int 0), (0, .ref (ad x0)), (1, .int x1)]) rfl rfl (by decide) rfl dX7_loops_1 ?_
  refine r_iconst hc (v := 0) (by decide) dX7_loops_2 ?_
  refine r_istore_nE hc (i := 3) (lv' := [(3, .int 0), (2, .int 0), (0, .ref (ad x0)), (1, .int x1)]) rfl rfl (by decide) rfl dX7_loops_3 ?_
  refine r_sub [2, 3, 1, 0] (lv' := [(0, .ref (ad x0)), (1, .int x1), (2, .int 0), (3, .int 0)]) rfl ?_
  refine t_X7_loops_L4 hc (wp_bb h) ?_
  · intro y1 σ2 h
    refine r_iload_n hc 0 rfl rfl dX7_loops_38 ?_
    have h := wp_v h
    exact r_iret hc h dX7_loops_39
theorem c_X7_loops {l : Launch} {x0 : Nat} {x1 : Int32} {σ σ' : Hp} {r : Int32} (h : f_X7_loops x0 x1 σ = some (r, σ')) : Mt l yX7_loops cX7_loops 4 (some .int) 1 shM (fun ad => [.ref (ad x0), .int x1]) σ (fun ad => some (.int r)) σ' := mt_i (own := RX7) (by decide) rfl (fun _ => Nat.le_of_ble_eq_true rfl) (fun γ ad K hc hk => t_X7_loops hc ⟨_, _, h, hk⟩)

-- NetMapsModel.onRings(I)I
theorem dX7_onRings_0 : decode cX7_onRings 0 = .ok (.iconst 0, 1) := by decide +kernel
theorem dX7_onRings_1 : decode cX7_onRings 1 = .ok (.istore_n 2, 1) := by decide +kernel
theorem dX7_onRings_2 : decode cX7_onRings 2 = .ok (.iconst 0, 1) := by decide +kernel
theorem dX7_onRings_3 : decode cX7_onRings 3 = .ok (.istore_n 3, 1) := by decide +kernel
theorem dX7_onRings_4 : decode cX7_onRings 4 = .ok (.iload_n 3, 1) := by decide +kernel
theorem dX7_onRings_5 : decode cX7_onRings 5 = .ok (.aload_n 0, 1) := by decide +kernel
theorem dX7_onRings_6 : decode cX7_onRings 6 = .ok (.getfield 7, 3) := by decide +kernel
theorem dX7_onRings_9 : decode cX7_onRings 9 = .ok (.iload_n 1, 1) := by decide +kernel
theorem dX7_onRings_10 : decode cX7_onRings 10 = .ok (.iaload, 1) := by decide +kernel
theorem dX7_onRings_11 : decode cX7_onRings 11 = .ok (.if_icmp .ge 22, 3) := by decide +kernel
theorem dX7_onRings_14 : decode cX7_onRings 14 = .ok (.iload_n 2, 1) := by decide +kernel
theorem dX7_onRings_15 : decode cX7_onRings 15 = .ok (.aload_n 0, 1) := by decide +kernel
theorem dX7_onRings_16 : decode cX7_onRings 16 = .ok (.iload_n 1, 1) := by decide +kernel
theorem dX7_onRings_17 : decode cX7_onRings 17 = .ok (.iload_n 3, 1) := by decide +kernel
theorem dX7_onRings_18 : decode cX7_onRings 18 = .ok (.invokevirtual 147, 3) := by decide +kernel
theorem dX7_onRings_21 : decode cX7_onRings 21 = .ok (.iconst 1, 1) := by decide +kernel
theorem dX7_onRings_22 : decode cX7_onRings 22 = .ok (.iload_n 3, 1) := by decide +kernel
theorem dX7_onRings_23 : decode cX7_onRings 23 = .ok (.ishl, 1) := by decide +kernel
theorem dX7_onRings_24 : decode cX7_onRings 24 = .ok (.iand, 1) := by decide +kernel
theorem dX7_onRings_25 : decode cX7_onRings 25 = .ok (.ior, 1) := by decide +kernel
theorem dX7_onRings_26 : decode cX7_onRings 26 = .ok (.istore_n 2, 1) := by decide +kernel
theorem dX7_onRings_27 : decode cX7_onRings 27 = .ok (.iinc 3 1, 3) := by decide +kernel
theorem dX7_onRings_30 : decode cX7_onRings 30 = .ok (.goto (-26), 3) := by decide +kernel
theorem dX7_onRings_33 : decode cX7_onRings 33 = .ok (.iload_n 2, 1) := by decide +kernel
theorem dX7_onRings_34 : decode cX7_onRings 34 = .ok (.ireturn, 1) := by decide +kernel
noncomputable def f_X7_onRings_L4 (x0 : Nat) (x1 : Int32) (v : (Int32 × Int32)) (σ : Hp) : Option (((Int32 × Int32) ⊕ (Int32)) × Hp) := gO (getR shM 7 x0 0 σ) fun v1 => gO (aldI shM 0 v1 x1 σ) fun v2 => if v2 ≤ v.2 then (some (Sum.inr v.1, σ)) else (gO (chk shM x0 7) fun _ => bO (f_X7_reachOf x0 x1 v.2 σ) fun r3 σ4 => lt' ((v.1 ||| (r3 &&& ((1 : Int32) <<< (v.2 &&& 31))))) fun t6 => some (Sum.inl (t6, (v.2 + 1)), σ4))
set_option maxRecDepth 100000 in
set_option maxHeartbeats 4000000 in
theorem t_X7_onRings_L4 {l : Launch} {γ : Gm} {ad : Nat → Nat} {K : Option Value → Hp → Prop}  (hc : Cx l γ 3 4 ad shM RX7 cX7_onRings (some .int) K) {x0 : Nat} {x1 : Int32} {v : (Int32 × Int32)} {σ : Hp} {KX : (Int32) → Hp → Prop} (h : wpO (wh (f_X7_onRings_L4 x0 x1) v σ) KX) (kx33 : ∀ (v : Int32) (σ : Hp), KX v σ → WW l γ 3 4 ad shM 33 [(2, .int v)] [] σ) : WW l γ 3 4 ad shM 4 [(0, .ref (ad x0)), (1, .int x1), (2, .int v.1), (3, .int v.2)] [] σ := by
  refine wh_W (P := fun v σ => WW l γ 3 4 ad shM 4 [(0, .ref (ad x0)), (1, .int x1), (2, .int v.1), (3, .int v.2)] [] σ) (fun v σ h => ?_) h
  have kn : ∀ (v : (Int32 × Int32)) (σ : Hp), WW l γ 3 4 ad shM 4 [(0, .ref (ad x0)), (1, .int x1), (2, .int v.1), (3, .int v.2)] [] σ → WW l γ 3 4 ad shM 4 [(0, .ref (ad x0)), (1, .int x1), (2, .int v.1), (3, .int v.2)] [] σ := fun _ _ h => h
  · unfold f_X7_onRings_L4 at h
    refine r_iload_n hc 3 rfl rfl dX7_onRings_4 ?_
    refine r_aload_n hc 0 rfl rfl dX7_onRings_5 ?_
    obtain ⟨v1, ev1, h⟩ := wp_g h
    refine r_getR hc ev1 fl_X7_7 rfl dX7_onRings_6 ?_
    refine r_iload_n hc 1 rfl rfl dX7_onRings_9 ?_
    obtain ⟨v2, ev2, h⟩ := wp_g h
    refine r_iald hc ev2 dX7_onRings_10 ?_
    refine r_icmp_ge hc (tgt := 33) dX7_onRings_11 (by decide) (fun c => ?_) (fun c => ?_)
    · have h := wp_t c h
      refine r_sub [2] (lv' := [(2, .int v.1)]) rfl ?_
      have h := wp_v h
      exact kx33 v.1 _ h
    · have h := wp_f c h
      refine r_iload_n hc 2 rfl rfl dX7_onRings_14 ?_
      refine r_aload_n hc 0 rfl rfl dX7_onRings_15 ?_
      refine r_iload_n hc 1 rfl rfl dX7_onRings_16 ?_
      refine r_iload_n hc 3 rfl rfl dX7_onRings_17 ?_
      obtain ⟨_, ek5, h⟩ := wp_g h
      obtain ⟨r3, σ4, er3, h⟩ := wp_b h
      refine r_callV hc (k0 := x0) mv_X7_reachOf ml_X7_147 (c_X7_reachOf er3) (chk_of ek5) cls_7.1 rfl rfl rfl (by decide) rfl (Nat.le_of_ble_eq_true rfl) dX7_onRings_18 ?_
      refine r_iconst hc (v := 1) (by decide) dX7_onRings_21 ?_
      refine r_iload_n hc 3 rfl rfl dX7_onRings_22 ?_
      refine r_ishl hc dX7_onRings_23 ?_
      refine r_iand hc dX7_onRings_24 ?_
      refine r_ior hc dX7_onRings_25 ?_
      obtain ⟨t6, et6, h⟩ := wp_l h
      refine r_istore_nE hc (i := 2) (lv' := [(2, .int t6), (0, .ref (ad x0)), (1, .int x1), (3, .int v.2)]) et6 rfl (by decide) rfl dX7_onRings_26 ?_
      refine r_iincE hc (j := 3) (w := 1) (lv' := [(3, .int (v.2 + 1)), (2, .int t6), (0, .ref (ad x0)), (1, .int x1)]) rfl (by decide) rfl (by decide) rfl dX7_onRings_27 ?_
      refine r_goto hc (tgt := 4) dX7_onRings_30 (by decide) ?_
      refine r_sub [2, 3, 1, 0] (lv' := [(0, .ref (ad x0)), (1, .int x1), (2, .int t6), (3, .int (v.2 + 1))]) rfl ?_
      have h := wp_v h
      exact kn (t6, (v.2 + 1)) _ h
noncomputable def f_X7_onRings (x0 : Nat) (x1 : Int32) (σ : Hp) : Option (Int32 × Hp) := bO (wh (f_X7_onRings_L4 x0 x1) (0, 0) σ) fun y1 σ2 => (some (y1, σ2))
set_option maxRecDepth 100000 in
set_option maxHeartbeats 4000000 in
theorem t_X7_onRings {l : Launch} {γ : Gm} {ad : Nat → Nat} {K : Option Value → Hp → Prop} (hc : Cx l γ 3 4 ad shM RX7 cX7_onRings (some .int) K) {x0 : Nat} {x1 : Int32} {σ : Hp} (h : wpO (f_X7_onRings x0 x1 σ) (KI K)) : WW l γ 3 4 ad shM 0 [(0, .ref (ad x0)), (1, .int x1)] [] σ := by
  unfold f_X7_onRings at h
  refine r_iconst hc (v := 0) (by decide) dX7_onRings_0 ?_
  refine r_istore_nE hc (i := 2) (lv' := [(2, .int 0), (0, .ref (ad x0)), (1, .int x1)]) rfl rfl (by decide) rfl dX7_onRings_1 ?_
  refine r_iconst hc (v := 0) (by decide) dX7_onRings_2 ?_
  refine r_istore_nE hc (i := 3) (lv' := [(3, .int 0), (2, .int 0), (0, .ref (ad x0)), (1, .int x1)]) rfl rfl (by decide) rfl dX7_onRings_3 ?_
  refine r_sub [2, 3, 1, 0] (lv' := [(0, .ref (ad x0)), (1, .int x1), (2, .int 0), (3, .int 0)]) rfl ?_
  refine t_X7_onRings_L4 hc (wp_bb h) ?_
  · intro y1 σ2 h
    refine r_iload_n hc 0 rfl rfl dX7_onRings_33 ?_
    have h := wp_v h
    exact r_iret hc h dX7_onRings_34
theorem c_X7_onRings {l : Launch} {x0 : Nat} {x1 : Int32} {σ σ' : Hp} {r : Int32} (h : f_X7_onRings x0 x1 σ = some (r, σ')) : Mt l yX7_onRings cX7_onRings 4 (some .int) 3 shM (fun ad => [.ref (ad x0), .int x1]) σ (fun ad => some (.int r)) σ' := mt_i (own := RX7) (by decide) rfl (fun _ => Nat.le_of_ble_eq_true rfl) (fun γ ad K hc hk => t_X7_onRings hc ⟨_, _, h, hk⟩)
