-- NetMaps.row(IIZ)I
theorem dX6_row_0 : decode cX6_row 0 = .ok (.aload_n 0, 1) := by decide +kernel
theorem dX6_row_1 : decode cX6_row 1 = .ok (.iload_n 1, 1) := by decide +kernel
theorem dX6_row_2 : decode cX6_row 2 = .ok (.iload_n 2, 1) := by decide +kernel
theorem dX6_row_3 : decode cX6_row 3 = .ok (.invokevirtual 112, 3) := by decide +kernel
theorem dX6_row_6 : decode cX6_row 6 = .ok (.ifCond .eq 5, 3) := by decide +kernel
theorem dX6_row_9 : decode cX6_row 9 = .ok (.iconst (-1), 1) := by decide +kernel
theorem dX6_row_10 : decode cX6_row 10 = .ok (.ireturn, 1) := by decide +kernel
theorem dX6_row_11 : decode cX6_row 11 = .ok (.aload_n 0, 1) := by decide +kernel
theorem dX6_row_12 : decode cX6_row 12 = .ok (.iload_n 1, 1) := by decide +kernel
theorem dX6_row_13 : decode cX6_row 13 = .ok (.invokevirtual 91, 3) := by decide +kernel
theorem dX6_row_16 : decode cX6_row 16 = .ok (.astore 4, 2) := by decide +kernel
theorem dX6_row_18 : decode cX6_row 18 = .ok (.aload 4, 2) := by decide +kernel
theorem dX6_row_20 : decode cX6_row 20 = .ok (.invokevirtual 109, 3) := by decide +kernel
theorem dX6_row_23 : decode cX6_row 23 = .ok (.ifCond .eq 6, 3) := by decide +kernel
theorem dX6_row_26 : decode cX6_row 26 = .ok (.bipush (-2), 2) := by decide +kernel
theorem dX6_row_28 : decode cX6_row 28 = .ok (.ireturn, 1) := by decide +kernel
theorem dX6_row_29 : decode cX6_row 29 = .ok (.iload_n 3, 1) := by decide +kernel
theorem dX6_row_30 : decode cX6_row 30 = .ok (.ifCond .eq 13, 3) := by decide +kernel
theorem dX6_row_33 : decode cX6_row 33 = .ok (.aload 4, 2) := by decide +kernel
theorem dX6_row_35 : decode cX6_row 35 = .ok (.getfield 153, 3) := by decide +kernel
theorem dX6_row_38 : decode cX6_row 38 = .ok (.iload_n 2, 1) := by decide +kernel
theorem dX6_row_39 : decode cX6_row 39 = .ok (.iaload, 1) := by decide +kernel
theorem dX6_row_40 : decode cX6_row 40 = .ok (.goto 10, 3) := by decide +kernel
theorem dX6_row_43 : decode cX6_row 43 = .ok (.aload 4, 2) := by decide +kernel
theorem dX6_row_45 : decode cX6_row 45 = .ok (.getfield 156, 3) := by decide +kernel
theorem dX6_row_48 : decode cX6_row 48 = .ok (.iload_n 2, 1) := by decide +kernel
theorem dX6_row_49 : decode cX6_row 49 = .ok (.iaload, 1) := by decide +kernel
theorem dX6_row_50 : decode cX6_row 50 = .ok (.ireturn, 1) := by decide +kernel
noncomputable def f_X6_row_b50 (s0 : Int32) (σ : Hp) : Option (Int32 × Hp) := some (s0, σ)
set_option maxRecDepth 100000 in
set_option maxHeartbeats 4000000 in
theorem t_X6_row_b50 {l : Launch} {γ : Gm} {ad : Nat → Nat} {K : Option Value → Hp → Prop} (hc : Cx l γ 3 5 ad shC RX6 cX6_row (some .int) K) {s0 : Int32} {σ : Hp} (h : wpO (f_X6_row_b50 s0 σ) (KI K)) : WW l γ 3 5 ad shC 50 [] [.int s0] σ := by
  unfold f_X6_row_b50 at h
  have h := wp_v h
  exact r_iret hc h dX6_row_50
noncomputable def f_X6_row (x0 : Nat) (x1 : Int32) (x2 : Int32) (x3 : Int32) (σ : Hp) : Option (Int32 × Hp) := gO (chk shC x0 6) fun _ => bO (f_X6_noNode x0 x1 x2 σ) fun r1 σ2 => if r1 = 0 then (gO (chk shC x0 6) fun _ => bO (f_X6_in x0 x1 σ2) fun r4 σ5 => gO (chk shC r4 1) fun _ => bO (f_X1_isEmpty r4 σ5) fun r7 σ8 => if r7 = 0 then (if x3 = 0 then (gO (getR shC 1 r4 2 σ8) fun v10 => gO (aldI shC 0 v10 x2 σ8) fun v11 => f_X6_row_b50 v11 σ8) else (gO (getR shC 1 r4 1 σ8) fun v12 => gO (aldI shC 0 v12 x2 σ8) fun v13 => f_X6_row_b50 v13 σ8)) else (some ((-2), σ8))) else (some ((-1), σ2))
set_option maxRecDepth 100000 in
set_option maxHeartbeats 4000000 in
theorem t_X6_row {l : Launch} {γ : Gm} {ad : Nat → Nat} {K : Option Value → Hp → Prop} (hc : Cx l γ 3 5 ad shC RX6 cX6_row (some .int) K) {x0 : Nat} {x1 : Int32} {x2 : Int32} {x3 : Int32} {σ : Hp} (h : wpO (f_X6_row x0 x1 x2 x3 σ) (KI K)) : WW l γ 3 5 ad shC 0 [(0, .ref (ad x0)), (1, .int x1), (2, .int x2), (3, .int x3)] [] σ := by
  unfold f_X6_row at h
  refine r_aload_n hc 0 rfl rfl dX6_row_0 ?_
  refine r_iload_n hc 1 rfl rfl dX6_row_1 ?_
  refine r_iload_n hc 2 rfl rfl dX6_row_2 ?_
  obtain ⟨_, ek3, h⟩ := wp_g h
  obtain ⟨r1, σ2, er1, h⟩ := wp_b h
  refine r_callV hc (k0 := x0) mv_X6_noNode ml_X6_112 (c_X6_noNode er1) (chk_of ek3) cls_6.1 rfl rfl rfl (by decide) rfl (Nat.le_of_ble_eq_true rfl) dX6_row_3 ?_
  refine r_if_eq hc (tgt := 11) dX6_row_6 (by decide) (fun c => ?_) (fun c => ?_)
  · have h := wp_t c h
    refine r_aload_n hc 0 rfl rfl dX6_row_11 ?_
    refine r_iload_n hc 1 rfl rfl dX6_row_12 ?_
    obtain ⟨_, ek6, h⟩ := wp_g h
    obtain ⟨r4, σ5, er4, h⟩ := wp_b h
    refine r_callV hc (k0 := x0) mv_X6_in ml_X6_91 (c_X6_in er4) (chk_of ek6) cls_6.1 rfl rfl rfl (by decide) rfl (Nat.le_of_ble_eq_true rfl) dX6_row_13 ?_
    refine r_astore hc (i := 4) (lv' := [(4, .ref (ad r4)), (0, .ref (ad x0)), (1, .int x1), (2, .int x2), (3, .int x3)]) (by decide) rfl dX6_row_16 ?_
    refine r_aload hc 0 rfl dX6_row_18 ?_
    obtain ⟨_, ek9, h⟩ := wp_g h
    obtain ⟨r7, σ8, er7, h⟩ := wp_b h
    refine r_callV hc (k0 := r4) mv_X1_isEmpty ml_X6_109 (c_X1_isEmpty er7) (chk_of ek9) cls_1.1 rfl rfl rfl (by decide) rfl (Nat.le_of_ble_eq_true rfl) dX6_row_20 ?_
    refine r_if_eq hc (tgt := 29) dX6_row_23 (by decide) (fun c => ?_) (fun c => ?_)
    · have h := wp_t c h
      refine r_iload_n hc 4 rfl rfl dX6_row_29 ?_
      refine r_if_eq hc (tgt := 43) dX6_row_30 (by decide) (fun c => ?_) (fun c => ?_)
      · have h := wp_t c h
        refine r_aload hc 0 rfl dX6_row_43 ?_
        obtain ⟨v10, ev10, h⟩ := wp_g h
        refine r_getR hc ev10 fl_X6_156 rfl dX6_row_45 ?_
        refine r_iload_n hc 3 rfl rfl dX6_row_48 ?_
        obtain ⟨v11, ev11, h⟩ := wp_g h
        refine r_iald hc ev11 dX6_row_49 ?_
        refine r_sub [] (lv' := []) rfl ?_
        exact t_X6_row_b50 hc h
      · have h := wp_f c h
        refine r_aload hc 0 rfl dX6_row_33 ?_
        obtain ⟨v12, ev12, h⟩ := wp_g h
        refine r_getR hc ev12 fl_X6_153 rfl dX6_row_35 ?_
        refine r_iload_n hc 3 rfl rfl dX6_row_38 ?_
        obtain ⟨v13, ev13, h⟩ := wp_g h
        refine r_iald hc ev13 dX6_row_39 ?_
        refine r_goto hc (tgt := 50) dX6_row_40 (by decide) ?_
        refine r_sub [] (lv' := []) rfl ?_
        exact t_X6_row_b50 hc h
    · have h := wp_f c h
      refine r_bipush hc (v := (-2)) (by decide) dX6_row_26 ?_
      have h := wp_v h
      exact r_iret hc h dX6_row_28
  · have h := wp_f c h
    refine r_iconst hc (v := (-1)) (by decide) dX6_row_9 ?_
    have h := wp_v h
    exact r_iret hc h dX6_row_10
theorem c_X6_row {l : Launch} {x0 : Nat} {x1 : Int32} {x2 : Int32} {x3 : Int32} {σ σ' : Hp} {r : Int32} (h : f_X6_row x0 x1 x2 x3 σ = some (r, σ')) : Mt l yX6_row cX6_row 5 (some .int) 3 shC (fun ad => [.ref (ad x0), .int x1, .int x2, .int x3]) σ (fun ad => some (.int r)) σ' := mt_i (own := RX6) (by decide) rfl (fun _ => Nat.le_of_ble_eq_true rfl) (fun γ ad K hc hk => t_X6_row hc ⟨_, _, h, hk⟩)

-- NetMaps.reach(II)I
theorem dX6_reach_0 : decode cX6_reach 0 = .ok (.aload_n 0, 1) := by decide +kernel
theorem dX6_reach_1 : decode cX6_reach 1 = .ok (.iload_n 1, 1) := by decide +kernel
theorem dX6_reach_2 : decode cX6_reach 2 = .ok (.iload_n 2, 1) := by decide +kernel
theorem dX6_reach_3 : decode cX6_reach 3 = .ok (.invokevirtual 112, 3) := by decide +kernel
theorem dX6_reach_6 : decode cX6_reach 6 = .ok (.ifCond .eq 5, 3) := by decide +kernel
theorem dX6_reach_9 : decode cX6_reach 9 = .ok (.iconst (-1), 1) := by decide +kernel
theorem dX6_reach_10 : decode cX6_reach 10 = .ok (.ireturn, 1) := by decide +kernel
theorem dX6_reach_11 : decode cX6_reach 11 = .ok (.aload_n 0, 1) := by decide +kernel
theorem dX6_reach_12 : decode cX6_reach 12 = .ok (.iload_n 1, 1) := by decide +kernel
theorem dX6_reach_13 : decode cX6_reach 13 = .ok (.invokevirtual 91, 3) := by decide +kernel
theorem dX6_reach_16 : decode cX6_reach 16 = .ok (.invokevirtual 109, 3) := by decide +kernel
theorem dX6_reach_19 : decode cX6_reach 19 = .ok (.ifCond .eq 8, 3) := by decide +kernel
theorem dX6_reach_22 : decode cX6_reach 22 = .ok (.bipush (-2), 2) := by decide +kernel
theorem dX6_reach_24 : decode cX6_reach 24 = .ok (.goto 12, 3) := by decide +kernel
theorem dX6_reach_27 : decode cX6_reach 27 = .ok (.aload_n 0, 1) := by decide +kernel
theorem dX6_reach_28 : decode cX6_reach 28 = .ok (.iload_n 1, 1) := by decide +kernel
theorem dX6_reach_29 : decode cX6_reach 29 = .ok (.invokevirtual 91, 3) := by decide +kernel
theorem dX6_reach_32 : decode cX6_reach 32 = .ok (.iload_n 2, 1) := by decide +kernel
theorem dX6_reach_33 : decode cX6_reach 33 = .ok (.invokevirtual 159, 3) := by decide +kernel
theorem dX6_reach_36 : decode cX6_reach 36 = .ok (.ireturn, 1) := by decide +kernel
noncomputable def f_X6_reach_b36 (s0 : Int32) (σ : Hp) : Option (Int32 × Hp) := some (s0, σ)
set_option maxRecDepth 100000 in
set_option maxHeartbeats 4000000 in
theorem t_X6_reach_b36 {l : Launch} {γ : Gm} {ad : Nat → Nat} {K : Option Value → Hp → Prop} (hc : Cx l γ 4 3 ad shC RX6 cX6_reach (some .int) K) {s0 : Int32} {σ : Hp} (h : wpO (f_X6_reach_b36 s0 σ) (KI K)) : WW l γ 4 3 ad shC 36 [] [.int s0] σ := by
  unfold f_X6_reach_b36 at h
  have h := wp_v h
  exact r_iret hc h dX6_reach_36
noncomputable def f_X6_reach (x0 : Nat) (x1 : Int32) (x2 : Int32) (σ : Hp) : Option (Int32 × Hp) := gO (chk shC x0 6) fun _ => bO (f_X6_noNode x0 x1 x2 σ) fun r1 σ2 => if r1 = 0 then (gO (chk shC x0 6) fun _ => bO (f_X6_in x0 x1 σ2) fun r4 σ5 => gO (chk shC r4 1) fun _ => bO (f_X1_isEmpty r4 σ5) fun r7 σ8 => if r7 = 0 then (gO (chk shC x0 6) fun _ => bO (f_X6_in x0 x1 σ8) fun r10 σ11 => gO (chk shC r10 1) fun _ => bO (f_X1_ahead r10 x2 σ11) fun r13 σ14 => f_X6_reach_b36 r13 σ14) else (f_X6_reach_b36 (-2) σ8)) else (some ((-1), σ2))
set_option maxRecDepth 100000 in
set_option maxHeartbeats 4000000 in
theorem t_X6_reach {l : Launch} {γ : Gm} {ad : Nat → Nat} {K : Option Value → Hp → Prop} (hc : Cx l γ 4 3 ad shC RX6 cX6_reach (some .int) K) {x0 : Nat} {x1 : Int32} {x2 : Int32} {σ : Hp} (h : wpO (f_X6_reach x0 x1 x2 σ) (KI K)) : WW l γ 4 3 ad shC 0 [(0, .ref (ad x0)), (1, .int x1), (2, .int x2)] [] σ := by
  unfold f_X6_reach at h
  refine r_aload_n hc 0 rfl rfl dX6_reach_0 ?_
  refine r_iload_n hc 1 rfl rfl dX6_reach_1 ?_
  refine r_iload_n hc 2 rfl rfl dX6_reach_2 ?_
  obtain ⟨_, ek3, h⟩ := wp_g h
  obtain ⟨r1, σ2, er1, h⟩ := wp_b h
  refine r_callV hc (k0 := x0) mv_X6_noNode ml_X6_112 (c_X6_noNode er1) (chk_of ek3) cls_6.1 rfl rfl rfl (by decide) rfl (Nat.le_of_ble_eq_true rfl) dX6_reach_3 ?_
  refine r_if_eq hc (tgt := 11) dX6_reach_6 (by decide) (fun c => ?_) (fun c => ?_)
  · have h := wp_t c h
    refine r_aload_n hc 0 rfl rfl dX6_reach_11 ?_
    refine r_iload_n hc 1 rfl rfl dX6_reach_12 ?_
    obtain ⟨_, ek6, h⟩ := wp_g h
    obtain ⟨r4, σ5, er4, h⟩ := wp_b h
    refine r_callV hc (k0 := x0) mv_X6_in ml_X6_91 (c_X6_in er4) (chk_of ek6) cls_6.1 rfl rfl rfl (by decide) rfl (Nat.le_of_ble_eq_true rfl) dX6_reach_13 ?_
    obtain ⟨_, ek9, h⟩ := wp_g h
    obtain ⟨r7, σ8, er7, h⟩ := wp_b h
    refine r_callV hc (k0 := r4) mv_X1_isEmpty ml_X6_109 (c_X1_isEmpty er7) (chk_of ek9) cls_1.1 rfl rfl rfl (by decide) rfl (Nat.le_of_ble_eq_true rfl) dX6_reach_16 ?_
    refine r_if_eq hc (tgt := 27) dX6_reach_19 (by decide) (fun c => ?_) (fun c => ?_)
    · have h := wp_t c h
      refine r_aload_n hc 0 rfl rfl dX6_reach_27 ?_
      refine r_iload_n hc 1 rfl rfl dX6_reach_28 ?_
      obtain ⟨_, ek12, h⟩ := wp_g h
      obtain ⟨r10, σ11, er10, h⟩ := wp_b h
      refine r_callV hc (k0 := x0) mv_X6_in ml_X6_91 (c_X6_in er10) (chk_of ek12) cls_6.1 rfl rfl rfl (by decide) rfl (Nat.le_of_ble_eq_true rfl) dX6_reach_29 ?_
      refine r_iload_n hc 2 rfl rfl dX6_reach_32 ?_
      obtain ⟨_, ek15, h⟩ := wp_g h
      obtain ⟨r13, σ14, er13, h⟩ := wp_b h
      refine r_callV hc (k0 := r10) mv_X1_ahead ml_X6_159 (c_X1_ahead er13) (chk_of ek15) cls_1.1 rfl rfl rfl (by decide) rfl (Nat.le_of_ble_eq_true rfl) dX6_reach_33 ?_
      refine r_sub [] (lv' := []) rfl ?_
      exact t_X6_reach_b36 hc h
    · have h := wp_f c h
      refine r_bipush hc (v := (-2)) (by decide) dX6_reach_22 ?_
      refine r_goto hc (tgt := 36) dX6_reach_24 (by decide) ?_
      refine r_sub [] (lv' := []) rfl ?_
      exact t_X6_reach_b36 hc h
  · have h := wp_f c h
    refine r_iconst hc (v := (-1)) (by decide) dX6_reach_9 ?_
    have h := wp_v h
    exact r_iret hc h dX6_reach_10
theorem c_X6_reach {l : Launch} {x0 : Nat} {x1 : Int32} {x2 : Int32} {σ σ' : Hp} {r : Int32} (h : f_X6_reach x0 x1 x2 σ = some (r, σ')) : Mt l yX6_reach cX6_reach 3 (some .int) 4 shC (fun ad => [.ref (ad x0), .int x1, .int x2]) σ (fun ad => some (.int r)) σ' := mt_i (own := RX6) (by decide) rfl (fun _ => Nat.le_of_ble_eq_true rfl) (fun γ ad K hc hk => t_X6_reach hc ⟨_, _, h, hk⟩)

-- NetMaps.digit(III)I
theorem dX6_digit_0 : decode cX6_digit 0 = .ok (.iload_n 1, 1) := by decide +kernel
theorem dX6_digit_1 : decode cX6_digit 1 = .ok (.iconst 1, 1) := by decide +kernel
theorem dX6_digit_2 : decode cX6_digit 2 = .ok (.if_icmp .ge 5, 3) := by decide +kernel
theorem dX6_digit_5 : decode cX6_digit 5 = .ok (.iconst 0, 1) := by decide +kernel
theorem dX6_digit_6 : decode cX6_digit 6 = .ok (.ireturn, 1) := by decide +kernel
theorem dX6_digit_7 : decode cX6_digit 7 = .ok (.iload_n 0, 1) := by decide +kernel
theorem dX6_digit_8 : decode cX6_digit 8 = .ok (.istore_n 3, 1) := by decide +kernel
theorem dX6_digit_9 : decode cX6_digit 9 = .ok (.iconst 0, 1) := by decide +kernel
theorem dX6_digit_10 : decode cX6_digit 10 = .ok (.istore 4, 2) := by decide +kernel
theorem dX6_digit_12 : decode cX6_digit 12 = .ok (.iload 4, 2) := by decide +kernel
theorem dX6_digit_14 : decode cX6_digit 14 = .ok (.iload_n 2, 1) := by decide +kernel
theorem dX6_digit_15 : decode cX6_digit 15 = .ok (.if_icmp .ge 13, 3) := by decide +kernel
theorem dX6_digit_18 : decode cX6_digit 18 = .ok (.iload_n 3, 1) := by decide +kernel
theorem dX6_digit_19 : decode cX6_digit 19 = .ok (.iload_n 1, 1) := by decide +kernel
theorem dX6_digit_20 : decode cX6_digit 20 = .ok (.idiv, 1) := by decide +kernel
theorem dX6_digit_21 : decode cX6_digit 21 = .ok (.istore_n 3, 1) := by decide +kernel
theorem dX6_digit_22 : decode cX6_digit 22 = .ok (.iinc 4 1, 3) := by decide +kernel
theorem dX6_digit_25 : decode cX6_digit 25 = .ok (.goto (-13), 3) := by decide +kernel
theorem dX6_digit_28 : decode cX6_digit 28 = .ok (.iload_n 3, 1) := by decide +kernel
theorem dX6_digit_29 : decode cX6_digit 29 = .ok (.iload_n 1, 1) := by decide +kernel
theorem dX6_digit_30 : decode cX6_digit 30 = .ok (.irem, 1) := by decide +kernel
theorem dX6_digit_31 : decode cX6_digit 31 = .ok (.ireturn, 1) := by decide +kernel
noncomputable def f_X6_digit_L12 (x1 : Int32) (x2 : Int32) (v : (Int32 × Int32)) (σ : Hp) : Option (((Int32 × Int32) ⊕ (Int32)) × Hp) := if x2 ≤ v.2 then (some (Sum.inr v.1, σ)) else (gO (nz x1) fun z1 => some (Sum.inl ((v.1 / x1), (v.2 + 1)), σ))
set_option maxRecDepth 100000 in
set_option maxHeartbeats 4000000 in
theorem t_X6_digit_L12 {l : Launch} {γ : Gm} {ad : Nat → Nat} {K : Option Value → Hp → Prop}  (hc : Cx l γ 1 5 ad shC RX6 cX6_digit (some .int) K) {x1 : Int32} {x2 : Int32} {v : (Int32 × Int32)} {σ : Hp} {KX : (Int32) → Hp → Prop} (h : wpO (wh (f_X6_digit_L12 x1 x2) v σ) KX) (kx28 : ∀ (v : Int32) (σ : Hp), KX v σ → WW l γ 1 5 ad shC 28 [(1, .int x1), (3, .int v)] [] σ) : WW l γ 1 5 ad shC 12 [(1, .int x1), (2, .int x2), (3, .int v.1), (4, .int v.2)] [] σ := by
  refine wh_W (P := fun v σ => WW l γ 1 5 ad shC 12 [(1, .int x1), (2, .int x2), (3, .int v.1), (4, .int v.2)] [] σ) (fun v σ h => ?_) h
  have kn : ∀ (v : (Int32 × Int32)) (σ : Hp), WW l γ 1 5 ad shC 12 [(1, .int x1), (2, .int x2), (3, .int v.1), (4, .int v.2)] [] σ → WW l γ 1 5 ad shC 12 [(1, .int x1), (2, .int x2), (3, .int v.1), (4, .int v.2)] [] σ := fun _ _ h => h
  · unfold f_X6_digit_L12 at h
    refine r_iload hc 3 rfl dX6_digit_12 ?_
    refine r_iload_n hc 1 rfl rfl dX6_digit_14 ?_
    refine r_icmp_ge hc (tgt := 28) dX6_digit_15 (by decide) (fun c => ?_) (fun c => ?_)
    · have h := wp_t c h
      refine r_sub [0, 2] (lv' := [(1, .int x1), (3, .int v.1)]) rfl ?_
      have h := wp_v h
      exact kx28 v.1 _ h
    · have h := wp_f c h
      refine r_iload_n hc 2 rfl rfl dX6_digit_18 ?_
      refine r_iload_n hc 0 rfl rfl dX6_digit_19 ?_
      obtain ⟨z1, ez1, h⟩ := wp_g h
      refine r_idiv hc ez1 dX6_digit_20 ?_
      refine r_istore_nE hc (i := 3) (lv' := [(3, .int (v.1 / x1)), (1, .int x1), (2, .int x2), (4, .int v.2)]) rfl rfl (by decide) rfl dX6_digit_21 ?_
      refine r_iincE hc (j := 3) (w := 1) (lv' := [(4, .int (v.2 + 1)), (3, .int (v.1 / x1)), (1, .int x1), (2, .int x2)]) rfl (by decide) rfl (by decide) rfl dX6_digit_22 ?_
      refine r_goto hc (tgt := 12) dX6_digit_25 (by decide) ?_
      refine r_sub [2, 3, 1, 0] (lv' := [(1, .int x1), (2, .int x2), (3, .int (v.1 / x1)), (4, .int (v.2 + 1))]) rfl ?_
      have h := wp_v h
      exact kn ((v.1 / x1), (v.2 + 1)) _ h
noncomputable def f_X6_digit (x0 : Int32) (x1 : Int32) (x2 : Int32) (σ : Hp) : Option (Int32 × Hp) := if 1 ≤ x1 then (bO (wh (f_X6_digit_L12 x1 x2) (x0, 0) σ) fun y1 σ2 => (gO (nz x1) fun z3 => some ((irm y1 x1), σ2))) else (some (0, σ))
set_option maxRecDepth 100000 in
set_option maxHeartbeats 4000000 in
theorem t_X6_digit {l : Launch} {γ : Gm} {ad : Nat → Nat} {K : Option Value → Hp → Prop} (hc : Cx l γ 1 5 ad shC RX6 cX6_digit (some .int) K) {x0 : Int32} {x1 : Int32} {x2 : Int32} {σ : Hp} (h : wpO (f_X6_digit x0 x1 x2 σ) (KI K)) : WW l γ 1 5 ad shC 0 [(0, .int x0), (1, .int x1), (2, .int x2)] [] σ := by
  unfold f_X6_digit at h
  refine r_iload_n hc 1 rfl rfl dX6_digit_0 ?_
  refine r_iconst hc (v := 1) (by decide) dX6_digit_1 ?_
  refine r_icmp_ge hc (tgt := 7) dX6_digit_2 (by decide) (fun c => ?_) (fun c => ?_)
  · have h := wp_t c h
    refine r_iload_n hc 0 rfl rfl dX6_digit_7 ?_
    refine r_istore_nE hc (i := 3) (lv' := [(3, .int x0), (0, .int x0), (1, .int x1), (2, .int x2)]) rfl rfl (by decide) rfl dX6_digit_8 ?_
    refine r_iconst hc (v := 0) (by decide) dX6_digit_9 ?_
    refine r_istoreE hc (i := 4) (lv' := [(4, .int 0), (3, .int x0), (0, .int x0), (1, .int x1), (2, .int x2)]) rfl (by decide) rfl dX6_digit_10 ?_
    refine r_sub [3, 4, 1, 0] (lv' := [(1, .int x1), (2, .int x2), (3, .int x0), (4, .int 0)]) rfl ?_
    refine t_X6_digit_L12 hc (wp_bb h) ?_
    · intro y1 σ2 h
      refine r_iload_n hc 1 rfl rfl dX6_digit_28 ?_
      refine r_iload_n hc 0 rfl rfl dX6_digit_29 ?_
      obtain ⟨z3, ez3, h⟩ := wp_g h
      refine r_irem hc ez3 dX6_digit_30 ?_
      have h := wp_v h
      exact r_iret hc h dX6_digit_31
  · have h := wp_f c h
    refine r_iconst hc (v := 0) (by decide) dX6_digit_5 ?_
    have h := wp_v h
    exact r_iret hc h dX6_digit_6
theorem c_X6_digit {l : Launch} {x0 : Int32} {x1 : Int32} {x2 : Int32} {σ σ' : Hp} {r : Int32} (h : f_X6_digit x0 x1 x2 σ = some (r, σ')) : Mt l yX6_digit cX6_digit 5 (some .int) 1 shC (fun ad => [.int x0, .int x1, .int x2]) σ (fun ad => some (.int r)) σ' := mt_i (own := RX6) (by decide) rfl (fun _ => Nat.le_of_ble_eq_true rfl) (fun γ ad K hc hk => t_X6_digit hc ⟨_, _, h, hk⟩)

-- NetMaps.powerLine(LNetMaps$Net;LNetMaps$Net;II)Z
theorem dX6_powerLine_0 : decode cX6_powerLine 0 = .ok (.iconst 0, 1) := by decide +kernel
theorem dX6_powerLine_1 : decode cX6_powerLine 1 = .ok (.istore 4, 2) := by decide +kernel
theorem dX6_powerLine_3 : decode cX6_powerLine 3 = .ok (.iload 4, 2) := by decide +kernel
theorem dX6_powerLine_5 : decode cX6_powerLine 5 = .ok (.aload_n 1, 1) := by decide +kernel
theorem dX6_powerLine_6 : decode cX6_powerLine 6 = .ok (.getfield 126, 3) := by decide +kernel
theorem dX6_powerLine_9 : decode cX6_powerLine 9 = .ok (.if_icmp .ge 81, 3) := by decide +kernel
theorem dX6_powerLine_12 : decode cX6_powerLine 12 = .ok (.iconst 0, 1) := by decide +kernel
theorem dX6_powerLine_13 : decode cX6_powerLine 13 = .ok (.istore 5, 2) := by decide +kernel
theorem dX6_powerLine_15 : decode cX6_powerLine 15 = .ok (.iload 5, 2) := by decide +kernel
theorem dX6_powerLine_17 : decode cX6_powerLine 17 = .ok (.aload_n 1, 1) := by decide +kernel
theorem dX6_powerLine_18 : decode cX6_powerLine 18 = .ok (.getfield 126, 3) := by decide +kernel
theorem dX6_powerLine_21 : decode cX6_powerLine 21 = .ok (.if_icmp .ge 63, 3) := by decide +kernel
theorem dX6_powerLine_24 : decode cX6_powerLine 24 = .ok (.aload_n 1, 1) := by decide +kernel
theorem dX6_powerLine_25 : decode cX6_powerLine 25 = .ok (.iload 4, 2) := by decide +kernel
theorem dX6_powerLine_27 : decode cX6_powerLine 27 = .ok (.iload 5, 2) := by decide +kernel
theorem dX6_powerLine_29 : decode cX6_powerLine 29 = .ok (.invokevirtual 116, 3) := by decide +kernel
theorem dX6_powerLine_32 : decode cX6_powerLine 32 = .ok (.ifCond .eq 46, 3) := by decide +kernel
theorem dX6_powerLine_35 : decode cX6_powerLine 35 = .ok (.aload_n 0, 1) := by decide +kernel
theorem dX6_powerLine_36 : decode cX6_powerLine 36 = .ok (.iload_n 2, 1) := by decide +kernel
theorem dX6_powerLine_37 : decode cX6_powerLine 37 = .ok (.aload_n 0, 1) := by decide +kernel
theorem dX6_powerLine_38 : decode cX6_powerLine 38 = .ok (.getfield 126, 3) := by decide +kernel
theorem dX6_powerLine_41 : decode cX6_powerLine 41 = .ok (.aload_n 1, 1) := by decide +kernel
theorem dX6_powerLine_42 : decode cX6_powerLine 42 = .ok (.getfield 126, 3) := by decide +kernel
theorem dX6_powerLine_45 : decode cX6_powerLine 45 = .ok (.iconst 1, 1) := by decide +kernel
theorem dX6_powerLine_46 : decode cX6_powerLine 46 = .ok (.isub, 1) := by decide +kernel
theorem dX6_powerLine_47 : decode cX6_powerLine 47 = .ok (.iload 4, 2) := by decide +kernel
theorem dX6_powerLine_49 : decode cX6_powerLine 49 = .ok (.isub, 1) := by decide +kernel
theorem dX6_powerLine_50 : decode cX6_powerLine 50 = .ok (.invokestatic 187, 3) := by decide +kernel
theorem dX6_powerLine_53 : decode cX6_powerLine 53 = .ok (.iload_n 3, 1) := by decide +kernel
theorem dX6_powerLine_54 : decode cX6_powerLine 54 = .ok (.aload_n 0, 1) := by decide +kernel
theorem dX6_powerLine_55 : decode cX6_powerLine 55 = .ok (.getfield 126, 3) := by decide +kernel
theorem dX6_powerLine_58 : decode cX6_powerLine 58 = .ok (.aload_n 1, 1) := by decide +kernel
theorem dX6_powerLine_59 : decode cX6_powerLine 59 = .ok (.getfield 126, 3) := by decide +kernel
theorem dX6_powerLine_62 : decode cX6_powerLine 62 = .ok (.iconst 1, 1) := by decide +kernel
theorem dX6_powerLine_63 : decode cX6_powerLine 63 = .ok (.isub, 1) := by decide +kernel
theorem dX6_powerLine_64 : decode cX6_powerLine 64 = .ok (.iload 5, 2) := by decide +kernel
theorem dX6_powerLine_66 : decode cX6_powerLine 66 = .ok (.isub, 1) := by decide +kernel
theorem dX6_powerLine_67 : decode cX6_powerLine 67 = .ok (.invokestatic 187, 3) := by decide +kernel
theorem dX6_powerLine_70 : decode cX6_powerLine 70 = .ok (.invokevirtual 116, 3) := by decide +kernel
theorem dX6_powerLine_73 : decode cX6_powerLine 73 = .ok (.ifCond .ne 5, 3) := by decide +kernel
theorem dX6_powerLine_76 : decode cX6_powerLine 76 = .ok (.iconst 0, 1) := by decide +kernel
theorem dX6_powerLine_77 : decode cX6_powerLine 77 = .ok (.ireturn, 1) := by decide +kernel
theorem dX6_powerLine_78 : decode cX6_powerLine 78 = .ok (.iinc 5 1, 3) := by decide +kernel
theorem dX6_powerLine_81 : decode cX6_powerLine 81 = .ok (.goto (-66), 3) := by decide +kernel
theorem dX6_powerLine_84 : decode cX6_powerLine 84 = .ok (.iinc 4 1, 3) := by decide +kernel
theorem dX6_powerLine_87 : decode cX6_powerLine 87 = .ok (.goto (-84), 3) := by decide +kernel
theorem dX6_powerLine_90 : decode cX6_powerLine 90 = .ok (.iconst 1, 1) := by decide +kernel
theorem dX6_powerLine_91 : decode cX6_powerLine 91 = .ok (.ireturn, 1) := by decide +kernel
noncomputable def f_X6_powerLine_b78 (x0 : Nat) (x1 : Nat) (x2 : Int32) (x3 : Int32) (x4 : Int32) (x5 : Int32) (σ : Hp) : Option (((Int32) ⊕ ((Unit) ⊕ (Unit))) × Hp) := some (Sum.inl (x5 + 1), σ)
set_option maxRecDepth 100000 in
set_option maxHeartbeats 4000000 in
theorem t_X6_powerLine_b78 {l : Launch} {γ : Gm} {ad : Nat → Nat} {K : Option Value → Hp → Prop} (hc : Cx l γ 3 6 ad shC RX6 cX6_powerLine (some .boolean) K) {x0 : Nat} {x1 : Nat} {x2 : Int32} {x3 : Int32} {x4 : Int32} {x5 : Int32}  {σ : Hp} {KL : ((Int32) ⊕ ((Unit) ⊕ (Unit))) → Hp → Prop} (h : wpO (f_X6_powerLine_b78 x0 x1 x2 x3 x4 x5 σ) KL) (kn : ∀ (v : (Int32)) (σ : Hp), KL (Sum.inl v) σ → WW l γ 3 6 ad shC 15 [(0, .ref (ad x0)), (1, .ref (ad x1)), (2, .int x2), (3, .int x3), (4, .int x4), (5, .int v)] [] σ) (kx76 : ∀ (v : Unit) (σ : Hp), KL (Sum.inr (Sum.inl v)) σ → WW l γ 3 6 ad shC 76 [] [] σ) (kx84 : ∀ (v : Unit) (σ : Hp), KL (Sum.inr (Sum.inr v)) σ → WW l γ 3 6 ad shC 84 [(0, .ref (ad x0)), (1, .ref (ad x1)), (2, .int x2), (3, .int x3), (4, .int x4)] [] σ) : WW l γ 3 6 ad shC 78 [(0, .ref (ad x0)), (1, .ref (ad x1)), (2, .int x2), (3, .int x3), (4, .int x4), (5, .int x5)] [] σ := by
  unfold f_X6_powerLine_b78 at h
  refine r_iincE hc (j := 5) (w := 1) (lv' := [(5, .int (x5 + 1)), (0, .ref (ad x0)), (1, .ref (ad x1)), (2, .int x2), (3, .int x3), (4, .int x4)]) rfl (by decide) rfl (by decide) rfl dX6_powerLine_78 ?_
  refine r_goto hc (tgt := 15) dX6_powerLine_81 (by decide) ?_
  refine r_sub [1, 2, 3, 4, 5, 0] (lv' := [(0, .ref (ad x0)), (1, .ref (ad x1)), (2, .int x2), (3, .int x3), (4, .int x4), (5, .int (x5 + 1))]) rfl ?_
  have h := wp_v h
  exact kn (x5 + 1) _ h
noncomputable def f_X6_powerLine_L15 (x0 : Nat) (x1 : Nat) (x2 : Int32) (x3 : Int32) (x4 : Int32) (v : (Int32)) (σ : Hp) : Option (((Int32) ⊕ ((Unit) ⊕ (Unit))) × Hp) := gO (getI shC 1 x1 0 σ) fun v1 => if v1 ≤ v then (some (Sum.inr (Sum.inr ()), σ)) else (gO (chk shC x1 1) fun _ => bO (f_X1_joins x1 x4 v σ) fun r2 σ3 => if r2 = 0 then (f_X6_powerLine_b78 x0 x1 x2 x3 x4 v σ3) else (gO (getI shC 1 x0 0 σ3) fun v5 => gO (getI shC 1 x1 0 σ3) fun v6 => bO (f_X6_digit x2 v5 ((v6 - 1) - x4) σ3) fun r7 σ8 => gO (getI shC 1 x0 0 σ8) fun v9 => gO (getI shC 1 x1 0 σ8) fun v10 => bO (f_X6_digit x3 v9 ((v10 - 1) - v) σ8) fun r11 σ12 => gO (chk shC x0 1) fun _ => bO (f_X1_joins x0 r7 r11 σ12) fun r13 σ14 => if r13 = 0 then (some (Sum.inr (Sum.inl ()), σ14)) else (f_X6_powerLine_b78 x0 x1 x2 x3 x4 v σ14)))
set_option maxRecDepth 100000 in
set_option maxHeartbeats 4000000 in
theorem t_X6_powerLine_L15 {l : Launch} {γ : Gm} {ad : Nat → Nat} {K : Option Value → Hp → Prop}  (hc : Cx l γ 3 6 ad shC RX6 cX6_powerLine (some .boolean) K) {x0 : Nat} {x1 : Nat} {x2 : Int32} {x3 : Int32} {x4 : Int32} {v : (Int32)} {σ : Hp} {KX : ((Unit) ⊕ (Unit)) → Hp → Prop} (h : wpO (wh (f_X6_powerLine_L15 x0 x1 x2 x3 x4) v σ) KX) (kx76 : ∀ (v : Unit) (σ : Hp), KX (Sum.inl v) σ → WW l γ 3 6 ad shC 76 [] [] σ) (kx84 : ∀ (v : Unit) (σ : Hp), KX (Sum.inr v) σ → WW l γ 3 6 ad shC 84 [(0, .ref (ad x0)), (1, .ref (ad x1)), (2, .int x2), (3, .int x3), (4, .int x4)] [] σ) : WW l γ 3 6 ad shC 15 [(0, .ref (ad x0)), (1, .ref (ad x1)), (2, .int x2), (3, .int x3), (4, .int x4), (5, .int v)] [] σ := by
  refine wh_W (P := fun v σ => WW l γ 3 6 ad shC 15 [(0, .ref (ad x0)), (1, .ref (ad x1)), (2, .int x2), (3, .int x3), (4, .int x4), (5, .int v)] [] σ) (fun v σ h => ?_) h
  have kn : ∀ (v : (Int32)) (σ : Hp), WW l γ 3 6 ad shC 15 [(0, .ref (ad x0)), (1, .ref (ad x1)), (2, .int x2), (3, .int x3), (4, .int x4), (5, .int v)] [] σ → WW l γ 3 6 ad shC 15 [(0, .ref (ad x0)), (1, .ref (ad x1)), (2, .int x2), (3, .int x3), (4, .int x4), (5, .int v)] [] σ := fun _ _ h => h
  · unfold f_X6_powerLine_L15 at h
    refine r_iload hc 5 rfl dX6_powerLine_15 ?_
    refine r_aload_n hc 1 rfl rfl dX6_powerLine_17 ?_
    obtain ⟨v1, ev1, h⟩ := wp_g h
    refine r_getI hc ev1 fl_X6_126 rfl dX6_powerLine_18 ?_
    refine r_icmp_ge hc (tgt := 84) dX6_powerLine_21 (by decide) (fun c => ?_) (fun c => ?_)
    · have h := wp_t c h
      refine r_sub [0, 1, 2, 3, 4] (lv' := [(0, .ref (ad x0)), (1, .ref (ad x1)), (2, .int x2), (3, .int x3), (4, .int x4)]) rfl ?_
      have h := wp_v h
      exact kx84 () _ h
    · have h := wp_f c h
      refine r_aload_n hc 1 rfl rfl dX6_powerLine_24 ?_
      refine r_iload hc 4 rfl dX6_powerLine_25 ?_
      refine r_iload hc 5 rfl dX6_powerLine_27 ?_
      obtain ⟨_, ek4, h⟩ := wp_g h
      obtain ⟨r2, σ3, er2, h⟩ := wp_b h
      refine r_callV hc (k0 := x1) mv_X1_joins ml_X6_116 (c_X1_joins er2) (chk_of ek4) cls_1.1 rfl rfl rfl (by decide) rfl (Nat.le_of_ble_eq_true rfl) dX6_powerLine_29 ?_
      refine r_if_eq hc (tgt := 78) dX6_powerLine_32 (by decide) (fun c => ?_) (fun c => ?_)
      · have h := wp_t c h
        exact t_X6_powerLine_b78 hc h kn kx76 kx84
      · have h := wp_f c h
        refine r_aload_n hc 0 rfl rfl dX6_powerLine_35 ?_
        refine r_iload_n hc 2 rfl rfl dX6_powerLine_36 ?_
        refine r_aload_n hc 0 rfl rfl dX6_powerLine_37 ?_
        obtain ⟨v5, ev5, h⟩ := wp_g h
        refine r_getI hc ev5 fl_X6_126 rfl dX6_powerLine_38 ?_
        refine r_aload_n hc 1 rfl rfl dX6_powerLine_41 ?_
        obtain ⟨v6, ev6, h⟩ := wp_g h
        refine r_getI hc ev6 fl_X6_126 rfl dX6_powerLine_42 ?_
        refine r_iconst hc (v := 1) (by decide) dX6_powerLine_45 ?_
        refine r_isub hc dX6_powerLine_46 ?_
        refine r_iload hc 4 rfl dX6_powerLine_47 ?_
        refine r_isub hc dX6_powerLine_49 ?_
        obtain ⟨r7, σ8, er7, h⟩ := wp_b h
        refine r_callS hc ms_X6_digit ml_X6_187 (c_X6_digit er7) rfl rfl (by decide) rfl (Nat.le_of_ble_eq_true rfl) dX6_powerLine_50 ?_
        refine r_iload_n hc 3 rfl rfl dX6_powerLine_53 ?_
        refine r_aload_n hc 0 rfl rfl dX6_powerLine_54 ?_
        obtain ⟨v9, ev9, h⟩ := wp_g h
        refine r_getI hc ev9 fl_X6_126 rfl dX6_powerLine_55 ?_
        refine r_aload_n hc 1 rfl rfl dX6_powerLine_58 ?_
        obtain ⟨v10, ev10, h⟩ := wp_g h
        refine r_getI hc ev10 fl_X6_126 rfl dX6_powerLine_59 ?_
        refine r_iconst hc (v := 1) (by decide) dX6_powerLine_62 ?_
        refine r_isub hc dX6_powerLine_63 ?_
        refine r_iload hc 5 rfl dX6_powerLine_64 ?_
        refine r_isub hc dX6_powerLine_66 ?_
        obtain ⟨r11, σ12, er11, h⟩ := wp_b h
        refine r_callS hc ms_X6_digit ml_X6_187 (c_X6_digit er11) rfl rfl (by decide) rfl (Nat.le_of_ble_eq_true rfl) dX6_powerLine_67 ?_
        obtain ⟨_, ek15, h⟩ := wp_g h
        obtain ⟨r13, σ14, er13, h⟩ := wp_b h
        refine r_callV hc (k0 := x0) mv_X1_joins ml_X6_116 (c_X1_joins er13) (chk_of ek15) cls_1.1 rfl rfl rfl (by decide) rfl (Nat.le_of_ble_eq_true rfl) dX6_powerLine_70 ?_
        refine r_if_ne hc (tgt := 78) dX6_powerLine_73 (by decide) (fun c => ?_) (fun c => ?_)
        · have h := wp_f c h
          exact t_X6_powerLine_b78 hc h kn kx76 kx84
        · have h := wp_t c h
          refine r_sub [] (lv' := []) rfl ?_
          have h := wp_v h
          exact kx76 () _ h
noncomputable def f_X6_powerLine_L3 (x0 : Nat) (x1 : Nat) (x2 : Int32) (x3 : Int32) (v : (Int32)) (σ : Hp) : Option (((Int32) ⊕ ((Unit) ⊕ (Unit))) × Hp) := gO (getI shC 1 x1 0 σ) fun v1 => if v1 ≤ v then (some (Sum.inr (Sum.inr ()), σ)) else (bO (wh (f_X6_powerLine_L15 x0 x1 x2 x3 v) 0 σ) fun y2 σ3 => (Sum.elim (fun y2' => (some (Sum.inr (Sum.inl ()), σ3))) (fun y4 => (some (Sum.inl (v + 1), σ3))) y2))
set_option maxRecDepth 100000 in
set_option maxHeartbeats 4000000 in
theorem t_X6_powerLine_L3 {l : Launch} {γ : Gm} {ad : Nat → Nat} {K : Option Value → Hp → Prop}  (hc : Cx l γ 3 6 ad shC RX6 cX6_powerLine (some .boolean) K) {x0 : Nat} {x1 : Nat} {x2 : Int32} {x3 : Int32} {v : (Int32)} {σ : Hp} {KX : ((Unit) ⊕ (Unit)) → Hp → Prop} (h : wpO (wh (f_X6_powerLine_L3 x0 x1 x2 x3) v σ) KX) (kx76 : ∀ (v : Unit) (σ : Hp), KX (Sum.inl v) σ → WW l γ 3 6 ad shC 76 [] [] σ) (kx90 : ∀ (v : Unit) (σ : Hp), KX (Sum.inr v) σ → WW l γ 3 6 ad shC 90 [] [] σ) : WW l γ 3 6 ad shC 3 [(0, .ref (ad x0)), (1, .ref (ad x1)), (2, .int x2), (3, .int x3), (4, .int v)] [] σ := by
  refine wh_W (P := fun v σ => WW l γ 3 6 ad shC 3 [(0, .ref (ad x0)), (1, .ref (ad x1)), (2, .int x2), (3, .int x3), (4, .int v)] [] σ) (fun v σ h => ?_) h
  have kn : ∀ (v : (Int32)) (σ : Hp), WW l γ 3 6 ad shC 3 [(0, .ref (ad x0)), (1, .ref (ad x1)), (2, .int x2), (3, .int x3), (4, .int v)] [] σ → WW l γ 3 6 ad shC 3 [(0, .ref (ad x0)), (1, .ref (ad x1)), (2, .int x2), (3, .int x3), (4, .int v)] [] σ := fun _ _ h => h
  · unfold f_X6_powerLine_L3 at h
    refine r_iload hc 4 rfl dX6_powerLine_3 ?_
    refine r_aload_n hc 1 rfl rfl dX6_powerLine_5 ?_
    obtain ⟨v1, ev1, h⟩ := wp_g h
    refine r_getI hc ev1 fl_X6_126 rfl dX6_powerLine_6 ?_
    refine r_icmp_ge hc (tgt := 90) dX6_powerLine_9 (by decide) (fun c => ?_) (fun c => ?_)
    · have h := wp_t c h
      refine r_sub [] (lv' := []) rfl ?_
      have h := wp_v h
      exact kx90 () _ h
    · have h := wp_f c h
      refine r_iconst hc (v := 0) (by decide) dX6_powerLine_12 ?_
      refine r_istoreE hc (i := 5) (lv' := [(5, .int 0), (0, .ref (ad x0)), (1, .ref (ad x1)), (2, .int x2), (3, .int x3), (4, .int v)]) rfl (by decide) rfl dX6_powerLine_13 ?_
      refine r_sub [1, 2, 3, 4, 5, 0] (lv' := [(0, .ref (ad x0)), (1, .ref (ad x1)), (2, .int x2), (3, .int x3), (4, .int v), (5, .int 0)]) rfl ?_
      refine t_X6_powerLine_L15 hc (wp_bb h) ?_ ?_
      · intro y2' σ3 h
        have h := wp_sl h
        have h := wp_v h
        exact kx76 () _ h
      · intro y4 σ3 h
        have h := wp_sr h
        refine r_iincE hc (j := 4) (w := 1) (lv' := [(4, .int (v + 1)), (0, .ref (ad x0)), (1, .ref (ad x1)), (2, .int x2), (3, .int x3)]) rfl (by decide) rfl (by decide) rfl dX6_powerLine_84 ?_
        refine r_goto hc (tgt := 3) dX6_powerLine_87 (by decide) ?_
        refine r_sub [1, 2, 3, 4, 0] (lv' := [(0, .ref (ad x0)), (1, .ref (ad x1)), (2, .int x2), (3, .int x3), (4, .int (v + 1))]) rfl ?_
        have h := wp_v h
        exact kn (v + 1) _ h
noncomputable def f_X6_powerLine (x0 : Nat) (x1 : Nat) (x2 : Int32) (x3 : Int32) (σ : Hp) : Option (Int32 × Hp) := bO (wh (f_X6_powerLine_L3 x0 x1 x2 x3) 0 σ) fun y1 σ2 => (Sum.elim (fun y1' => (some (0, σ2))) (fun y3 => (some (1, σ2))) y1)
set_option maxRecDepth 100000 in
set_option maxHeartbeats 4000000 in
theorem t_X6_powerLine {l : Launch} {γ : Gm} {ad : Nat → Nat} {K : Option Value → Hp → Prop} (hc : Cx l γ 3 6 ad shC RX6 cX6_powerLine (some .boolean) K) {x0 : Nat} {x1 : Nat} {x2 : Int32} {x3 : Int32} {σ : Hp} (h : wpO (f_X6_powerLine x0 x1 x2 x3 σ) (KI K)) : WW l γ 3 6 ad shC 0 [(0, .ref (ad x0)), (1, .ref (ad x1)), (2, .int x2), (3, .int x3)] [] σ := by
  unfold f_X6_powerLine at h
  refine r_iconst hc (v := 0) (by decide) dX6_powerLine_0 ?_
  refine r_istoreE hc (i := 4) (lv' := [(4, .int 0), (0, .ref (ad x0)), (1, .ref (ad x1)), (2, .int x2), (3, .int x3)]) rfl (by decide) rfl dX6_powerLine_1 ?_
  refine r_sub [1, 2, 3, 4, 0] (lv' := [(0, .ref (ad x0)), (1, .ref (ad x1)), (2, .int x2), (3, .int x3), (4, .int 0)]) rfl ?_
  refine t_X6_powerLine_L3 hc (wp_bb h) ?_ ?_
  · intro y1' σ2 h
    have h := wp_sl h
    refine r_iconst hc (v := 0) (by decide) dX6_powerLine_76 ?_
    have h := wp_v h
    exact r_zret hc h (by decide) dX6_powerLine_77
  · intro y3 σ2 h
    have h := wp_sr h
    refine r_iconst hc (v := 1) (by decide) dX6_powerLine_90 ?_
    have h := wp_v h
    exact r_zret hc h (by decide) dX6_powerLine_91
theorem c_X6_powerLine {l : Launch} {x0 : Nat} {x1 : Nat} {x2 : Int32} {x3 : Int32} {σ σ' : Hp} {r : Int32} (h : f_X6_powerLine x0 x1 x2 x3 σ = some (r, σ')) : Mt l yX6_powerLine cX6_powerLine 6 (some .boolean) 3 shC (fun ad => [.ref (ad x0), .ref (ad x1), .int x2, .int x3]) σ (fun ad => some (.int r)) σ' := mt_i (own := RX6) (by decide) rfl (fun _ => Nat.le_of_ble_eq_true rfl) (fun γ ad K hc hk => t_X6_powerLine hc ⟨_, _, h, hk⟩)

-- NetMaps.productLine(LNetMaps$Net;LNetMaps$Net;II)Z
theorem dX6_productLine_0 : decode cX6_productLine 0 = .ok (.aload_n 1, 1) := by decide +kernel
theorem dX6_productLine_1 : decode cX6_productLine 1 = .ok (.getfield 126, 3) := by decide +kernel
theorem dX6_productLine_4 : decode cX6_productLine 4 = .ok (.istore 4, 2) := by decide +kernel
theorem dX6_productLine_6 : decode cX6_productLine 6 = .ok (.iload 4, 2) := by decide +kernel
theorem dX6_productLine_8 : decode cX6_productLine 8 = .ok (.iconst 1, 1) := by decide +kernel
theorem dX6_productLine_9 : decode cX6_productLine 9 = .ok (.if_icmp .ge 5, 3) := by decide +kernel
theorem dX6_productLine_12 : decode cX6_productLine 12 = .ok (.iconst 0, 1) := by decide +kernel
theorem dX6_productLine_13 : decode cX6_productLine 13 = .ok (.ireturn, 1) := by decide +kernel
theorem dX6_productLine_14 : decode cX6_productLine 14 = .ok (.aload_n 0, 1) := by decide +kernel
theorem dX6_productLine_15 : decode cX6_productLine 15 = .ok (.iload_n 2, 1) := by decide +kernel
theorem dX6_productLine_16 : decode cX6_productLine 16 = .ok (.iload 4, 2) := by decide +kernel
theorem dX6_productLine_18 : decode cX6_productLine 18 = .ok (.idiv, 1) := by decide +kernel
theorem dX6_productLine_19 : decode cX6_productLine 19 = .ok (.iload_n 3, 1) := by decide +kernel
theorem dX6_productLine_20 : decode cX6_productLine 20 = .ok (.iload 4, 2) := by decide +kernel
theorem dX6_productLine_22 : decode cX6_productLine 22 = .ok (.idiv, 1) := by decide +kernel
theorem dX6_productLine_23 : decode cX6_productLine 23 = .ok (.invokevirtual 116, 3) := by decide +kernel
theorem dX6_productLine_26 : decode cX6_productLine 26 = .ok (.ifCond .eq 22, 3) := by decide +kernel
theorem dX6_productLine_29 : decode cX6_productLine 29 = .ok (.aload_n 1, 1) := by decide +kernel
theorem dX6_productLine_30 : decode cX6_productLine 30 = .ok (.iload_n 2, 1) := by decide +kernel
theorem dX6_productLine_31 : decode cX6_productLine 31 = .ok (.iload 4, 2) := by decide +kernel
theorem dX6_productLine_33 : decode cX6_productLine 33 = .ok (.irem, 1) := by decide +kernel
theorem dX6_productLine_34 : decode cX6_productLine 34 = .ok (.iload_n 3, 1) := by decide +kernel
theorem dX6_productLine_35 : decode cX6_productLine 35 = .ok (.iload 4, 2) := by decide +kernel
theorem dX6_productLine_37 : decode cX6_productLine 37 = .ok (.irem, 1) := by decide +kernel
theorem dX6_productLine_38 : decode cX6_productLine 38 = .ok (.invokevirtual 116, 3) := by decide +kernel
theorem dX6_productLine_41 : decode cX6_productLine 41 = .ok (.ifCond .eq 7, 3) := by decide +kernel
theorem dX6_productLine_44 : decode cX6_productLine 44 = .ok (.iconst 1, 1) := by decide +kernel
theorem dX6_productLine_45 : decode cX6_productLine 45 = .ok (.goto 4, 3) := by decide +kernel
theorem dX6_productLine_48 : decode cX6_productLine 48 = .ok (.iconst 0, 1) := by decide +kernel
theorem dX6_productLine_49 : decode cX6_productLine 49 = .ok (.ireturn, 1) := by decide +kernel
noncomputable def f_X6_productLine_b49 (s0 : Int32) (σ : Hp) : Option (Int32 × Hp) := gO (zz s0) fun _ => some (s0, σ)
set_option maxRecDepth 100000 in
set_option maxHeartbeats 4000000 in
theorem t_X6_productLine_b49 {l : Launch} {γ : Gm} {ad : Nat → Nat} {K : Option Value → Hp → Prop} (hc : Cx l γ 3 5 ad shC RX6 cX6_productLine (some .boolean) K) {s0 : Int32} {σ : Hp} (h : wpO (f_X6_productLine_b49 s0 σ) (KI K)) : WW l γ 3 5 ad shC 49 [] [.int s0] σ := by
  unfold f_X6_productLine_b49 at h
  obtain ⟨_, ek1, h⟩ := wp_g h
  have h := wp_v h
  exact r_zret hc h (zz_of ek1) dX6_productLine_49
noncomputable def f_X6_productLine_b48  (σ : Hp) : Option (Int32 × Hp) := f_X6_productLine_b49 0 σ
set_option maxRecDepth 100000 in
set_option maxHeartbeats 4000000 in
theorem t_X6_productLine_b48 {l : Launch} {γ : Gm} {ad : Nat → Nat} {K : Option Value → Hp → Prop} (hc : Cx l γ 3 5 ad shC RX6 cX6_productLine (some .boolean) K)  {σ : Hp} (h : wpO (f_X6_productLine_b48  σ) (KI K)) : WW l γ 3 5 ad shC 48 [] [] σ := by
  unfold f_X6_productLine_b48 at h
  refine r_iconst hc (v := 0) (by decide) dX6_productLine_48 ?_
  exact t_X6_productLine_b49 hc h
noncomputable def f_X6_productLine (x0 : Nat) (x1 : Nat) (x2 : Int32) (x3 : Int32) (σ : Hp) : Option (Int32 × Hp) := gO (getI shC 1 x1 0 σ) fun v1 => if 1 ≤ v1 then (gO (nz v1) fun z2 => gO (nz v1) fun z3 => gO (chk shC x0 1) fun _ => bO (f_X1_joins x0 (x2 / v1) (x3 / v1) σ) fun r4 σ5 => if r4 = 0 then (f_X6_productLine_b48  σ5) else (gO (nz v1) fun z7 => gO (nz v1) fun z8 => gO (chk shC x1 1) fun _ => bO (f_X1_joins x1 (irm x2 v1) (irm x3 v1) σ5) fun r9 σ10 => if r9 = 0 then (f_X6_productLine_b48  σ10) else (f_X6_productLine_b49 1 σ10))) else (some (0, σ))
set_option maxRecDepth 100000 in
set_option maxHeartbeats 4000000 in
theorem t_X6_productLine {l : Launch} {γ : Gm} {ad : Nat → Nat} {K : Option Value → Hp → Prop} (hc : Cx l γ 3 5 ad shC RX6 cX6_productLine (some .boolean) K) {x0 : Nat} {x1 : Nat} {x2 : Int32} {x3 : Int32} {σ : Hp} (h : wpO (f_X6_productLine x0 x1 x2 x3 σ) (KI K)) : WW l γ 3 5 ad shC 0 [(0, .ref (ad x0)), (1, .ref (ad x1)), (2, .int x2), (3, .int x3)] [] σ := by
  unfold f_X6_productLine at h
  refine r_aload_n hc 1 rfl rfl dX6_productLine_0 ?_
  obtain ⟨v1, ev1, h⟩ := wp_g h
  refine r_getI hc ev1 fl_X6_126 rfl dX6_productLine_1 ?_
  refine r_istoreE hc (i := 4) (lv' := [(4, .int v1), (0, .ref (ad x0)), (1, .ref (ad x1)), (2, .int x2), (3, .int x3)]) rfl (by decide) rfl dX6_productLine_4 ?_
  refine r_iload hc 0 rfl dX6_productLine_6 ?_
  refine r_iconst hc (v := 1) (by decide) dX6_productLine_8 ?_
  refine r_icmp_ge hc (tgt := 14) dX6_productLine_9 (by decide) (fun c => ?_) (fun c => ?_)
  · have h := wp_t c h
    refine r_aload_n hc 1 rfl rfl dX6_productLine_14 ?_
    refine r_iload_n hc 3 rfl rfl dX6_productLine_15 ?_
    refine r_iload hc 0 rfl dX6_productLine_16 ?_
    obtain ⟨z2, ez2, h⟩ := wp_g h
    refine r_idiv hc ez2 dX6_productLine_18 ?_
    refine r_iload_n hc 4 rfl rfl dX6_productLine_19 ?_
    refine r_iload hc 0 rfl dX6_productLine_20 ?_
    obtain ⟨z3, ez3, h⟩ := wp_g h
    refine r_idiv hc ez3 dX6_productLine_22 ?_
    obtain ⟨_, ek6, h⟩ := wp_g h
    obtain ⟨r4, σ5, er4, h⟩ := wp_b h
    refine r_callV hc (k0 := x0) mv_X1_joins ml_X6_116 (c_X1_joins er4) (chk_of ek6) cls_1.1 rfl rfl rfl (by decide) rfl (Nat.le_of_ble_eq_true rfl) dX6_productLine_23 ?_
    refine r_if_eq hc (tgt := 48) dX6_productLine_26 (by decide) (fun c => ?_) (fun c => ?_)
    · have h := wp_t c h
      refine r_sub [] (lv' := []) rfl ?_
      exact t_X6_productLine_b48 hc h
    · have h := wp_f c h
      refine r_aload_n hc 2 rfl rfl dX6_productLine_29 ?_
      refine r_iload_n hc 3 rfl rfl dX6_productLine_30 ?_
      refine r_iload hc 0 rfl dX6_productLine_31 ?_
      obtain ⟨z7, ez7, h⟩ := wp_g h
      refine r_irem hc ez7 dX6_productLine_33 ?_
      refine r_iload_n hc 4 rfl rfl dX6_productLine_34 ?_
      refine r_iload hc 0 rfl dX6_productLine_35 ?_
      obtain ⟨z8, ez8, h⟩ := wp_g h
      refine r_irem hc ez8 dX6_productLine_37 ?_
      obtain ⟨_, ek11, h⟩ := wp_g h
      obtain ⟨r9, σ10, er9, h⟩ := wp_b h
      refine r_callV hc (k0 := x1) mv_X1_joins ml_X6_116 (c_X1_joins er9) (chk_of ek11) cls_1.1 rfl rfl rfl (by decide) rfl (Nat.le_of_ble_eq_true rfl) dX6_productLine_38 ?_
      refine r_if_eq hc (tgt := 48) dX6_productLine_41 (by decide) (fun c => ?_) (fun c => ?_)
      · have h := wp_t c h
        refine r_sub [] (lv' := []) rfl ?_
        exact t_X6_productLine_b48 hc h
      · have h := wp_f c h
        refine r_iconst hc (v := 1) (by decide) dX6_productLine_44 ?_
        refine r_goto hc (tgt := 49) dX6_productLine_45 (by decide) ?_
        refine r_sub [] (lv' := []) rfl ?_
        exact t_X6_productLine_b49 hc h
  · have h := wp_f c h
    refine r_iconst hc (v := 0) (by decide) dX6_productLine_12 ?_
    have h := wp_v h
    exact r_zret hc h (by decide) dX6_productLine_13
theorem c_X6_productLine {l : Launch} {x0 : Nat} {x1 : Nat} {x2 : Int32} {x3 : Int32} {σ σ' : Hp} {r : Int32} (h : f_X6_productLine x0 x1 x2 x3 σ = some (r, σ')) : Mt l yX6_productLine cX6_productLine 5 (some .boolean) 3 shC (fun ad => [.ref (ad x0), .ref (ad x1), .int x2, .int x3]) σ (fun ad => some (.int r)) σ' := mt_i (own := RX6) (by decide) rfl (fun _ => Nat.le_of_ble_eq_true rfl) (fun γ ad K hc hk => t_X6_productLine hc ⟨_, _, h, hk⟩)

-- NetMaps.sumLine(LNetMaps$Net;LNetMaps$Net;II)Z
theorem dX6_sumLine_0 : decode cX6_sumLine 0 = .ok (.aload_n 0, 1) := by decide +kernel
theorem dX6_sumLine_1 : decode cX6_sumLine 1 = .ok (.getfield 126, 3) := by decide +kernel
theorem dX6_sumLine_4 : decode cX6_sumLine 4 = .ok (.istore 4, 2) := by decide +kernel
theorem dX6_sumLine_6 : decode cX6_sumLine 6 = .ok (.iload_n 2, 1) := by decide +kernel
theorem dX6_sumLine_7 : decode cX6_sumLine 7 = .ok (.iload 4, 2) := by decide +kernel
theorem dX6_sumLine_9 : decode cX6_sumLine 9 = .ok (.if_icmp .ge 16, 3) := by decide +kernel
theorem dX6_sumLine_12 : decode cX6_sumLine 12 = .ok (.iload_n 3, 1) := by decide +kernel
theorem dX6_sumLine_13 : decode cX6_sumLine 13 = .ok (.iload 4, 2) := by decide +kernel
theorem dX6_sumLine_15 : decode cX6_sumLine 15 = .ok (.if_icmp .ge 10, 3) := by decide +kernel
theorem dX6_sumLine_18 : decode cX6_sumLine 18 = .ok (.aload_n 0, 1) := by decide +kernel
theorem dX6_sumLine_19 : decode cX6_sumLine 19 = .ok (.iload_n 2, 1) := by decide +kernel
theorem dX6_sumLine_20 : decode cX6_sumLine 20 = .ok (.iload_n 3, 1) := by decide +kernel
theorem dX6_sumLine_21 : decode cX6_sumLine 21 = .ok (.invokevirtual 116, 3) := by decide +kernel
theorem dX6_sumLine_24 : decode cX6_sumLine 24 = .ok (.ireturn, 1) := by decide +kernel
theorem dX6_sumLine_25 : decode cX6_sumLine 25 = .ok (.iload_n 2, 1) := by decide +kernel
theorem dX6_sumLine_26 : decode cX6_sumLine 26 = .ok (.iload 4, 2) := by decide +kernel
theorem dX6_sumLine_28 : decode cX6_sumLine 28 = .ok (.if_icmp .lt 28, 3) := by decide +kernel
theorem dX6_sumLine_31 : decode cX6_sumLine 31 = .ok (.iload_n 3, 1) := by decide +kernel
theorem dX6_sumLine_32 : decode cX6_sumLine 32 = .ok (.iload 4, 2) := by decide +kernel
theorem dX6_sumLine_34 : decode cX6_sumLine 34 = .ok (.if_icmp .lt 22, 3) := by decide +kernel
theorem dX6_sumLine_37 : decode cX6_sumLine 37 = .ok (.aload_n 1, 1) := by decide +kernel
theorem dX6_sumLine_38 : decode cX6_sumLine 38 = .ok (.iload_n 2, 1) := by decide +kernel
theorem dX6_sumLine_39 : decode cX6_sumLine 39 = .ok (.iload 4, 2) := by decide +kernel
theorem dX6_sumLine_41 : decode cX6_sumLine 41 = .ok (.isub, 1) := by decide +kernel
theorem dX6_sumLine_42 : decode cX6_sumLine 42 = .ok (.iload_n 3, 1) := by decide +kernel
theorem dX6_sumLine_43 : decode cX6_sumLine 43 = .ok (.iload 4, 2) := by decide +kernel
theorem dX6_sumLine_45 : decode cX6_sumLine 45 = .ok (.isub, 1) := by decide +kernel
theorem dX6_sumLine_46 : decode cX6_sumLine 46 = .ok (.invokevirtual 116, 3) := by decide +kernel
theorem dX6_sumLine_49 : decode cX6_sumLine 49 = .ok (.ifCond .eq 7, 3) := by decide +kernel
theorem dX6_sumLine_52 : decode cX6_sumLine 52 = .ok (.iconst 1, 1) := by decide +kernel
theorem dX6_sumLine_53 : decode cX6_sumLine 53 = .ok (.goto 4, 3) := by decide +kernel
theorem dX6_sumLine_56 : decode cX6_sumLine 56 = .ok (.iconst 0, 1) := by decide +kernel
theorem dX6_sumLine_57 : decode cX6_sumLine 57 = .ok (.ireturn, 1) := by decide +kernel
noncomputable def f_X6_sumLine_b57 (s0 : Int32) (σ : Hp) : Option (Int32 × Hp) := gO (zz s0) fun _ => some (s0, σ)
set_option maxRecDepth 100000 in
set_option maxHeartbeats 4000000 in
theorem t_X6_sumLine_b57 {l : Launch} {γ : Gm} {ad : Nat → Nat} {K : Option Value → Hp → Prop} (hc : Cx l γ 3 5 ad shC RX6 cX6_sumLine (some .boolean) K) {s0 : Int32} {σ : Hp} (h : wpO (f_X6_sumLine_b57 s0 σ) (KI K)) : WW l γ 3 5 ad shC 57 [] [.int s0] σ := by
  unfold f_X6_sumLine_b57 at h
  obtain ⟨_, ek1, h⟩ := wp_g h
  have h := wp_v h
  exact r_zret hc h (zz_of ek1) dX6_sumLine_57
noncomputable def f_X6_sumLine_b56  (σ : Hp) : Option (Int32 × Hp) := f_X6_sumLine_b57 0 σ
set_option maxRecDepth 100000 in
set_option maxHeartbeats 4000000 in
theorem t_X6_sumLine_b56 {l : Launch} {γ : Gm} {ad : Nat → Nat} {K : Option Value → Hp → Prop} (hc : Cx l γ 3 5 ad shC RX6 cX6_sumLine (some .boolean) K)  {σ : Hp} (h : wpO (f_X6_sumLine_b56  σ) (KI K)) : WW l γ 3 5 ad shC 56 [] [] σ := by
  unfold f_X6_sumLine_b56 at h
  refine r_iconst hc (v := 0) (by decide) dX6_sumLine_56 ?_
  exact t_X6_sumLine_b57 hc h
noncomputable def f_X6_sumLine_b25 (x1 : Nat) (x2 : Int32) (x3 : Int32) (x4 : Int32) (σ : Hp) : Option (Int32 × Hp) := if x2 < x4 then (f_X6_sumLine_b56  σ) else (if x3 < x4 then (f_X6_sumLine_b56  σ) else (gO (chk shC x1 1) fun _ => bO (f_X1_joins x1 (x2 - x4) (x3 - x4) σ) fun r1 σ2 => if r1 = 0 then (f_X6_sumLine_b56  σ2) else (f_X6_sumLine_b57 1 σ2)))
set_option maxRecDepth 100000 in
set_option maxHeartbeats 4000000 in
theorem t_X6_sumLine_b25 {l : Launch} {γ : Gm} {ad : Nat → Nat} {K : Option Value → Hp → Prop} (hc : Cx l γ 3 5 ad shC RX6 cX6_sumLine (some .boolean) K) {x1 : Nat} {x2 : Int32} {x3 : Int32} {x4 : Int32} {σ : Hp} (h : wpO (f_X6_sumLine_b25 x1 x2 x3 x4 σ) (KI K)) : WW l γ 3 5 ad shC 25 [(1, .ref (ad x1)), (2, .int x2), (3, .int x3), (4, .int x4)] [] σ := by
  unfold f_X6_sumLine_b25 at h
  refine r_iload_n hc 1 rfl rfl dX6_sumLine_25 ?_
  refine r_iload hc 3 rfl dX6_sumLine_26 ?_
  refine r_icmp_lt hc (tgt := 56) dX6_sumLine_28 (by decide) (fun c => ?_) (fun c => ?_)
  · have h := wp_t c h
    refine r_sub [] (lv' := []) rfl ?_
    exact t_X6_sumLine_b56 hc h
  · have h := wp_f c h
    refine r_iload_n hc 2 rfl rfl dX6_sumLine_31 ?_
    refine r_iload hc 3 rfl dX6_sumLine_32 ?_
    refine r_icmp_lt hc (tgt := 56) dX6_sumLine_34 (by decide) (fun c => ?_) (fun c => ?_)
    · have h := wp_t c h
      refine r_sub [] (lv' := []) rfl ?_
      exact t_X6_sumLine_b56 hc h
    · have h := wp_f c h
      refine r_aload_n hc 0 rfl rfl dX6_sumLine_37 ?_
      refine r_iload_n hc 1 rfl rfl dX6_sumLine_38 ?_
      refine r_iload hc 3 rfl dX6_sumLine_39 ?_
      refine r_isub hc dX6_sumLine_41 ?_
      refine r_iload_n hc 2 rfl rfl dX6_sumLine_42 ?_
      refine r_iload hc 3 rfl dX6_sumLine_43 ?_
      refine r_isub hc dX6_sumLine_45 ?_
      obtain ⟨_, ek3, h⟩ := wp_g h
      obtain ⟨r1, σ2, er1, h⟩ := wp_b h
      refine r_callV hc (k0 := x1) mv_X1_joins ml_X6_116 (c_X1_joins er1) (chk_of ek3) cls_1.1 rfl rfl rfl (by decide) rfl (Nat.le_of_ble_eq_true rfl) dX6_sumLine_46 ?_
      refine r_if_eq hc (tgt := 56) dX6_sumLine_49 (by decide) (fun c => ?_) (fun c => ?_)
      · have h := wp_t c h
        refine r_sub [] (lv' := []) rfl ?_
        exact t_X6_sumLine_b56 hc h
      · have h := wp_f c h
        refine r_iconst hc (v := 1) (by decide) dX6_sumLine_52 ?_
        refine r_goto hc (tgt := 57) dX6_sumLine_53 (by decide) ?_
        refine r_sub [] (lv' := []) rfl ?_
        exact t_X6_sumLine_b57 hc h
noncomputable def f_X6_sumLine (x0 : Nat) (x1 : Nat) (x2 : Int32) (x3 : Int32) (σ : Hp) : Option (Int32 × Hp) := gO (getI shC 1 x0 0 σ) fun v1 => if v1 ≤ x2 then (f_X6_sumLine_b25 x1 x2 x3 v1 σ) else (if v1 ≤ x3 then (f_X6_sumLine_b25 x1 x2 x3 v1 σ) else (gO (chk shC x0 1) fun _ => bO (f_X1_joins x0 x2 x3 σ) fun r2 σ3 => gO (zz r2) fun _ => some (r2, σ3)))
set_option maxRecDepth 100000 in
set_option maxHeartbeats 4000000 in
theorem t_X6_sumLine {l : Launch} {γ : Gm} {ad : Nat → Nat} {K : Option Value → Hp → Prop} (hc : Cx l γ 3 5 ad shC RX6 cX6_sumLine (some .boolean) K) {x0 : Nat} {x1 : Nat} {x2 : Int32} {x3 : Int32} {σ : Hp} (h : wpO (f_X6_sumLine x0 x1 x2 x3 σ) (KI K)) : WW l γ 3 5 ad shC 0 [(0, .ref (ad x0)), (1, .ref (ad x1)), (2, .int x2), (3, .int x3)] [] σ := by
  unfold f_X6_sumLine at h
  refine r_aload_n hc 0 rfl rfl dX6_sumLine_0 ?_
  obtain ⟨v1, ev1, h⟩ := wp_g h
  refine r_getI hc ev1 fl_X6_126 rfl dX6_sumLine_1 ?_
  refine r_istoreE hc (i := 4) (lv' := [(4, .int v1), (0, .ref (ad x0)), (1, .ref (ad x1)), (2, .int x2), (3, .int x3)]) rfl (by decide) rfl dX6_sumLine_4 ?_
  refine r_iload_n hc 3 rfl rfl dX6_sumLine_6 ?_
  refine r_iload hc 0 rfl dX6_sumLine_7 ?_
  refine r_icmp_ge hc (tgt := 25) dX6_sumLine_9 (by decide) (fun c => ?_) (fun c => ?_)
  · have h := wp_t c h
    refine r_sub [2, 3, 4, 0] (lv' := [(1, .ref (ad x1)), (2, .int x2), (3, .int x3), (4, .int v1)]) rfl ?_
    exact t_X6_sumLine_b25 hc h
  · have h := wp_f c h
    refine r_iload_n hc 4 rfl rfl dX6_sumLine_12 ?_
    refine r_iload hc 0 rfl dX6_sumLine_13 ?_
    refine r_icmp_ge hc (tgt := 25) dX6_sumLine_15 (by decide) (fun c => ?_) (fun c => ?_)
    · have h := wp_t c h
      refine r_sub [2, 3, 4, 0] (lv' := [(1, .ref (ad x1)), (2, .int x2), (3, .int x3), (4, .int v1)]) rfl ?_
      exact t_X6_sumLine_b25 hc h
    · have h := wp_f c h
      refine r_aload_n hc 1 rfl rfl dX6_sumLine_18 ?_
      refine r_iload_n hc 3 rfl rfl dX6_sumLine_19 ?_
      refine r_iload_n hc 4 rfl rfl dX6_sumLine_20 ?_
      obtain ⟨_, ek4, h⟩ := wp_g h
      obtain ⟨r2, σ3, er2, h⟩ := wp_b h
      refine r_callV hc (k0 := x0) mv_X1_joins ml_X6_116 (c_X1_joins er2) (chk_of ek4) cls_1.1 rfl rfl rfl (by decide) rfl (Nat.le_of_ble_eq_true rfl) dX6_sumLine_21 ?_
      obtain ⟨_, ek5, h⟩ := wp_g h
      have h := wp_v h
      exact r_zret hc h (zz_of ek5) dX6_sumLine_24
theorem c_X6_sumLine {l : Launch} {x0 : Nat} {x1 : Nat} {x2 : Int32} {x3 : Int32} {σ σ' : Hp} {r : Int32} (h : f_X6_sumLine x0 x1 x2 x3 σ = some (r, σ')) : Mt l yX6_sumLine cX6_sumLine 5 (some .boolean) 3 shC (fun ad => [.ref (ad x0), .ref (ad x1), .int x2, .int x3]) σ (fun ad => some (.int r)) σ' := mt_i (own := RX6) (by decide) rfl (fun _ => Nat.le_of_ble_eq_true rfl) (fun γ ad K hc hk => t_X6_sumLine hc ⟨_, _, h, hk⟩)

-- NetMaps.madeLine(LNetMaps$Net;LNetMaps$Net;III)Z
theorem dX6_madeLine_0 : decode cX6_madeLine 0 = .ok (.iload_n 2, 1) := by decide +kernel
theorem dX6_madeLine_1 : decode cX6_madeLine 1 = .ok (.tableswitch 101 0 3 #[31, 40, 49, 75], 31) := by decide +kernel
theorem dX6_madeLine_32 : decode cX6_madeLine 32 = .ok (.aload_n 0, 1) := by decide +kernel
theorem dX6_madeLine_33 : decode cX6_madeLine 33 = .ok (.aload_n 1, 1) := by decide +kernel
theorem dX6_madeLine_34 : decode cX6_madeLine 34 = .ok (.iload_n 3, 1) := by decide +kernel
theorem dX6_madeLine_35 : decode cX6_madeLine 35 = .ok (.iload 4, 2) := by decide +kernel
theorem dX6_madeLine_37 : decode cX6_madeLine 37 = .ok (.invokestatic 177, 3) := by decide +kernel
theorem dX6_madeLine_40 : decode cX6_madeLine 40 = .ok (.ireturn, 1) := by decide +kernel
theorem dX6_madeLine_41 : decode cX6_madeLine 41 = .ok (.aload_n 0, 1) := by decide +kernel
theorem dX6_madeLine_42 : decode cX6_madeLine 42 = .ok (.aload_n 1, 1) := by decide +kernel
theorem dX6_madeLine_43 : decode cX6_madeLine 43 = .ok (.iload_n 3, 1) := by decide +kernel
theorem dX6_madeLine_44 : decode cX6_madeLine 44 = .ok (.iload 4, 2) := by decide +kernel
theorem dX6_madeLine_46 : decode cX6_madeLine 46 = .ok (.invokestatic 181, 3) := by decide +kernel
theorem dX6_madeLine_49 : decode cX6_madeLine 49 = .ok (.ireturn, 1) := by decide +kernel
theorem dX6_madeLine_50 : decode cX6_madeLine 50 = .ok (.aload_n 0, 1) := by decide +kernel
theorem dX6_madeLine_51 : decode cX6_madeLine 51 = .ok (.iload_n 3, 1) := by decide +kernel
theorem dX6_madeLine_52 : decode cX6_madeLine 52 = .ok (.iload 4, 2) := by decide +kernel
theorem dX6_madeLine_54 : decode cX6_madeLine 54 = .ok (.invokevirtual 116, 3) := by decide +kernel
theorem dX6_madeLine_57 : decode cX6_madeLine 57 = .ok (.ifCond .ne 13, 3) := by decide +kernel
theorem dX6_madeLine_60 : decode cX6_madeLine 60 = .ok (.aload_n 1, 1) := by decide +kernel
theorem dX6_madeLine_61 : decode cX6_madeLine 61 = .ok (.iload_n 3, 1) := by decide +kernel
theorem dX6_madeLine_62 : decode cX6_madeLine 62 = .ok (.iload 4, 2) := by decide +kernel
theorem dX6_madeLine_64 : decode cX6_madeLine 64 = .ok (.invokevirtual 116, 3) := by decide +kernel
theorem dX6_madeLine_67 : decode cX6_madeLine 67 = .ok (.ifCond .eq 7, 3) := by decide +kernel
theorem dX6_madeLine_70 : decode cX6_madeLine 70 = .ok (.iconst 1, 1) := by decide +kernel
theorem dX6_madeLine_71 : decode cX6_madeLine 71 = .ok (.goto 4, 3) := by decide +kernel
theorem dX6_madeLine_74 : decode cX6_madeLine 74 = .ok (.iconst 0, 1) := by decide +kernel
theorem dX6_madeLine_75 : decode cX6_madeLine 75 = .ok (.ireturn, 1) := by decide +kernel
theorem dX6_madeLine_76 : decode cX6_madeLine 76 = .ok (.aload_n 0, 1) := by decide +kernel
theorem dX6_madeLine_77 : decode cX6_madeLine 77 = .ok (.iload_n 3, 1) := by decide +kernel
theorem dX6_madeLine_78 : decode cX6_madeLine 78 = .ok (.iload 4, 2) := by decide +kernel
theorem dX6_madeLine_80 : decode cX6_madeLine 80 = .ok (.invokevirtual 116, 3) := by decide +kernel
theorem dX6_madeLine_83 : decode cX6_madeLine 83 = .ok (.ifCond .eq 17, 3) := by decide +kernel
theorem dX6_madeLine_86 : decode cX6_madeLine 86 = .ok (.aload_n 1, 1) := by decide +kernel
theorem dX6_madeLine_87 : decode cX6_madeLine 87 = .ok (.iload_n 3, 1) := by decide +kernel
theorem dX6_madeLine_88 : decode cX6_madeLine 88 = .ok (.iload 4, 2) := by decide +kernel
theorem dX6_madeLine_90 : decode cX6_madeLine 90 = .ok (.invokevirtual 116, 3) := by decide +kernel
theorem dX6_madeLine_93 : decode cX6_madeLine 93 = .ok (.ifCond .eq 7, 3) := by decide +kernel
theorem dX6_madeLine_96 : decode cX6_madeLine 96 = .ok (.iconst 1, 1) := by decide +kernel
theorem dX6_madeLine_97 : decode cX6_madeLine 97 = .ok (.goto 4, 3) := by decide +kernel
theorem dX6_madeLine_100 : decode cX6_madeLine 100 = .ok (.iconst 0, 1) := by decide +kernel
theorem dX6_madeLine_101 : decode cX6_madeLine 101 = .ok (.ireturn, 1) := by decide +kernel
theorem dX6_madeLine_102 : decode cX6_madeLine 102 = .ok (.aload_n 0, 1) := by decide +kernel
theorem dX6_madeLine_103 : decode cX6_madeLine 103 = .ok (.aload_n 1, 1) := by decide +kernel
theorem dX6_madeLine_104 : decode cX6_madeLine 104 = .ok (.iload_n 3, 1) := by decide +kernel
theorem dX6_madeLine_105 : decode cX6_madeLine 105 = .ok (.iload 4, 2) := by decide +kernel
theorem dX6_madeLine_107 : decode cX6_madeLine 107 = .ok (.invokestatic 184, 3) := by decide +kernel
theorem dX6_madeLine_110 : decode cX6_madeLine 110 = .ok (.ireturn, 1) := by decide +kernel
noncomputable def f_X6_madeLine_b75 (s0 : Int32) (σ : Hp) : Option (Int32 × Hp) := gO (zz s0) fun _ => some (s0, σ)
set_option maxRecDepth 100000 in
set_option maxHeartbeats 4000000 in
theorem t_X6_madeLine_b75 {l : Launch} {γ : Gm} {ad : Nat → Nat} {K : Option Value → Hp → Prop} (hc : Cx l γ 4 5 ad shC RX6 cX6_madeLine (some .boolean) K) {s0 : Int32} {σ : Hp} (h : wpO (f_X6_madeLine_b75 s0 σ) (KI K)) : WW l γ 4 5 ad shC 75 [] [.int s0] σ := by
  unfold f_X6_madeLine_b75 at h
  obtain ⟨_, ek1, h⟩ := wp_g h
  have h := wp_v h
  exact r_zret hc h (zz_of ek1) dX6_madeLine_75
noncomputable def f_X6_madeLine_b70  (σ : Hp) : Option (Int32 × Hp) := f_X6_madeLine_b75 1 σ
set_option maxRecDepth 100000 in
set_option maxHeartbeats 4000000 in
theorem t_X6_madeLine_b70 {l : Launch} {γ : Gm} {ad : Nat → Nat} {K : Option Value → Hp → Prop} (hc : Cx l γ 4 5 ad shC RX6 cX6_madeLine (some .boolean) K)  {σ : Hp} (h : wpO (f_X6_madeLine_b70  σ) (KI K)) : WW l γ 4 5 ad shC 70 [] [] σ := by
  unfold f_X6_madeLine_b70 at h
  refine r_iconst hc (v := 1) (by decide) dX6_madeLine_70 ?_
  refine r_goto hc (tgt := 75) dX6_madeLine_71 (by decide) ?_
  exact t_X6_madeLine_b75 hc h
noncomputable def f_X6_madeLine_b101 (s0 : Int32) (σ : Hp) : Option (Int32 × Hp) := gO (zz s0) fun _ => some (s0, σ)
set_option maxRecDepth 100000 in
set_option maxHeartbeats 4000000 in
theorem t_X6_madeLine_b101 {l : Launch} {γ : Gm} {ad : Nat → Nat} {K : Option Value → Hp → Prop} (hc : Cx l γ 4 5 ad shC RX6 cX6_madeLine (some .boolean) K) {s0 : Int32} {σ : Hp} (h : wpO (f_X6_madeLine_b101 s0 σ) (KI K)) : WW l γ 4 5 ad shC 101 [] [.int s0] σ := by
  unfold f_X6_madeLine_b101 at h
  obtain ⟨_, ek1, h⟩ := wp_g h
  have h := wp_v h
  exact r_zret hc h (zz_of ek1) dX6_madeLine_101
noncomputable def f_X6_madeLine_b100  (σ : Hp) : Option (Int32 × Hp) := f_X6_madeLine_b101 0 σ
set_option maxRecDepth 100000 in
set_option maxHeartbeats 4000000 in
theorem t_X6_madeLine_b100 {l : Launch} {γ : Gm} {ad : Nat → Nat} {K : Option Value → Hp → Prop} (hc : Cx l γ 4 5 ad shC RX6 cX6_madeLine (some .boolean) K)  {σ : Hp} (h : wpO (f_X6_madeLine_b100  σ) (KI K)) : WW l γ 4 5 ad shC 100 [] [] σ := by
  unfold f_X6_madeLine_b100 at h
  refine r_iconst hc (v := 0) (by decide) dX6_madeLine_100 ?_
  exact t_X6_madeLine_b101 hc h
noncomputable def f_X6_madeLine (x0 : Nat) (x1 : Nat) (x2 : Int32) (x3 : Int32) (x4 : Int32) (σ : Hp) : Option (Int32 × Hp) := if x2 = 0 then (bO (f_X6_sumLine x0 x1 x3 x4 σ) fun r1 σ2 => gO (zz r1) fun _ => some (r1, σ2)) else (if x2 = 1 then (bO (f_X6_productLine x0 x1 x3 x4 σ) fun r4 σ5 => gO (zz r4) fun _ => some (r4, σ5)) else (if x2 = 2 then (gO (chk shC x0 1) fun _ => bO (f_X1_joins x0 x3 x4 σ) fun r7 σ8 => if r7 = 0 then (gO (chk shC x1 1) fun _ => bO (f_X1_joins x1 x3 x4 σ8) fun r10 σ11 => if r10 = 0 then (f_X6_madeLine_b75 0 σ11) else (f_X6_madeLine_b70  σ11)) else (f_X6_madeLine_b70  σ8)) else (if x2 = 3 then (gO (chk shC x0 1) fun _ => bO (f_X1_joins x0 x3 x4 σ) fun r13 σ14 => if r13 = 0 then (f_X6_madeLine_b100  σ14) else (gO (chk shC x1 1) fun _ => bO (f_X1_joins x1 x3 x4 σ14) fun r16 σ17 => if r16 = 0 then (f_X6_madeLine_b100  σ17) else (f_X6_madeLine_b101 1 σ17))) else (bO (f_X6_powerLine x0 x1 x3 x4 σ) fun r19 σ20 => gO (zz r19) fun _ => some (r19, σ20)))))
set_option maxRecDepth 100000 in
set_option maxHeartbeats 4000000 in
theorem t_X6_madeLine {l : Launch} {γ : Gm} {ad : Nat → Nat} {K : Option Value → Hp → Prop} (hc : Cx l γ 4 5 ad shC RX6 cX6_madeLine (some .boolean) K) {x0 : Nat} {x1 : Nat} {x2 : Int32} {x3 : Int32} {x4 : Int32} {σ : Hp} (h : wpO (f_X6_madeLine x0 x1 x2 x3 x4 σ) (KI K)) : WW l γ 4 5 ad shC 0 [(0, .ref (ad x0)), (1, .ref (ad x1)), (2, .int x2), (3, .int x3), (4, .int x4)] [] σ := by
  unfold f_X6_madeLine at h
  refine r_iload_n hc 2 rfl rfl dX6_madeLine_0 ?_
  by_cases c0 : x2 = 0
  · have h := wp_t c0 h
    refine r_tabIn hc (off := 31) (tgt := 32) dX6_madeLine_1 c0 (by decide) (by decide) (by decide) (by decide) ?_
    refine r_aload_n hc 0 rfl rfl dX6_madeLine_32 ?_
    refine r_aload_n hc 1 rfl rfl dX6_madeLine_33 ?_
    refine r_iload_n hc 3 rfl rfl dX6_madeLine_34 ?_
    refine r_iload hc 4 rfl dX6_madeLine_35 ?_
    obtain ⟨r1, σ2, er1, h⟩ := wp_b h
    refine r_callS hc ms_X6_sumLine ml_X6_177 (c_X6_sumLine er1) rfl rfl (by decide) rfl (Nat.le_of_ble_eq_true rfl) dX6_madeLine_37 ?_
    obtain ⟨_, ek3, h⟩ := wp_g h
    have h := wp_v h
    exact r_zret hc h (zz_of ek3) dX6_madeLine_40
  have h := wp_f c0 h
  by_cases c1 : x2 = 1
  · have h := wp_t c1 h
    refine r_tabIn hc (off := 40) (tgt := 41) dX6_madeLine_1 c1 (by decide) (by decide) (by decide) (by decide) ?_
    refine r_aload_n hc 0 rfl rfl dX6_madeLine_41 ?_
    refine r_aload_n hc 1 rfl rfl dX6_madeLine_42 ?_
    refine r_iload_n hc 3 rfl rfl dX6_madeLine_43 ?_
    refine r_iload hc 4 rfl dX6_madeLine_44 ?_
    obtain ⟨r4, σ5, er4, h⟩ := wp_b h
    refine r_callS hc ms_X6_productLine ml_X6_181 (c_X6_productLine er4) rfl rfl (by decide) rfl (Nat.le_of_ble_eq_true rfl) dX6_madeLine_46 ?_
    obtain ⟨_, ek6, h⟩ := wp_g h
    have h := wp_v h
    exact r_zret hc h (zz_of ek6) dX6_madeLine_49
  have h := wp_f c1 h
  by_cases c2 : x2 = 2
  · have h := wp_t c2 h
    refine r_tabIn hc (off := 49) (tgt := 50) dX6_madeLine_1 c2 (by decide) (by decide) (by decide) (by decide) ?_
    refine r_aload_n hc 0 rfl rfl dX6_madeLine_50 ?_
    refine r_iload_n hc 3 rfl rfl dX6_madeLine_51 ?_
    refine r_iload hc 4 rfl dX6_madeLine_52 ?_
    obtain ⟨_, ek9, h⟩ := wp_g h
    obtain ⟨r7, σ8, er7, h⟩ := wp_b h
    refine r_callV hc (k0 := x0) mv_X1_joins ml_X6_116 (c_X1_joins er7) (chk_of ek9) cls_1.1 rfl rfl rfl (by decide) rfl (Nat.le_of_ble_eq_true rfl) dX6_madeLine_54 ?_
    refine r_if_ne hc (tgt := 70) dX6_madeLine_57 (by decide) (fun c => ?_) (fun c => ?_)
    · have h := wp_f c h
      refine r_sub [] (lv' := []) rfl ?_
      exact t_X6_madeLine_b70 hc h
    · have h := wp_t c h
      refine r_aload_n hc 1 rfl rfl dX6_madeLine_60 ?_
      refine r_iload_n hc 3 rfl rfl dX6_madeLine_61 ?_
      refine r_iload hc 4 rfl dX6_madeLine_62 ?_
      obtain ⟨_, ek12, h⟩ := wp_g h
      obtain ⟨r10, σ11, er10, h⟩ := wp_b h
      refine r_callV hc (k0 := x1) mv_X1_joins ml_X6_116 (c_X1_joins er10) (chk_of ek12) cls_1.1 rfl rfl rfl (by decide) rfl (Nat.le_of_ble_eq_true rfl) dX6_madeLine_64 ?_
      refine r_if_eq hc (tgt := 74) dX6_madeLine_67 (by decide) (fun c => ?_) (fun c => ?_)
      · have h := wp_t c h
        refine r_iconst hc (v := 0) (by decide) dX6_madeLine_74 ?_
        refine r_sub [] (lv' := []) rfl ?_
        exact t_X6_madeLine_b75 hc h
      · have h := wp_f c h
        refine r_sub [] (lv' := []) rfl ?_
        exact t_X6_madeLine_b70 hc h
  have h := wp_f c2 h
  by_cases c3 : x2 = 3
  · have h := wp_t c3 h
    refine r_tabIn hc (off := 75) (tgt := 76) dX6_madeLine_1 c3 (by decide) (by decide) (by decide) (by decide) ?_
    refine r_aload_n hc 0 rfl rfl dX6_madeLine_76 ?_
    refine r_iload_n hc 3 rfl rfl dX6_madeLine_77 ?_
    refine r_iload hc 4 rfl dX6_madeLine_78 ?_
    obtain ⟨_, ek15, h⟩ := wp_g h
    obtain ⟨r13, σ14, er13, h⟩ := wp_b h
    refine r_callV hc (k0 := x0) mv_X1_joins ml_X6_116 (c_X1_joins er13) (chk_of ek15) cls_1.1 rfl rfl rfl (by decide) rfl (Nat.le_of_ble_eq_true rfl) dX6_madeLine_80 ?_
    refine r_if_eq hc (tgt := 100) dX6_madeLine_83 (by decide) (fun c => ?_) (fun c => ?_)
    · have h := wp_t c h
      refine r_sub [] (lv' := []) rfl ?_
      exact t_X6_madeLine_b100 hc h
    · have h := wp_f c h
      refine r_aload_n hc 1 rfl rfl dX6_madeLine_86 ?_
      refine r_iload_n hc 3 rfl rfl dX6_madeLine_87 ?_
      refine r_iload hc 4 rfl dX6_madeLine_88 ?_
      obtain ⟨_, ek18, h⟩ := wp_g h
      obtain ⟨r16, σ17, er16, h⟩ := wp_b h
      refine r_callV hc (k0 := x1) mv_X1_joins ml_X6_116 (c_X1_joins er16) (chk_of ek18) cls_1.1 rfl rfl rfl (by decide) rfl (Nat.le_of_ble_eq_true rfl) dX6_madeLine_90 ?_
      refine r_if_eq hc (tgt := 100) dX6_madeLine_93 (by decide) (fun c => ?_) (fun c => ?_)
      · have h := wp_t c h
        refine r_sub [] (lv' := []) rfl ?_
        exact t_X6_madeLine_b100 hc h
      · have h := wp_f c h
        refine r_iconst hc (v := 1) (by decide) dX6_madeLine_96 ?_
        refine r_goto hc (tgt := 101) dX6_madeLine_97 (by decide) ?_
        refine r_sub [] (lv' := []) rfl ?_
        exact t_X6_madeLine_b101 hc h
  have h := wp_f c3 h
  refine r_tabOut hc (tgt := 102) dX6_madeLine_1 (sw_out 0 4 (fun i hi => by rcases (show i = 0 ∨ i = 1 ∨ i = 2 ∨ i = 3 by omega) with rfl | rfl | rfl | rfl <;> assumption)) (by decide) ?_
  refine r_aload_n hc 0 rfl rfl dX6_madeLine_102 ?_
  refine r_aload_n hc 1 rfl rfl dX6_madeLine_103 ?_
  refine r_iload_n hc 3 rfl rfl dX6_madeLine_104 ?_
  refine r_iload hc 4 rfl dX6_madeLine_105 ?_
  obtain ⟨r19, σ20, er19, h⟩ := wp_b h
  refine r_callS hc ms_X6_powerLine ml_X6_184 (c_X6_powerLine er19) rfl rfl (by decide) rfl (Nat.le_of_ble_eq_true rfl) dX6_madeLine_107 ?_
  obtain ⟨_, ek21, h⟩ := wp_g h
  have h := wp_v h
  exact r_zret hc h (zz_of ek21) dX6_madeLine_110
theorem c_X6_madeLine {l : Launch} {x0 : Nat} {x1 : Nat} {x2 : Int32} {x3 : Int32} {x4 : Int32} {σ σ' : Hp} {r : Int32} (h : f_X6_madeLine x0 x1 x2 x3 x4 σ = some (r, σ')) : Mt l yX6_madeLine cX6_madeLine 5 (some .boolean) 4 shC (fun ad => [.ref (ad x0), .ref (ad x1), .int x2, .int x3, .int x4]) σ (fun ad => some (.int r)) σ' := mt_i (own := RX6) (by decide) rfl (fun _ => Nat.le_of_ble_eq_true rfl) (fun γ ad K hc hk => t_X6_madeLine hc ⟨_, _, h, hk⟩)

-- NetMaps.powerNodes(II)I
theorem dX6_powerNodes_0 : decode cX6_powerNodes 0 = .ok (.iconst 1, 1) := by decide +kernel
theorem dX6_powerNodes_1 : decode cX6_powerNodes 1 = .ok (.istore_n 2, 1) := by decide +kernel
theorem dX6_powerNodes_2 : decode cX6_powerNodes 2 = .ok (.iconst 0, 1) := by decide +kernel
theorem dX6_powerNodes_3 : decode cX6_powerNodes 3 = .ok (.istore_n 3, 1) := by decide +kernel
theorem dX6_powerNodes_4 : decode cX6_powerNodes 4 = .ok (.iload_n 3, 1) := by decide +kernel
theorem dX6_powerNodes_5 : decode cX6_powerNodes 5 = .ok (.iload_n 1, 1) := by decide +kernel
theorem dX6_powerNodes_6 : decode cX6_powerNodes 6 = .ok (.if_icmp .ge 19, 3) := by decide +kernel
theorem dX6_powerNodes_9 : decode cX6_powerNodes 9 = .ok (.iload_n 2, 1) := by decide +kernel
theorem dX6_powerNodes_10 : decode cX6_powerNodes 10 = .ok (.bipush 7, 2) := by decide +kernel
theorem dX6_powerNodes_12 : decode cX6_powerNodes 12 = .ok (.if_icmp .gt 13, 3) := by decide +kernel
theorem dX6_powerNodes_15 : decode cX6_powerNodes 15 = .ok (.iload_n 2, 1) := by decide +kernel
theorem dX6_powerNodes_16 : decode cX6_powerNodes 16 = .ok (.iload_n 0, 1) := by decide +kernel
theorem dX6_powerNodes_17 : decode cX6_powerNodes 17 = .ok (.imul, 1) := by decide +kernel
theorem dX6_powerNodes_18 : decode cX6_powerNodes 18 = .ok (.istore_n 2, 1) := by decide +kernel
theorem dX6_powerNodes_19 : decode cX6_powerNodes 19 = .ok (.iinc 3 1, 3) := by decide +kernel
theorem dX6_powerNodes_22 : decode cX6_powerNodes 22 = .ok (.goto (-18), 3) := by decide +kernel
theorem dX6_powerNodes_25 : decode cX6_powerNodes 25 = .ok (.iload_n 2, 1) := by decide +kernel
theorem dX6_powerNodes_26 : decode cX6_powerNodes 26 = .ok (.ireturn, 1) := by decide +kernel
noncomputable def f_X6_powerNodes_L4 (x0 : Int32) (x1 : Int32) (v : (Int32 × Int32)) (σ : Hp) : Option (((Int32 × Int32) ⊕ (Int32)) × Hp) := if x1 ≤ v.2 then (some (Sum.inr v.1, σ)) else (if 7 < v.1 then (some (Sum.inr v.1, σ)) else (some (Sum.inl ((v.1 * x0), (v.2 + 1)), σ)))
set_option maxRecDepth 100000 in
set_option maxHeartbeats 4000000 in
theorem t_X6_powerNodes_L4 {l : Launch} {γ : Gm} {ad : Nat → Nat} {K : Option Value → Hp → Prop}  (hc : Cx l γ 1 4 ad shC RX6 cX6_powerNodes (some .int) K) {x0 : Int32} {x1 : Int32} {v : (Int32 × Int32)} {σ : Hp} {KX : (Int32) → Hp → Prop} (h : wpO (wh (f_X6_powerNodes_L4 x0 x1) v σ) KX) (kx25 : ∀ (v : Int32) (σ : Hp), KX v σ → WW l γ 1 4 ad shC 25 [(2, .int v)] [] σ) : WW l γ 1 4 ad shC 4 [(0, .int x0), (1, .int x1), (2, .int v.1), (3, .int v.2)] [] σ := by
  refine wh_W (P := fun v σ => WW l γ 1 4 ad shC 4 [(0, .int x0), (1, .int x1), (2, .int v.1), (3, .int v.2)] [] σ) (fun v σ h => ?_) h
  have kn : ∀ (v : (Int32 × Int32)) (σ : Hp), WW l γ 1 4 ad shC 4 [(0, .int x0), (1, .int x1), (2, .int v.1), (3, .int v.2)] [] σ → WW l γ 1 4 ad shC 4 [(0, .int x0), (1, .int x1), (2, .int v.1), (3, .int v.2)] [] σ := fun _ _ h => h
  · unfold f_X6_powerNodes_L4 at h
    refine r_iload_n hc 3 rfl rfl dX6_powerNodes_4 ?_
    refine r_iload_n hc 1 rfl rfl dX6_powerNodes_5 ?_
    refine r_icmp_ge hc (tgt := 25) dX6_powerNodes_6 (by decide) (fun c => ?_) (fun c => ?_)
    · have h := wp_t c h
      refine r_sub [2] (lv' := [(2, .int v.1)]) rfl ?_
      have h := wp_v h
      exact kx25 v.1 _ h
    · have h := wp_f c h
      refine r_iload_n hc 2 rfl rfl dX6_powerNodes_9 ?_
      refine r_bipush hc (v := 7) (by decide) dX6_powerNodes_10 ?_
      refine r_icmp_gt hc (tgt := 25) dX6_powerNodes_12 (by decide) (fun c => ?_) (fun c => ?_)
      · have h := wp_t c h
        refine r_sub [2] (lv' := [(2, .int v.1)]) rfl ?_
        have h := wp_v h
        exact kx25 v.1 _ h
      · have h := wp_f c h
        refine r_iload_n hc 2 rfl rfl dX6_powerNodes_15 ?_
        refine r_iload_n hc 0 rfl rfl dX6_powerNodes_16 ?_
        refine r_imul hc dX6_powerNodes_17 ?_
        refine r_istore_nE hc (i := 2) (lv' := [(2, .int (v.1 * x0)), (0, .int x0), (1, .int x1), (3, .int v.2)]) rfl rfl (by decide) rfl dX6_powerNodes_18 ?_
        refine r_iincE hc (j := 3) (w := 1) (lv' := [(3, .int (v.2 + 1)), (2, .int (v.1 * x0)), (0, .int x0), (1, .int x1)]) rfl (by decide) rfl (by decide) rfl dX6_powerNodes_19 ?_
        refine r_goto hc (tgt := 4) dX6_powerNodes_22 (by decide) ?_
        refine r_sub [2, 3, 1, 0] (lv' := [(0, .int x0), (1, .int x1), (2, .int (v.1 * x0)), (3, .int (v.2 + 1))]) rfl ?_
        have h := wp_v h
        exact kn ((v.1 * x0), (v.2 + 1)) _ h
noncomputable def f_X6_powerNodes_b25 (x2 : Int32) (σ : Hp) : Option (Int32 × Hp) := some (x2, σ)
set_option maxRecDepth 100000 in
set_option maxHeartbeats 4000000 in
theorem t_X6_powerNodes_b25 {l : Launch} {γ : Gm} {ad : Nat → Nat} {K : Option Value → Hp → Prop} (hc : Cx l γ 1 4 ad shC RX6 cX6_powerNodes (some .int) K) {x2 : Int32} {σ : Hp} (h : wpO (f_X6_powerNodes_b25 x2 σ) (KI K)) : WW l γ 1 4 ad shC 25 [(2, .int x2)] [] σ := by
  unfold f_X6_powerNodes_b25 at h
  refine r_iload_n hc 0 rfl rfl dX6_powerNodes_25 ?_
  have h := wp_v h
  exact r_iret hc h dX6_powerNodes_26
noncomputable def f_X6_powerNodes (x0 : Int32) (x1 : Int32) (σ : Hp) : Option (Int32 × Hp) := bO (wh (f_X6_powerNodes_L4 x0 x1) (1, 0) σ) fun y1 σ2 => (f_X6_powerNodes_b25 y1 σ2)
set_option maxRecDepth 100000 in
set_option maxHeartbeats 4000000 in
theorem t_X6_powerNodes {l : Launch} {γ : Gm} {ad : Nat → Nat} {K : Option Value → Hp → Prop} (hc : Cx l γ 1 4 ad shC RX6 cX6_powerNodes (some .int) K) {x0 : Int32} {x1 : Int32} {σ : Hp} (h : wpO (f_X6_powerNodes x0 x1 σ) (KI K)) : WW l γ 1 4 ad shC 0 [(0, .int x0), (1, .int x1)] [] σ := by
  unfold f_X6_powerNodes at h
  refine r_iconst hc (v := 1) (by decide) dX6_powerNodes_0 ?_
  refine r_istore_nE hc (i := 2) (lv' := [(2, .int 1), (0, .int x0), (1, .int x1)]) rfl rfl (by decide) rfl dX6_powerNodes_1 ?_
  refine r_iconst hc (v := 0) (by decide) dX6_powerNodes_2 ?_
  refine r_istore_nE hc (i := 3) (lv' := [(3, .int 0), (2, .int 1), (0, .int x0), (1, .int x1)]) rfl rfl (by decide) rfl dX6_powerNodes_3 ?_
  refine r_sub [2, 3, 1, 0] (lv' := [(0, .int x0), (1, .int x1), (2, .int 1), (3, .int 0)]) rfl ?_
  refine t_X6_powerNodes_L4 hc (wp_bb h) ?_
  · intro y1 σ2 h
    exact t_X6_powerNodes_b25 hc h
theorem c_X6_powerNodes {l : Launch} {x0 : Int32} {x1 : Int32} {σ σ' : Hp} {r : Int32} (h : f_X6_powerNodes x0 x1 σ = some (r, σ')) : Mt l yX6_powerNodes cX6_powerNodes 4 (some .int) 1 shC (fun ad => [.int x0, .int x1]) σ (fun ad => some (.int r)) σ' := mt_i (own := RX6) (by decide) rfl (fun _ => Nat.le_of_ble_eq_true rfl) (fun γ ad K hc hk => t_X6_powerNodes hc ⟨_, _, h, hk⟩)

-- NetMaps.nodesMade(LNetMaps$Net;LNetMaps$Net;I)I
theorem dX6_nodesMade_0 : decode cX6_nodesMade 0 = .ok (.iload_n 2, 1) := by decide +kernel
theorem dX6_nodesMade_1 : decode cX6_nodesMade 1 = .ok (.tableswitch 67 0 4 #[35, 45, 67, 67, 55], 35) := by decide +kernel
theorem dX6_nodesMade_36 : decode cX6_nodesMade 36 = .ok (.aload_n 0, 1) := by decide +kernel
theorem dX6_nodesMade_37 : decode cX6_nodesMade 37 = .ok (.getfield 126, 3) := by decide +kernel
theorem dX6_nodesMade_40 : decode cX6_nodesMade 40 = .ok (.aload_n 1, 1) := by decide +kernel
theorem dX6_nodesMade_41 : decode cX6_nodesMade 41 = .ok (.getfield 126, 3) := by decide +kernel
theorem dX6_nodesMade_44 : decode cX6_nodesMade 44 = .ok (.iadd, 1) := by decide +kernel
theorem dX6_nodesMade_45 : decode cX6_nodesMade 45 = .ok (.ireturn, 1) := by decide +kernel
theorem dX6_nodesMade_46 : decode cX6_nodesMade 46 = .ok (.aload_n 0, 1) := by decide +kernel
theorem dX6_nodesMade_47 : decode cX6_nodesMade 47 = .ok (.getfield 126, 3) := by decide +kernel
theorem dX6_nodesMade_50 : decode cX6_nodesMade 50 = .ok (.aload_n 1, 1) := by decide +kernel
theorem dX6_nodesMade_51 : decode cX6_nodesMade 51 = .ok (.getfield 126, 3) := by decide +kernel
theorem dX6_nodesMade_54 : decode cX6_nodesMade 54 = .ok (.imul, 1) := by decide +kernel
theorem dX6_nodesMade_55 : decode cX6_nodesMade 55 = .ok (.ireturn, 1) := by decide +kernel
theorem dX6_nodesMade_56 : decode cX6_nodesMade 56 = .ok (.aload_n 0, 1) := by decide +kernel
theorem dX6_nodesMade_57 : decode cX6_nodesMade 57 = .ok (.getfield 126, 3) := by decide +kernel
theorem dX6_nodesMade_60 : decode cX6_nodesMade 60 = .ok (.aload_n 1, 1) := by decide +kernel
theorem dX6_nodesMade_61 : decode cX6_nodesMade 61 = .ok (.getfield 126, 3) := by decide +kernel
theorem dX6_nodesMade_64 : decode cX6_nodesMade 64 = .ok (.invokestatic 173, 3) := by decide +kernel
theorem dX6_nodesMade_67 : decode cX6_nodesMade 67 = .ok (.ireturn, 1) := by decide +kernel
theorem dX6_nodesMade_68 : decode cX6_nodesMade 68 = .ok (.aload_n 0, 1) := by decide +kernel
theorem dX6_nodesMade_69 : decode cX6_nodesMade 69 = .ok (.getfield 126, 3) := by decide +kernel
theorem dX6_nodesMade_72 : decode cX6_nodesMade 72 = .ok (.aload_n 1, 1) := by decide +kernel
theorem dX6_nodesMade_73 : decode cX6_nodesMade 73 = .ok (.getfield 126, 3) := by decide +kernel
theorem dX6_nodesMade_76 : decode cX6_nodesMade 76 = .ok (.if_icmp .ne 10, 3) := by decide +kernel
theorem dX6_nodesMade_79 : decode cX6_nodesMade 79 = .ok (.aload_n 0, 1) := by decide +kernel
theorem dX6_nodesMade_80 : decode cX6_nodesMade 80 = .ok (.getfield 126, 3) := by decide +kernel
theorem dX6_nodesMade_83 : decode cX6_nodesMade 83 = .ok (.goto 5, 3) := by decide +kernel
theorem dX6_nodesMade_86 : decode cX6_nodesMade 86 = .ok (.bipush 8, 2) := by decide +kernel
theorem dX6_nodesMade_88 : decode cX6_nodesMade 88 = .ok (.ireturn, 1) := by decide +kernel
noncomputable def f_X6_nodesMade_b88 (s0 : Int32) (σ : Hp) : Option (Int32 × Hp) := some (s0, σ)
set_option maxRecDepth 100000 in
set_option maxHeartbeats 4000000 in
theorem t_X6_nodesMade_b88 {l : Launch} {γ : Gm} {ad : Nat → Nat} {K : Option Value → Hp → Prop} (hc : Cx l γ 2 3 ad shC RX6 cX6_nodesMade (some .int) K) {s0 : Int32} {σ : Hp} (h : wpO (f_X6_nodesMade_b88 s0 σ) (KI K)) : WW l γ 2 3 ad shC 88 [] [.int s0] σ := by
  unfold f_X6_nodesMade_b88 at h
  have h := wp_v h
  exact r_iret hc h dX6_nodesMade_88
noncomputable def f_X6_nodesMade (x0 : Nat) (x1 : Nat) (x2 : Int32) (σ : Hp) : Option (Int32 × Hp) := if x2 = 0 then (gO (getI shC 1 x0 0 σ) fun v1 => gO (getI shC 1 x1 0 σ) fun v2 => some ((v1 + v2), σ)) else (if x2 = 1 then (gO (getI shC 1 x0 0 σ) fun v3 => gO (getI shC 1 x1 0 σ) fun v4 => some ((v3 * v4), σ)) else (if x2 = 2 then (gO (getI shC 1 x0 0 σ) fun v5 => gO (getI shC 1 x1 0 σ) fun v6 => if v5 = v6 then (gO (getI shC 1 x0 0 σ) fun v7 => f_X6_nodesMade_b88 v7 σ) else (f_X6_nodesMade_b88 8 σ)) else (if x2 = 3 then (gO (getI shC 1 x0 0 σ) fun v8 => gO (getI shC 1 x1 0 σ) fun v9 => if v8 = v9 then (gO (getI shC 1 x0 0 σ) fun v10 => f_X6_nodesMade_b88 v10 σ) else (f_X6_nodesMade_b88 8 σ)) else (if x2 = 4 then (gO (getI shC 1 x0 0 σ) fun v11 => gO (getI shC 1 x1 0 σ) fun v12 => bO (f_X6_powerNodes v11 v12 σ) fun r13 σ14 => some (r13, σ14)) else (gO (getI shC 1 x0 0 σ) fun v15 => gO (getI shC 1 x1 0 σ) fun v16 => if v15 = v16 then (gO (getI shC 1 x0 0 σ) fun v17 => f_X6_nodesMade_b88 v17 σ) else (f_X6_nodesMade_b88 8 σ))))))
set_option maxRecDepth 100000 in
set_option maxHeartbeats 4000000 in
theorem t_X6_nodesMade {l : Launch} {γ : Gm} {ad : Nat → Nat} {K : Option Value → Hp → Prop} (hc : Cx l γ 2 3 ad shC RX6 cX6_nodesMade (some .int) K) {x0 : Nat} {x1 : Nat} {x2 : Int32} {σ : Hp} (h : wpO (f_X6_nodesMade x0 x1 x2 σ) (KI K)) : WW l γ 2 3 ad shC 0 [(0, .ref (ad x0)), (1, .ref (ad x1)), (2, .int x2)] [] σ := by
  unfold f_X6_nodesMade at h
  refine r_iload_n hc 2 rfl rfl dX6_nodesMade_0 ?_
  by_cases c0 : x2 = 0
  · have h := wp_t c0 h
    refine r_tabIn hc (off := 35) (tgt := 36) dX6_nodesMade_1 c0 (by decide) (by decide) (by decide) (by decide) ?_
    refine r_aload_n hc 0 rfl rfl dX6_nodesMade_36 ?_
    obtain ⟨v1, ev1, h⟩ := wp_g h
    refine r_getI hc ev1 fl_X6_126 rfl dX6_nodesMade_37 ?_
    refine r_aload_n hc 1 rfl rfl dX6_nodesMade_40 ?_
    obtain ⟨v2, ev2, h⟩ := wp_g h
    refine r_getI hc ev2 fl_X6_126 rfl dX6_nodesMade_41 ?_
    refine r_iadd hc dX6_nodesMade_44 ?_
    have h := wp_v h
    exact r_iret hc h dX6_nodesMade_45
  have h := wp_f c0 h
  by_cases c1 : x2 = 1
  · have h := wp_t c1 h
    refine r_tabIn hc (off := 45) (tgt := 46) dX6_nodesMade_1 c1 (by decide) (by decide) (by decide) (by decide) ?_
    refine r_aload_n hc 0 rfl rfl dX6_nodesMade_46 ?_
    obtain ⟨v3, ev3, h⟩ := wp_g h
    refine r_getI hc ev3 fl_X6_126 rfl dX6_nodesMade_47 ?_
    refine r_aload_n hc 1 rfl rfl dX6_nodesMade_50 ?_
    obtain ⟨v4, ev4, h⟩ := wp_g h
    refine r_getI hc ev4 fl_X6_126 rfl dX6_nodesMade_51 ?_
    refine r_imul hc dX6_nodesMade_54 ?_
    have h := wp_v h
    exact r_iret hc h dX6_nodesMade_55
  have h := wp_f c1 h
  by_cases c2 : x2 = 2
  · have h := wp_t c2 h
    refine r_tabIn hc (off := 67) (tgt := 68) dX6_nodesMade_1 c2 (by decide) (by decide) (by decide) (by decide) ?_
    refine r_aload_n hc 0 rfl rfl dX6_nodesMade_68 ?_
    obtain ⟨v5, ev5, h⟩ := wp_g h
    refine r_getI hc ev5 fl_X6_126 rfl dX6_nodesMade_69 ?_
    refine r_aload_n hc 1 rfl rfl dX6_nodesMade_72 ?_
    obtain ⟨v6, ev6, h⟩ := wp_g h
    refine r_getI hc ev6 fl_X6_126 rfl dX6_nodesMade_73 ?_
    refine r_icmp_ne hc (tgt := 86) dX6_nodesMade_76 (by decide) (fun c => ?_) (fun c => ?_)
    · have h := wp_f c h
      refine r_bipush hc (v := 8) (by decide) dX6_nodesMade_86 ?_
      refine r_sub [] (lv' := []) rfl ?_
      exact t_X6_nodesMade_b88 hc h
    · have h := wp_t c h
      refine r_aload_n hc 0 rfl rfl dX6_nodesMade_79 ?_
      obtain ⟨v7, ev7, h⟩ := wp_g h
      refine r_getI hc ev7 fl_X6_126 rfl dX6_nodesMade_80 ?_
      refine r_goto hc (tgt := 88) dX6_nodesMade_83 (by decide) ?_
      refine r_sub [] (lv' := []) rfl ?_
      exact t_X6_nodesMade_b88 hc h
  have h := wp_f c2 h
  by_cases c3 : x2 = 3
  · have h := wp_t c3 h
    refine r_tabIn hc (off := 67) (tgt := 68) dX6_nodesMade_1 c3 (by decide) (by decide) (by decide) (by decide) ?_
    refine r_aload_n hc 0 rfl rfl dX6_nodesMade_68 ?_
    obtain ⟨v8, ev8, h⟩ := wp_g h
    refine r_getI hc ev8 fl_X6_126 rfl dX6_nodesMade_69 ?_
    refine r_aload_n hc 1 rfl rfl dX6_nodesMade_72 ?_
    obtain ⟨v9, ev9, h⟩ := wp_g h
    refine r_getI hc ev9 fl_X6_126 rfl dX6_nodesMade_73 ?_
    refine r_icmp_ne hc (tgt := 86) dX6_nodesMade_76 (by decide) (fun c => ?_) (fun c => ?_)
    · have h := wp_f c h
      refine r_bipush hc (v := 8) (by decide) dX6_nodesMade_86 ?_
      refine r_sub [] (lv' := []) rfl ?_
      exact t_X6_nodesMade_b88 hc h
    · have h := wp_t c h
      refine r_aload_n hc 0 rfl rfl dX6_nodesMade_79 ?_
      obtain ⟨v10, ev10, h⟩ := wp_g h
      refine r_getI hc ev10 fl_X6_126 rfl dX6_nodesMade_80 ?_
      refine r_goto hc (tgt := 88) dX6_nodesMade_83 (by decide) ?_
      refine r_sub [] (lv' := []) rfl ?_
      exact t_X6_nodesMade_b88 hc h
  have h := wp_f c3 h
  by_cases c4 : x2 = 4
  · have h := wp_t c4 h
    refine r_tabIn hc (off := 55) (tgt := 56) dX6_nodesMade_1 c4 (by decide) (by decide) (by decide) (by decide) ?_
    refine r_aload_n hc 0 rfl rfl dX6_nodesMade_56 ?_
    obtain ⟨v11, ev11, h⟩ := wp_g h
    refine r_getI hc ev11 fl_X6_126 rfl dX6_nodesMade_57 ?_
    refine r_aload_n hc 1 rfl rfl dX6_nodesMade_60 ?_
    obtain ⟨v12, ev12, h⟩ := wp_g h
    refine r_getI hc ev12 fl_X6_126 rfl dX6_nodesMade_61 ?_
    obtain ⟨r13, σ14, er13, h⟩ := wp_b h
    refine r_callS hc ms_X6_powerNodes ml_X6_173 (c_X6_powerNodes er13) rfl rfl (by decide) rfl (Nat.le_of_ble_eq_true rfl) dX6_nodesMade_64 ?_
    have h := wp_v h
    exact r_iret hc h dX6_nodesMade_67
  have h := wp_f c4 h
  refine r_tabOut hc (tgt := 68) dX6_nodesMade_1 (sw_out 0 5 (fun i hi => by rcases (show i = 0 ∨ i = 1 ∨ i = 2 ∨ i = 3 ∨ i = 4 by omega) with rfl | rfl | rfl | rfl | rfl <;> assumption)) (by decide) ?_
  refine r_aload_n hc 0 rfl rfl dX6_nodesMade_68 ?_
  obtain ⟨v15, ev15, h⟩ := wp_g h
  refine r_getI hc ev15 fl_X6_126 rfl dX6_nodesMade_69 ?_
  refine r_aload_n hc 1 rfl rfl dX6_nodesMade_72 ?_
  obtain ⟨v16, ev16, h⟩ := wp_g h
  refine r_getI hc ev16 fl_X6_126 rfl dX6_nodesMade_73 ?_
  refine r_icmp_ne hc (tgt := 86) dX6_nodesMade_76 (by decide) (fun c => ?_) (fun c => ?_)
  · have h := wp_f c h
    refine r_bipush hc (v := 8) (by decide) dX6_nodesMade_86 ?_
    refine r_sub [] (lv' := []) rfl ?_
    exact t_X6_nodesMade_b88 hc h
  · have h := wp_t c h
    refine r_aload_n hc 0 rfl rfl dX6_nodesMade_79 ?_
    obtain ⟨v17, ev17, h⟩ := wp_g h
    refine r_getI hc ev17 fl_X6_126 rfl dX6_nodesMade_80 ?_
    refine r_goto hc (tgt := 88) dX6_nodesMade_83 (by decide) ?_
    refine r_sub [] (lv' := []) rfl ?_
    exact t_X6_nodesMade_b88 hc h
theorem c_X6_nodesMade {l : Launch} {x0 : Nat} {x1 : Nat} {x2 : Int32} {σ σ' : Hp} {r : Int32} (h : f_X6_nodesMade x0 x1 x2 σ = some (r, σ')) : Mt l yX6_nodesMade cX6_nodesMade 3 (some .int) 2 shC (fun ad => [.ref (ad x0), .ref (ad x1), .int x2]) σ (fun ad => some (.int r)) σ' := mt_i (own := RX6) (by decide) rfl (fun _ => Nat.le_of_ble_eq_true rfl) (fun γ ad K hc hk => t_X6_nodesMade hc ⟨_, _, h, hk⟩)

-- NetMaps.settle(I)I
theorem dX6_settle_0 : decode cX6_settle 0 = .ok (.aload_n 0, 1) := by decide +kernel
theorem dX6_settle_1 : decode cX6_settle 1 = .ok (.iload_n 1, 1) := by decide +kernel
theorem dX6_settle_2 : decode cX6_settle 2 = .ok (.invokevirtual 91, 3) := by decide +kernel
theorem dX6_settle_5 : decode cX6_settle 5 = .ok (.aload_n 0, 1) := by decide +kernel
theorem dX6_settle_6 : decode cX6_settle 6 = .ok (.getfield 34, 3) := by decide +kernel
theorem dX6_settle_9 : decode cX6_settle 9 = .ok (.invokevirtual 98, 3) := by decide +kernel
theorem dX6_settle_12 : decode cX6_settle 12 = .ok (.aload_n 0, 1) := by decide +kernel
theorem dX6_settle_13 : decode cX6_settle 13 = .ok (.getfield 34, 3) := by decide +kernel
theorem dX6_settle_16 : decode cX6_settle 16 = .ok (.invokevirtual 102, 3) := by decide +kernel
theorem dX6_settle_19 : decode cX6_settle 19 = .ok (.ireturn, 1) := by decide +kernel
noncomputable def f_X6_settle (x0 : Nat) (x1 : Int32) (σ : Hp) : Option (Int32 × Hp) := gO (chk shC x0 6) fun _ => bO (f_X6_in x0 x1 σ) fun r1 σ2 => gO (getR shC 6 x0 6 σ2) fun v4 => gO (chk shC r1 1) fun _ => bO (f_X1_like r1 v4 σ2) fun _ σ6 => gO (getR shC 6 x0 6 σ6) fun v8 => gO (chk shC v8 1) fun _ => bO (f_X1_lines v8 σ6) fun r9 σ10 => some (r9, σ10)
set_option maxRecDepth 100000 in
set_option maxHeartbeats 4000000 in
theorem t_X6_settle {l : Launch} {γ : Gm} {ad : Nat → Nat} {K : Option Value → Hp → Prop} (hc : Cx l γ 3 2 ad shC RX6 cX6_settle (some .int) K) {x0 : Nat} {x1 : Int32} {σ : Hp} (h : wpO (f_X6_settle x0 x1 σ) (KI K)) : WW l γ 3 2 ad shC 0 [(0, .ref (ad x0)), (1, .int x1)] [] σ := by
  unfold f_X6_settle at h
  refine r_aload_n hc 0 rfl rfl dX6_settle_0 ?_
  refine r_iload_n hc 1 rfl rfl dX6_settle_1 ?_
  obtain ⟨_, ek3, h⟩ := wp_g h
  obtain ⟨r1, σ2, er1, h⟩ := wp_b h
  refine r_callV hc (k0 := x0) mv_X6_in ml_X6_91 (c_X6_in er1) (chk_of ek3) cls_6.1 rfl rfl rfl (by decide) rfl (Nat.le_of_ble_eq_true rfl) dX6_settle_2 ?_
  refine r_aload_n hc 0 rfl rfl dX6_settle_5 ?_
  obtain ⟨v4, ev4, h⟩ := wp_g h
  refine r_getR hc ev4 fl_X6_34 rfl dX6_settle_6 ?_
  obtain ⟨_, ek7, h⟩ := wp_g h
  obtain ⟨_, σ6, er5, h⟩ := wp_b h
  refine r_callV hc (k0 := r1) mv_X1_like ml_X6_98 (c_X1_like er5) (chk_of ek7) cls_1.1 rfl rfl rfl (by decide) rfl (Nat.le_of_ble_eq_true rfl) dX6_settle_9 ?_
  refine r_aload_n hc 0 rfl rfl dX6_settle_12 ?_
  obtain ⟨v8, ev8, h⟩ := wp_g h
  refine r_getR hc ev8 fl_X6_34 rfl dX6_settle_13 ?_
  obtain ⟨_, ek11, h⟩ := wp_g h
  obtain ⟨r9, σ10, er9, h⟩ := wp_b h
  refine r_callV hc (k0 := v8) mv_X1_lines ml_X6_102 (c_X1_lines er9) (chk_of ek11) cls_1.1 rfl rfl rfl (by decide) rfl (Nat.le_of_ble_eq_true rfl) dX6_settle_16 ?_
  have h := wp_v h
  exact r_iret hc h dX6_settle_19
theorem c_X6_settle {l : Launch} {x0 : Nat} {x1 : Int32} {σ σ' : Hp} {r : Int32} (h : f_X6_settle x0 x1 σ = some (r, σ')) : Mt l yX6_settle cX6_settle 2 (some .int) 3 shC (fun ad => [.ref (ad x0), .int x1]) σ (fun ad => some (.int r)) σ' := mt_i (own := RX6) (by decide) rfl (fun _ => Nat.le_of_ble_eq_true rfl) (fun γ ad K hc hk => t_X6_settle hc ⟨_, _, h, hk⟩)

-- NetMaps.make(IIII)I
theorem dX6_make_0 : decode cX6_make 0 = .ok (.iload_n 1, 1) := by decide +kernel
theorem dX6_make_1 : decode cX6_make 1 = .ok (.invokestatic 76, 3) := by decide +kernel
theorem dX6_make_4 : decode cX6_make 4 = .ok (.ifCond .ne 28, 3) := by decide +kernel
theorem dX6_make_7 : decode cX6_make 7 = .ok (.iload_n 2, 1) := by decide +kernel
theorem dX6_make_8 : decode cX6_make 8 = .ok (.invokestatic 76, 3) := by decide +kernel
theorem dX6_make_11 : decode cX6_make 11 = .ok (.ifCond .ne 21, 3) := by decide +kernel
theorem dX6_make_14 : decode cX6_make 14 = .ok (.iload_n 3, 1) := by decide +kernel
theorem dX6_make_15 : decode cX6_make 15 = .ok (.invokestatic 76, 3) := by decide +kernel
theorem dX6_make_18 : decode cX6_make 18 = .ok (.ifCond .ne 14, 3) := by decide +kernel
theorem dX6_make_21 : decode cX6_make 21 = .ok (.iload 4, 2) := by decide +kernel
theorem dX6_make_23 : decode cX6_make 23 = .ok (.ifCond .lt 9, 3) := by decide +kernel
theorem dX6_make_26 : decode cX6_make 26 = .ok (.iload 4, 2) := by decide +kernel
theorem dX6_make_28 : decode cX6_make 28 = .ok (.iconst 4, 1) := by decide +kernel
theorem dX6_make_29 : decode cX6_make 29 = .ok (.if_icmp .le 5, 3) := by decide +kernel
theorem dX6_make_32 : decode cX6_make 32 = .ok (.iconst (-1), 1) := by decide +kernel
theorem dX6_make_33 : decode cX6_make 33 = .ok (.ireturn, 1) := by decide +kernel
theorem dX6_make_34 : decode cX6_make 34 = .ok (.aload_n 0, 1) := by decide +kernel
theorem dX6_make_35 : decode cX6_make 35 = .ok (.iload_n 1, 1) := by decide +kernel
theorem dX6_make_36 : decode cX6_make 36 = .ok (.invokevirtual 91, 3) := by decide +kernel
theorem dX6_make_39 : decode cX6_make 39 = .ok (.astore 5, 2) := by decide +kernel
theorem dX6_make_41 : decode cX6_make 41 = .ok (.aload_n 0, 1) := by decide +kernel
theorem dX6_make_42 : decode cX6_make 42 = .ok (.iload_n 2, 1) := by decide +kernel
theorem dX6_make_43 : decode cX6_make 43 = .ok (.invokevirtual 91, 3) := by decide +kernel
theorem dX6_make_46 : decode cX6_make 46 = .ok (.astore 6, 2) := by decide +kernel
theorem dX6_make_48 : decode cX6_make 48 = .ok (.aload 5, 2) := by decide +kernel
theorem dX6_make_50 : decode cX6_make 50 = .ok (.invokevirtual 109, 3) := by decide +kernel
theorem dX6_make_53 : decode cX6_make 53 = .ok (.ifCond .ne 11, 3) := by decide +kernel
theorem dX6_make_56 : decode cX6_make 56 = .ok (.aload 6, 2) := by decide +kernel
theorem dX6_make_58 : decode cX6_make 58 = .ok (.invokevirtual 109, 3) := by decide +kernel
theorem dX6_make_61 : decode cX6_make 61 = .ok (.ifCond .eq 6, 3) := by decide +kernel
theorem dX6_make_64 : decode cX6_make 64 = .ok (.bipush (-2), 2) := by decide +kernel
theorem dX6_make_66 : decode cX6_make 66 = .ok (.ireturn, 1) := by decide +kernel
theorem dX6_make_67 : decode cX6_make 67 = .ok (.aload 5, 2) := by decide +kernel
theorem dX6_make_69 : decode cX6_make 69 = .ok (.aload 6, 2) := by decide +kernel
theorem dX6_make_71 : decode cX6_make 71 = .ok (.iload 4, 2) := by decide +kernel
theorem dX6_make_73 : decode cX6_make 73 = .ok (.invokestatic 162, 3) := by decide +kernel
theorem dX6_make_76 : decode cX6_make 76 = .ok (.istore 7, 2) := by decide +kernel
theorem dX6_make_78 : decode cX6_make 78 = .ok (.iload 7, 2) := by decide +kernel
theorem dX6_make_80 : decode cX6_make 80 = .ok (.bipush 7, 2) := by decide +kernel
theorem dX6_make_82 : decode cX6_make 82 = .ok (.if_icmp .le 6, 3) := by decide +kernel
theorem dX6_make_85 : decode cX6_make 85 = .ok (.bipush (-3), 2) := by decide +kernel
theorem dX6_make_87 : decode cX6_make 87 = .ok (.ireturn, 1) := by decide +kernel
theorem dX6_make_88 : decode cX6_make 88 = .ok (.aload_n 0, 1) := by decide +kernel
theorem dX6_make_89 : decode cX6_make 89 = .ok (.getfield 34, 3) := by decide +kernel
theorem dX6_make_92 : decode cX6_make 92 = .ok (.iload 7, 2) := by decide +kernel
theorem dX6_make_94 : decode cX6_make 94 = .ok (.invokevirtual 106, 3) := by decide +kernel
theorem dX6_make_97 : decode cX6_make 97 = .ok (.iconst 0, 1) := by decide +kernel
theorem dX6_make_98 : decode cX6_make 98 = .ok (.istore 8, 2) := by decide +kernel
theorem dX6_make_100 : decode cX6_make 100 = .ok (.iload 8, 2) := by decide +kernel
theorem dX6_make_102 : decode cX6_make 102 = .ok (.iload 7, 2) := by decide +kernel
theorem dX6_make_104 : decode cX6_make 104 = .ok (.if_icmp .ge 52, 3) := by decide +kernel
theorem dX6_make_107 : decode cX6_make 107 = .ok (.iconst 0, 1) := by decide +kernel
theorem dX6_make_108 : decode cX6_make 108 = .ok (.istore 9, 2) := by decide +kernel
theorem dX6_make_110 : decode cX6_make 110 = .ok (.iload 9, 2) := by decide +kernel
theorem dX6_make_112 : decode cX6_make 112 = .ok (.iload 7, 2) := by decide +kernel
theorem dX6_make_114 : decode cX6_make 114 = .ok (.if_icmp .ge 36, 3) := by decide +kernel
theorem dX6_make_117 : decode cX6_make 117 = .ok (.aload 5, 2) := by decide +kernel
theorem dX6_make_119 : decode cX6_make 119 = .ok (.aload 6, 2) := by decide +kernel
theorem dX6_make_121 : decode cX6_make 121 = .ok (.iload 4, 2) := by decide +kernel
theorem dX6_make_123 : decode cX6_make 123 = .ok (.iload 8, 2) := by decide +kernel
theorem dX6_make_125 : decode cX6_make 125 = .ok (.iload 9, 2) := by decide +kernel
theorem dX6_make_127 : decode cX6_make 127 = .ok (.invokestatic 166, 3) := by decide +kernel
theorem dX6_make_130 : decode cX6_make 130 = .ok (.ifCond .eq 14, 3) := by decide +kernel
theorem dX6_make_133 : decode cX6_make 133 = .ok (.aload_n 0, 1) := by decide +kernel
theorem dX6_make_134 : decode cX6_make 134 = .ok (.getfield 34, 3) := by decide +kernel
theorem dX6_make_137 : decode cX6_make 137 = .ok (.iload 8, 2) := by decide +kernel
theorem dX6_make_139 : decode cX6_make 139 = .ok (.iload 9, 2) := by decide +kernel
theorem dX6_make_141 : decode cX6_make 141 = .ok (.invokevirtual 119, 3) := by decide +kernel
theorem dX6_make_144 : decode cX6_make 144 = .ok (.iinc 9 1, 3) := by decide +kernel
theorem dX6_make_147 : decode cX6_make 147 = .ok (.goto (-37), 3) := by decide +kernel
theorem dX6_make_150 : decode cX6_make 150 = .ok (.iinc 8 1, 3) := by decide +kernel
theorem dX6_make_153 : decode cX6_make 153 = .ok (.goto (-53), 3) := by decide +kernel
theorem dX6_make_156 : decode cX6_make 156 = .ok (.aload_n 0, 1) := by decide +kernel
theorem dX6_make_157 : decode cX6_make 157 = .ok (.iload_n 3, 1) := by decide +kernel
theorem dX6_make_158 : decode cX6_make 158 = .ok (.invokevirtual 170, 3) := by decide +kernel
theorem dX6_make_161 : decode cX6_make 161 = .ok (.ireturn, 1) := by decide +kernel
noncomputable def f_X6_make_b32  (σ : Hp) : Option (Int32 × Hp) := some ((-1), σ)
set_option maxRecDepth 100000 in
set_option maxHeartbeats 4000000 in
theorem t_X6_make_b32 {l : Launch} {γ : Gm} {ad : Nat → Nat} {K : Option Value → Hp → Prop} (hc : Cx l γ 5 10 ad shC RX6 cX6_make (some .int) K)  {σ : Hp} (h : wpO (f_X6_make_b32  σ) (KI K)) : WW l γ 5 10 ad shC 32 [] [] σ := by
  unfold f_X6_make_b32 at h
  refine r_iconst hc (v := (-1)) (by decide) dX6_make_32 ?_
  have h := wp_v h
  exact r_iret hc h dX6_make_33
noncomputable def f_X6_make_b64  (σ : Hp) : Option (Int32 × Hp) := some ((-2), σ)
set_option maxRecDepth 100000 in
set_option maxHeartbeats 4000000 in
theorem t_X6_make_b64 {l : Launch} {γ : Gm} {ad : Nat → Nat} {K : Option Value → Hp → Prop} (hc : Cx l γ 5 10 ad shC RX6 cX6_make (some .int) K)  {σ : Hp} (h : wpO (f_X6_make_b64  σ) (KI K)) : WW l γ 5 10 ad shC 64 [] [] σ := by
  unfold f_X6_make_b64 at h
  refine r_bipush hc (v := (-2)) (by decide) dX6_make_64 ?_
  have h := wp_v h
  exact r_iret hc h dX6_make_66
noncomputable def f_X6_make_b144 (x0 : Nat) (x3 : Int32) (x4 : Int32) (x5 : Nat) (x6 : Nat) (x7 : Int32) (x8 : Int32) (x9 : Int32) (σ : Hp) : Option (((Int32) ⊕ (Unit)) × Hp) := some (Sum.inl (x9 + 1), σ)
set_option maxRecDepth 100000 in
set_option maxHeartbeats 4000000 in
theorem t_X6_make_b144 {l : Launch} {γ : Gm} {ad : Nat → Nat} {K : Option Value → Hp → Prop} (hc : Cx l γ 5 10 ad shC RX6 cX6_make (some .int) K) {x0 : Nat} {x3 : Int32} {x4 : Int32} {x5 : Nat} {x6 : Nat} {x7 : Int32} {x8 : Int32} {x9 : Int32}  {σ : Hp} {KL : ((Int32) ⊕ (Unit)) → Hp → Prop} (h : wpO (f_X6_make_b144 x0 x3 x4 x5 x6 x7 x8 x9 σ) KL) (kn : ∀ (v : (Int32)) (σ : Hp), KL (Sum.inl v) σ → WW l γ 5 10 ad shC 110 [(0, .ref (ad x0)), (3, .int x3), (4, .int x4), (5, .ref (ad x5)), (6, .ref (ad x6)), (7, .int x7), (8, .int x8), (9, .int v)] [] σ) (kx150 : ∀ (v : Unit) (σ : Hp), KL (Sum.inr v) σ → WW l γ 5 10 ad shC 150 [(0, .ref (ad x0)), (3, .int x3), (4, .int x4), (5, .ref (ad x5)), (6, .ref (ad x6)), (7, .int x7), (8, .int x8)] [] σ) : WW l γ 5 10 ad shC 144 [(0, .ref (ad x0)), (3, .int x3), (4, .int x4), (5, .ref (ad x5)), (6, .ref (ad x6)), (7, .int x7), (8, .int x8), (9, .int x9)] [] σ := by
  unfold f_X6_make_b144 at h
  refine r_iincE hc (j := 7) (w := 1) (lv' := [(9, .int (x9 + 1)), (0, .ref (ad x0)), (3, .int x3), (4, .int x4), (5, .ref (ad x5)), (6, .ref (ad x6)), (7, .int x7), (8, .int x8)]) rfl (by decide) rfl (by decide) rfl dX6_make_144 ?_
  refine r_goto hc (tgt := 110) dX6_make_147 (by decide) ?_
  refine r_sub [1, 2, 3, 4, 5, 6, 7, 0] (lv' := [(0, .ref (ad x0)), (3, .int x3), (4, .int x4), (5, .ref (ad x5)), (6, .ref (ad x6)), (7, .int x7), (8, .int x8), (9, .int (x9 + 1))]) rfl ?_
  have h := wp_v h
  exact kn (x9 + 1) _ h
noncomputable def f_X6_make_L110 (x0 : Nat) (x3 : Int32) (x4 : Int32) (x5 : Nat) (x6 : Nat) (x7 : Int32) (x8 : Int32) (v : (Int32)) (σ : Hp) : Option (((Int32) ⊕ (Unit)) × Hp) := if x7 ≤ v then (some (Sum.inr (), σ)) else (bO (f_X6_madeLine x5 x6 x4 x8 v σ) fun r1 σ2 => if r1 = 0 then (f_X6_make_b144 x0 x3 x4 x5 x6 x7 x8 v σ2) else (gO (getR shC 6 x0 6 σ2) fun v3 => gO (chk shC v3 1) fun _ => bO (f_X1_join v3 x8 v σ2) fun _ σ5 => f_X6_make_b144 x0 x3 x4 x5 x6 x7 x8 v σ5))
set_option maxRecDepth 100000 in
set_option maxHeartbeats 4000000 in
theorem t_X6_make_L110 {l : Launch} {γ : Gm} {ad : Nat → Nat} {K : Option Value → Hp → Prop}  (hc : Cx l γ 5 10 ad shC RX6 cX6_make (some .int) K) {x0 : Nat} {x3 : Int32} {x4 : Int32} {x5 : Nat} {x6 : Nat} {x7 : Int32} {x8 : Int32} {v : (Int32)} {σ : Hp} {KX : (Unit) → Hp → Prop} (h : wpO (wh (f_X6_make_L110 x0 x3 x4 x5 x6 x7 x8) v σ) KX) (kx150 : ∀ (v : Unit) (σ : Hp), KX v σ → WW l γ 5 10 ad shC 150 [(0, .ref (ad x0)), (3, .int x3), (4, .int x4), (5, .ref (ad x5)), (6, .ref (ad x6)), (7, .int x7), (8, .int x8)] [] σ) : WW l γ 5 10 ad shC 110 [(0, .ref (ad x0)), (3, .int x3), (4, .int x4), (5, .ref (ad x5)), (6, .ref (ad x6)), (7, .int x7), (8, .int x8), (9, .int v)] [] σ := by
  refine wh_W (P := fun v σ => WW l γ 5 10 ad shC 110 [(0, .ref (ad x0)), (3, .int x3), (4, .int x4), (5, .ref (ad x5)), (6, .ref (ad x6)), (7, .int x7), (8, .int x8), (9, .int v)] [] σ) (fun v σ h => ?_) h
  have kn : ∀ (v : (Int32)) (σ : Hp), WW l γ 5 10 ad shC 110 [(0, .ref (ad x0)), (3, .int x3), (4, .int x4), (5, .ref (ad x5)), (6, .ref (ad x6)), (7, .int x7), (8, .int x8), (9, .int v)] [] σ → WW l γ 5 10 ad shC 110 [(0, .ref (ad x0)), (3, .int x3), (4, .int x4), (5, .ref (ad x5)), (6, .ref (ad x6)), (7, .int x7), (8, .int x8), (9, .int v)] [] σ := fun _ _ h => h
  · unfold f_X6_make_L110 at h
    refine r_iload hc 7 rfl dX6_make_110 ?_
    refine r_iload hc 5 rfl dX6_make_112 ?_
    refine r_icmp_ge hc (tgt := 150) dX6_make_114 (by decide) (fun c => ?_) (fun c => ?_)
    · have h := wp_t c h
      refine r_sub [0, 1, 2, 3, 4, 5, 6] (lv' := [(0, .ref (ad x0)), (3, .int x3), (4, .int x4), (5, .ref (ad x5)), (6, .ref (ad x6)), (7, .int x7), (8, .int x8)]) rfl ?_
      have h := wp_v h
      exact kx150 () _ h
    · have h := wp_f c h
      refine r_aload hc 3 rfl dX6_make_117 ?_
      refine r_aload hc 4 rfl dX6_make_119 ?_
      refine r_iload hc 2 rfl dX6_make_121 ?_
      refine r_iload hc 6 rfl dX6_make_123 ?_
      refine r_iload hc 7 rfl dX6_make_125 ?_
      obtain ⟨r1, σ2, er1, h⟩ := wp_b h
      refine r_callS hc ms_X6_madeLine ml_X6_166 (c_X6_madeLine er1) rfl rfl (by decide) rfl (Nat.le_of_ble_eq_true rfl) dX6_make_127 ?_
      refine r_if_eq hc (tgt := 144) dX6_make_130 (by decide) (fun c => ?_) (fun c => ?_)
      · have h := wp_t c h
        exact t_X6_make_b144 hc h kn kx150
      · have h := wp_f c h
        refine r_aload_n hc 0 rfl rfl dX6_make_133 ?_
        obtain ⟨v3, ev3, h⟩ := wp_g h
        refine r_getR hc ev3 fl_X6_34 rfl dX6_make_134 ?_
        refine r_iload hc 6 rfl dX6_make_137 ?_
        refine r_iload hc 7 rfl dX6_make_139 ?_
        obtain ⟨_, ek6, h⟩ := wp_g h
        obtain ⟨_, σ5, er4, h⟩ := wp_b h
        refine r_callV hc (k0 := v3) mv_X1_join ml_X6_119 (c_X1_join er4) (chk_of ek6) cls_1.1 rfl rfl rfl (by decide) rfl (Nat.le_of_ble_eq_true rfl) dX6_make_141 ?_
        exact t_X6_make_b144 hc h kn kx150
noncomputable def f_X6_make_L100 (x0 : Nat) (x3 : Int32) (x4 : Int32) (x5 : Nat) (x6 : Nat) (x7 : Int32) (v : (Int32)) (σ : Hp) : Option (((Int32) ⊕ (Unit)) × Hp) := if x7 ≤ v then (some (Sum.inr (), σ)) else (bO (wh (f_X6_make_L110 x0 x3 x4 x5 x6 x7 v) 0 σ) fun y1 σ2 => (some (Sum.inl (v + 1), σ2)))
set_option maxRecDepth 100000 in
set_option maxHeartbeats 4000000 in
theorem t_X6_make_L100 {l : Launch} {γ : Gm} {ad : Nat → Nat} {K : Option Value → Hp → Prop}  (hc : Cx l γ 5 10 ad shC RX6 cX6_make (some .int) K) {x0 : Nat} {x3 : Int32} {x4 : Int32} {x5 : Nat} {x6 : Nat} {x7 : Int32} {v : (Int32)} {σ : Hp} {KX : (Unit) → Hp → Prop} (h : wpO (wh (f_X6_make_L100 x0 x3 x4 x5 x6 x7) v σ) KX) (kx156 : ∀ (v : Unit) (σ : Hp), KX v σ → WW l γ 5 10 ad shC 156 [(0, .ref (ad x0)), (3, .int x3)] [] σ) : WW l γ 5 10 ad shC 100 [(0, .ref (ad x0)), (3, .int x3), (4, .int x4), (5, .ref (ad x5)), (6, .ref (ad x6)), (7, .int x7), (8, .int v)] [] σ := by
  refine wh_W (P := fun v σ => WW l γ 5 10 ad shC 100 [(0, .ref (ad x0)), (3, .int x3), (4, .int x4), (5, .ref (ad x5)), (6, .ref (ad x6)), (7, .int x7), (8, .int v)] [] σ) (fun v σ h => ?_) h
  have kn : ∀ (v : (Int32)) (σ : Hp), WW l γ 5 10 ad shC 100 [(0, .ref (ad x0)), (3, .int x3), (4, .int x4), (5, .ref (ad x5)), (6, .ref (ad x6)), (7, .int x7), (8, .int v)] [] σ → WW l γ 5 10 ad shC 100 [(0, .ref (ad x0)), (3, .int x3), (4, .int x4), (5, .ref (ad x5)), (6, .ref (ad x6)), (7, .int x7), (8, .int v)] [] σ := fun _ _ h => h
  · unfold f_X6_make_L100 at h
    refine r_iload hc 6 rfl dX6_make_100 ?_
    refine r_iload hc 5 rfl dX6_make_102 ?_
    refine r_icmp_ge hc (tgt := 156) dX6_make_104 (by decide) (fun c => ?_) (fun c => ?_)
    · have h := wp_t c h
      refine r_sub [0, 1] (lv' := [(0, .ref (ad x0)), (3, .int x3)]) rfl ?_
      have h := wp_v h
      exact kx156 () _ h
    · have h := wp_f c h
      refine r_iconst hc (v := 0) (by decide) dX6_make_107 ?_
      refine r_istoreE hc (i := 9) (lv' := [(9, .int 0), (0, .ref (ad x0)), (3, .int x3), (4, .int x4), (5, .ref (ad x5)), (6, .ref (ad x6)), (7, .int x7), (8, .int v)]) rfl (by decide) rfl dX6_make_108 ?_
      refine r_sub [1, 2, 3, 4, 5, 6, 7, 0] (lv' := [(0, .ref (ad x0)), (3, .int x3), (4, .int x4), (5, .ref (ad x5)), (6, .ref (ad x6)), (7, .int x7), (8, .int v), (9, .int 0)]) rfl ?_
      refine t_X6_make_L110 hc (wp_bb h) ?_
      · intro y1 σ2 h
        refine r_iincE hc (j := 6) (w := 1) (lv' := [(8, .int (v + 1)), (0, .ref (ad x0)), (3, .int x3), (4, .int x4), (5, .ref (ad x5)), (6, .ref (ad x6)), (7, .int x7)]) rfl (by decide) rfl (by decide) rfl dX6_make_150 ?_
        refine r_goto hc (tgt := 100) dX6_make_153 (by decide) ?_
        refine r_sub [1, 2, 3, 4, 5, 6, 0] (lv' := [(0, .ref (ad x0)), (3, .int x3), (4, .int x4), (5, .ref (ad x5)), (6, .ref (ad x6)), (7, .int x7), (8, .int (v + 1))]) rfl ?_
        have h := wp_v h
        exact kn (v + 1) _ h
noncomputable def f_X6_make (x0 : Nat) (x1 : Int32) (x2 : Int32) (x3 : Int32) (x4 : Int32) (σ : Hp) : Option (Int32 × Hp) := bO (f_X6_noDrawer x1 σ) fun r1 σ2 => if r1 = 0 then (bO (f_X6_noDrawer x2 σ2) fun r3 σ4 => if r3 = 0 then (bO (f_X6_noDrawer x3 σ4) fun r5 σ6 => if r5 = 0 then (if x4 < 0 then (f_X6_make_b32  σ6) else (if x4 ≤ 4 then (gO (chk shC x0 6) fun _ => bO (f_X6_in x0 x1 σ6) fun r7 σ8 => gO (chk shC x0 6) fun _ => bO (f_X6_in x0 x2 σ8) fun r10 σ11 => gO (chk shC r7 1) fun _ => bO (f_X1_isEmpty r7 σ11) fun r13 σ14 => if r13 = 0 then (gO (chk shC r10 1) fun _ => bO (f_X1_isEmpty r10 σ14) fun r16 σ17 => if r16 = 0 then (bO (f_X6_nodesMade r7 r10 x4 σ17) fun r19 σ20 => if r19 ≤ 7 then (gO (getR shC 6 x0 6 σ20) fun v21 => gO (chk shC v21 1) fun _ => bO (f_X1_begin v21 r19 σ20) fun _ σ23 => bO (wh (f_X6_make_L100 x0 x3 x4 r7 r10 r19) 0 σ23) fun y25 σ26 => (gO (chk shC x0 6) fun _ => bO (f_X6_settle x0 x3 σ26) fun r27 σ28 => some (r27, σ28))) else (some ((-3), σ20))) else (f_X6_make_b64  σ17)) else (f_X6_make_b64  σ14)) else (f_X6_make_b32  σ6))) else (f_X6_make_b32  σ6)) else (f_X6_make_b32  σ4)) else (f_X6_make_b32  σ2)
set_option maxRecDepth 100000 in
set_option maxHeartbeats 4000000 in
theorem t_X6_make {l : Launch} {γ : Gm} {ad : Nat → Nat} {K : Option Value → Hp → Prop} (hc : Cx l γ 5 10 ad shC RX6 cX6_make (some .int) K) {x0 : Nat} {x1 : Int32} {x2 : Int32} {x3 : Int32} {x4 : Int32} {σ : Hp} (h : wpO (f_X6_make x0 x1 x2 x3 x4 σ) (KI K)) : WW l γ 5 10 ad shC 0 [(0, .ref (ad x0)), (1, .int x1), (2, .int x2), (3, .int x3), (4, .int x4)] [] σ := by
  unfold f_X6_make at h
  refine r_iload_n hc 1 rfl rfl dX6_make_0 ?_
  obtain ⟨r1, σ2, er1, h⟩ := wp_b h
  refine r_callS hc ms_X6_noDrawer ml_X6_76 (c_X6_noDrawer er1) rfl rfl (by decide) rfl (Nat.le_of_ble_eq_true rfl) dX6_make_1 ?_
  refine r_if_ne hc (tgt := 32) dX6_make_4 (by decide) (fun c => ?_) (fun c => ?_)
  · have h := wp_f c h
    refine r_sub [] (lv' := []) rfl ?_
    exact t_X6_make_b32 hc h
  · have h := wp_t c h
    refine r_iload_n hc 2 rfl rfl dX6_make_7 ?_
    obtain ⟨r3, σ4, er3, h⟩ := wp_b h
    refine r_callS hc ms_X6_noDrawer ml_X6_76 (c_X6_noDrawer er3) rfl rfl (by decide) rfl (Nat.le_of_ble_eq_true rfl) dX6_make_8 ?_
    refine r_if_ne hc (tgt := 32) dX6_make_11 (by decide) (fun c => ?_) (fun c => ?_)
    · have h := wp_f c h
      refine r_sub [] (lv' := []) rfl ?_
      exact t_X6_make_b32 hc h
    · have h := wp_t c h
      refine r_iload_n hc 3 rfl rfl dX6_make_14 ?_
      obtain ⟨r5, σ6, er5, h⟩ := wp_b h
      refine r_callS hc ms_X6_noDrawer ml_X6_76 (c_X6_noDrawer er5) rfl rfl (by decide) rfl (Nat.le_of_ble_eq_true rfl) dX6_make_15 ?_
      refine r_if_ne hc (tgt := 32) dX6_make_18 (by decide) (fun c => ?_) (fun c => ?_)
      · have h := wp_f c h
        refine r_sub [] (lv' := []) rfl ?_
        exact t_X6_make_b32 hc h
      · have h := wp_t c h
        refine r_iload hc 4 rfl dX6_make_21 ?_
        refine r_if_lt hc (tgt := 32) dX6_make_23 (by decide) (fun c => ?_) (fun c => ?_)
        · have h := wp_t c h
          refine r_sub [] (lv' := []) rfl ?_
          exact t_X6_make_b32 hc h
        · have h := wp_f c h
          refine r_iload hc 4 rfl dX6_make_26 ?_
          refine r_iconst hc (v := 4) (by decide) dX6_make_28 ?_
          refine r_icmp_le hc (tgt := 34) dX6_make_29 (by decide) (fun c => ?_) (fun c => ?_)
          · have h := wp_t c h
            refine r_aload_n hc 0 rfl rfl dX6_make_34 ?_
            refine r_iload_n hc 1 rfl rfl dX6_make_35 ?_
            obtain ⟨_, ek9, h⟩ := wp_g h
            obtain ⟨r7, σ8, er7, h⟩ := wp_b h
            refine r_callV hc (k0 := x0) mv_X6_in ml_X6_91 (c_X6_in er7) (chk_of ek9) cls_6.1 rfl rfl rfl (by decide) rfl (Nat.le_of_ble_eq_true rfl) dX6_make_36 ?_
            refine r_astore hc (i := 5) (lv' := [(5, .ref (ad r7)), (0, .ref (ad x0)), (1, .int x1), (2, .int x2), (3, .int x3), (4, .int x4)]) (by decide) rfl dX6_make_39 ?_
            refine r_aload_n hc 1 rfl rfl dX6_make_41 ?_
            refine r_iload_n hc 3 rfl rfl dX6_make_42 ?_
            obtain ⟨_, ek12, h⟩ := wp_g h
            obtain ⟨r10, σ11, er10, h⟩ := wp_b h
            refine r_callV hc (k0 := x0) mv_X6_in ml_X6_91 (c_X6_in er10) (chk_of ek12) cls_6.1 rfl rfl rfl (by decide) rfl (Nat.le_of_ble_eq_true rfl) dX6_make_43 ?_
            refine r_astore hc (i := 6) (lv' := [(6, .ref (ad r10)), (5, .ref (ad r7)), (0, .ref (ad x0)), (1, .int x1), (2, .int x2), (3, .int x3), (4, .int x4)]) (by decide) rfl dX6_make_46 ?_
            refine r_aload hc 1 rfl dX6_make_48 ?_
            obtain ⟨_, ek15, h⟩ := wp_g h
            obtain ⟨r13, σ14, er13, h⟩ := wp_b h
            refine r_callV hc (k0 := r7) mv_X1_isEmpty ml_X6_109 (c_X1_isEmpty er13) (chk_of ek15) cls_1.1 rfl rfl rfl (by decide) rfl (Nat.le_of_ble_eq_true rfl) dX6_make_50 ?_
            refine r_if_ne hc (tgt := 64) dX6_make_53 (by decide) (fun c => ?_) (fun c => ?_)
            · have h := wp_f c h
              refine r_sub [] (lv' := []) rfl ?_
              exact t_X6_make_b64 hc h
            · have h := wp_t c h
              refine r_aload hc 0 rfl dX6_make_56 ?_
              obtain ⟨_, ek18, h⟩ := wp_g h
              obtain ⟨r16, σ17, er16, h⟩ := wp_b h
              refine r_callV hc (k0 := r10) mv_X1_isEmpty ml_X6_109 (c_X1_isEmpty er16) (chk_of ek18) cls_1.1 rfl rfl rfl (by decide) rfl (Nat.le_of_ble_eq_true rfl) dX6_make_58 ?_
              refine r_if_eq hc (tgt := 67) dX6_make_61 (by decide) (fun c => ?_) (fun c => ?_)
              · have h := wp_t c h
                refine r_aload hc 1 rfl dX6_make_67 ?_
                refine r_aload hc 0 rfl dX6_make_69 ?_
                refine r_iload hc 6 rfl dX6_make_71 ?_
                obtain ⟨r19, σ20, er19, h⟩ := wp_b h
                refine r_callS hc ms_X6_nodesMade ml_X6_162 (c_X6_nodesMade er19) rfl rfl (by decide) rfl (Nat.le_of_ble_eq_true rfl) dX6_make_73 ?_
                refine r_istoreE hc (i := 7) (lv' := [(7, .int r19), (6, .ref (ad r10)), (5, .ref (ad r7)), (0, .ref (ad x0)), (1, .int x1), (2, .int x2), (3, .int x3), (4, .int x4)]) rfl (by decide) rfl dX6_make_76 ?_
                refine r_iload hc 0 rfl dX6_make_78 ?_
                refine r_bipush hc (v := 7) (by decide) dX6_make_80 ?_
                refine r_icmp_le hc (tgt := 88) dX6_make_82 (by decide) (fun c => ?_) (fun c => ?_)
                · have h := wp_t c h
                  refine r_aload_n hc 3 rfl rfl dX6_make_88 ?_
                  obtain ⟨v21, ev21, h⟩ := wp_g h
                  refine r_getR hc ev21 fl_X6_34 rfl dX6_make_89 ?_
                  refine r_iload hc 0 rfl dX6_make_92 ?_
                  obtain ⟨_, ek24, h⟩ := wp_g h
                  obtain ⟨_, σ23, er22, h⟩ := wp_b h
                  refine r_callV hc (k0 := v21) mv_X1_begin ml_X6_106 (c_X1_begin er22) (chk_of ek24) cls_1.1 rfl rfl rfl (by decide) rfl (Nat.le_of_ble_eq_true rfl) dX6_make_94 ?_
                  refine r_iconst hc (v := 0) (by decide) dX6_make_97 ?_
                  refine r_istoreE hc (i := 8) (lv' := [(8, .int 0), (7, .int r19), (6, .ref (ad r10)), (5, .ref (ad r7)), (0, .ref (ad x0)), (1, .int x1), (2, .int x2), (3, .int x3), (4, .int x4)]) rfl (by decide) rfl dX6_make_98 ?_
                  refine r_sub [4, 7, 8, 3, 2, 1, 0] (lv' := [(0, .ref (ad x0)), (3, .int x3), (4, .int x4), (5, .ref (ad r7)), (6, .ref (ad r10)), (7, .int r19), (8, .int 0)]) rfl ?_
                  refine t_X6_make_L100 hc (wp_bb h) ?_
                  · intro y25 σ26 h
                    refine r_aload_n hc 0 rfl rfl dX6_make_156 ?_
                    refine r_iload_n hc 1 rfl rfl dX6_make_157 ?_
                    obtain ⟨_, ek29, h⟩ := wp_g h
                    obtain ⟨r27, σ28, er27, h⟩ := wp_b h
                    refine r_callV hc (k0 := x0) mv_X6_settle ml_X6_170 (c_X6_settle er27) (chk_of ek29) cls_6.1 rfl rfl rfl (by decide) rfl (Nat.le_of_ble_eq_true rfl) dX6_make_158 ?_
                    have h := wp_v h
                    exact r_iret hc h dX6_make_161
                · have h := wp_f c h
                  refine r_bipush hc (v := (-3)) (by decide) dX6_make_85 ?_
                  have h := wp_v h
                  exact r_iret hc h dX6_make_87
              · have h := wp_f c h
                refine r_sub [] (lv' := []) rfl ?_
                exact t_X6_make_b64 hc h
          · have h := wp_f c h
            refine r_sub [] (lv' := []) rfl ?_
            exact t_X6_make_b32 hc h
theorem c_X6_make {l : Launch} {x0 : Nat} {x1 : Int32} {x2 : Int32} {x3 : Int32} {x4 : Int32} {σ σ' : Hp} {r : Int32} (h : f_X6_make x0 x1 x2 x3 x4 σ = some (r, σ')) : Mt l yX6_make cX6_make 10 (some .int) 5 shC (fun ad => [.ref (ad x0), .int x1, .int x2, .int x3, .int x4]) σ (fun ad => some (.int r)) σ' := mt_i (own := RX6) (by decide) rfl (fun _ => Nat.le_of_ble_eq_true rfl) (fun γ ad K hc hk => t_X6_make hc ⟨_, _, h, hk⟩)

-- NetMaps.changedLine(LNetMaps$Net;III)Z
theorem dX6_changedLine_0 : decode cX6_changedLine 0 = .ok (.iload_n 1, 1) := by decide +kernel
theorem dX6_changedLine_1 : decode cX6_changedLine 1 = .ok (.tableswitch 131 0 4 #[35, 42, 66, 91, 111], 35) := by decide +kernel
theorem dX6_changedLine_36 : decode cX6_changedLine 36 = .ok (.aload_n 0, 1) := by decide +kernel
theorem dX6_changedLine_37 : decode cX6_changedLine 37 = .ok (.iload_n 3, 1) := by decide +kernel
theorem dX6_changedLine_38 : decode cX6_changedLine 38 = .ok (.iload_n 2, 1) := by decide +kernel
theorem dX6_changedLine_39 : decode cX6_changedLine 39 = .ok (.invokevirtual 116, 3) := by decide +kernel
theorem dX6_changedLine_42 : decode cX6_changedLine 42 = .ok (.ireturn, 1) := by decide +kernel
theorem dX6_changedLine_43 : decode cX6_changedLine 43 = .ok (.aload_n 0, 1) := by decide +kernel
theorem dX6_changedLine_44 : decode cX6_changedLine 44 = .ok (.iload_n 2, 1) := by decide +kernel
theorem dX6_changedLine_45 : decode cX6_changedLine 45 = .ok (.iload_n 3, 1) := by decide +kernel
theorem dX6_changedLine_46 : decode cX6_changedLine 46 = .ok (.invokevirtual 116, 3) := by decide +kernel
theorem dX6_changedLine_49 : decode cX6_changedLine 49 = .ok (.ifCond .ne 12, 3) := by decide +kernel
theorem dX6_changedLine_52 : decode cX6_changedLine 52 = .ok (.aload_n 0, 1) := by decide +kernel
theorem dX6_changedLine_53 : decode cX6_changedLine 53 = .ok (.iload_n 3, 1) := by decide +kernel
theorem dX6_changedLine_54 : decode cX6_changedLine 54 = .ok (.iload_n 2, 1) := by decide +kernel
theorem dX6_changedLine_55 : decode cX6_changedLine 55 = .ok (.invokevirtual 116, 3) := by decide +kernel
theorem dX6_changedLine_58 : decode cX6_changedLine 58 = .ok (.ifCond .eq 7, 3) := by decide +kernel
theorem dX6_changedLine_61 : decode cX6_changedLine 61 = .ok (.iconst 1, 1) := by decide +kernel
theorem dX6_changedLine_62 : decode cX6_changedLine 62 = .ok (.goto 4, 3) := by decide +kernel
theorem dX6_changedLine_65 : decode cX6_changedLine 65 = .ok (.iconst 0, 1) := by decide +kernel
theorem dX6_changedLine_66 : decode cX6_changedLine 66 = .ok (.ireturn, 1) := by decide +kernel
theorem dX6_changedLine_67 : decode cX6_changedLine 67 = .ok (.aload_n 0, 1) := by decide +kernel
theorem dX6_changedLine_68 : decode cX6_changedLine 68 = .ok (.iload_n 2, 1) := by decide +kernel
theorem dX6_changedLine_69 : decode cX6_changedLine 69 = .ok (.iload_n 3, 1) := by decide +kernel
theorem dX6_changedLine_70 : decode cX6_changedLine 70 = .ok (.invokevirtual 116, 3) := by decide +kernel
theorem dX6_changedLine_73 : decode cX6_changedLine 73 = .ok (.iload_n 2, 1) := by decide +kernel
theorem dX6_changedLine_74 : decode cX6_changedLine 74 = .ok (.iload_n 3, 1) := by decide +kernel
theorem dX6_changedLine_75 : decode cX6_changedLine 75 = .ok (.if_icmp .ne 7, 3) := by decide +kernel
theorem dX6_changedLine_78 : decode cX6_changedLine 78 = .ok (.iconst 1, 1) := by decide +kernel
theorem dX6_changedLine_79 : decode cX6_changedLine 79 = .ok (.goto 4, 3) := by decide +kernel
theorem dX6_changedLine_82 : decode cX6_changedLine 82 = .ok (.iconst 0, 1) := by decide +kernel
theorem dX6_changedLine_83 : decode cX6_changedLine 83 = .ok (.if_icmp .ne 7, 3) := by decide +kernel
theorem dX6_changedLine_86 : decode cX6_changedLine 86 = .ok (.iconst 1, 1) := by decide +kernel
theorem dX6_changedLine_87 : decode cX6_changedLine 87 = .ok (.goto 4, 3) := by decide +kernel
theorem dX6_changedLine_90 : decode cX6_changedLine 90 = .ok (.iconst 0, 1) := by decide +kernel
theorem dX6_changedLine_91 : decode cX6_changedLine 91 = .ok (.ireturn, 1) := by decide +kernel
theorem dX6_changedLine_92 : decode cX6_changedLine 92 = .ok (.aload_n 0, 1) := by decide +kernel
theorem dX6_changedLine_93 : decode cX6_changedLine 93 = .ok (.iload_n 2, 1) := by decide +kernel
theorem dX6_changedLine_94 : decode cX6_changedLine 94 = .ok (.iload_n 3, 1) := by decide +kernel
theorem dX6_changedLine_95 : decode cX6_changedLine 95 = .ok (.invokevirtual 116, 3) := by decide +kernel
theorem dX6_changedLine_98 : decode cX6_changedLine 98 = .ok (.ifCond .ne 8, 3) := by decide +kernel
theorem dX6_changedLine_101 : decode cX6_changedLine 101 = .ok (.iload_n 2, 1) := by decide +kernel
theorem dX6_changedLine_102 : decode cX6_changedLine 102 = .ok (.iload_n 3, 1) := by decide +kernel
theorem dX6_changedLine_103 : decode cX6_changedLine 103 = .ok (.if_icmp .ne 7, 3) := by decide +kernel
theorem dX6_changedLine_106 : decode cX6_changedLine 106 = .ok (.iconst 1, 1) := by decide +kernel
theorem dX6_changedLine_107 : decode cX6_changedLine 107 = .ok (.goto 4, 3) := by decide +kernel
theorem dX6_changedLine_110 : decode cX6_changedLine 110 = .ok (.iconst 0, 1) := by decide +kernel
theorem dX6_changedLine_111 : decode cX6_changedLine 111 = .ok (.ireturn, 1) := by decide +kernel
theorem dX6_changedLine_112 : decode cX6_changedLine 112 = .ok (.aload_n 0, 1) := by decide +kernel
theorem dX6_changedLine_113 : decode cX6_changedLine 113 = .ok (.iload_n 2, 1) := by decide +kernel
theorem dX6_changedLine_114 : decode cX6_changedLine 114 = .ok (.iload_n 3, 1) := by decide +kernel
theorem dX6_changedLine_115 : decode cX6_changedLine 115 = .ok (.invokevirtual 116, 3) := by decide +kernel
theorem dX6_changedLine_118 : decode cX6_changedLine 118 = .ok (.ifCond .eq 12, 3) := by decide +kernel
theorem dX6_changedLine_121 : decode cX6_changedLine 121 = .ok (.iload_n 2, 1) := by decide +kernel
theorem dX6_changedLine_122 : decode cX6_changedLine 122 = .ok (.iload_n 3, 1) := by decide +kernel
theorem dX6_changedLine_123 : decode cX6_changedLine 123 = .ok (.if_icmp .eq 7, 3) := by decide +kernel
theorem dX6_changedLine_126 : decode cX6_changedLine 126 = .ok (.iconst 1, 1) := by decide +kernel
theorem dX6_changedLine_127 : decode cX6_changedLine 127 = .ok (.goto 4, 3) := by decide +kernel
theorem dX6_changedLine_130 : decode cX6_changedLine 130 = .ok (.iconst 0, 1) := by decide +kernel
theorem dX6_changedLine_131 : decode cX6_changedLine 131 = .ok (.ireturn, 1) := by decide +kernel
theorem dX6_changedLine_132 : decode cX6_changedLine 132 = .ok (.aload_n 0, 1) := by decide +kernel
theorem dX6_changedLine_133 : decode cX6_changedLine 133 = .ok (.iload_n 2, 1) := by decide +kernel
theorem dX6_changedLine_134 : decode cX6_changedLine 134 = .ok (.invokevirtual 159, 3) := by decide +kernel
theorem dX6_changedLine_137 : decode cX6_changedLine 137 = .ok (.iload_n 3, 1) := by decide +kernel
theorem dX6_changedLine_138 : decode cX6_changedLine 138 = .ok (.invokestatic 203, 3) := by decide +kernel
theorem dX6_changedLine_141 : decode cX6_changedLine 141 = .ok (.ireturn, 1) := by decide +kernel
noncomputable def f_X6_changedLine_b66 (s0 : Int32) (σ : Hp) : Option (Int32 × Hp) := gO (zz s0) fun _ => some (s0, σ)
set_option maxRecDepth 100000 in
set_option maxHeartbeats 4000000 in
theorem t_X6_changedLine_b66 {l : Launch} {γ : Gm} {ad : Nat → Nat} {K : Option Value → Hp → Prop} (hc : Cx l γ 4 4 ad shC RX6 cX6_changedLine (some .boolean) K) {s0 : Int32} {σ : Hp} (h : wpO (f_X6_changedLine_b66 s0 σ) (KI K)) : WW l γ 4 4 ad shC 66 [] [.int s0] σ := by
  unfold f_X6_changedLine_b66 at h
  obtain ⟨_, ek1, h⟩ := wp_g h
  have h := wp_v h
  exact r_zret hc h (zz_of ek1) dX6_changedLine_66
noncomputable def f_X6_changedLine_b61  (σ : Hp) : Option (Int32 × Hp) := f_X6_changedLine_b66 1 σ
set_option maxRecDepth 100000 in
set_option maxHeartbeats 4000000 in
theorem t_X6_changedLine_b61 {l : Launch} {γ : Gm} {ad : Nat → Nat} {K : Option Value → Hp → Prop} (hc : Cx l γ 4 4 ad shC RX6 cX6_changedLine (some .boolean) K)  {σ : Hp} (h : wpO (f_X6_changedLine_b61  σ) (KI K)) : WW l γ 4 4 ad shC 61 [] [] σ := by
  unfold f_X6_changedLine_b61 at h
  refine r_iconst hc (v := 1) (by decide) dX6_changedLine_61 ?_
  refine r_goto hc (tgt := 66) dX6_changedLine_62 (by decide) ?_
  exact t_X6_changedLine_b66 hc h
noncomputable def f_X6_changedLine_b91 (s0 : Int32) (σ : Hp) : Option (Int32 × Hp) := gO (zz s0) fun _ => some (s0, σ)
set_option maxRecDepth 100000 in
set_option maxHeartbeats 4000000 in
theorem t_X6_changedLine_b91 {l : Launch} {γ : Gm} {ad : Nat → Nat} {K : Option Value → Hp → Prop} (hc : Cx l γ 4 4 ad shC RX6 cX6_changedLine (some .boolean) K) {s0 : Int32} {σ : Hp} (h : wpO (f_X6_changedLine_b91 s0 σ) (KI K)) : WW l γ 4 4 ad shC 91 [] [.int s0] σ := by
  unfold f_X6_changedLine_b91 at h
  obtain ⟨_, ek1, h⟩ := wp_g h
  have h := wp_v h
  exact r_zret hc h (zz_of ek1) dX6_changedLine_91
noncomputable def f_X6_changedLine_b83 (s0 : Int32) (s1 : Int32) (σ : Hp) : Option (Int32 × Hp) := if s0 = s1 then (f_X6_changedLine_b91 1 σ) else (f_X6_changedLine_b91 0 σ)
set_option maxRecDepth 100000 in
set_option maxHeartbeats 4000000 in
theorem t_X6_changedLine_b83 {l : Launch} {γ : Gm} {ad : Nat → Nat} {K : Option Value → Hp → Prop} (hc : Cx l γ 4 4 ad shC RX6 cX6_changedLine (some .boolean) K) {s0 : Int32} {s1 : Int32} {σ : Hp} (h : wpO (f_X6_changedLine_b83 s0 s1 σ) (KI K)) : WW l γ 4 4 ad shC 83 [] [.int s1, .int s0] σ := by
  unfold f_X6_changedLine_b83 at h
  refine r_icmp_ne hc (tgt := 90) dX6_changedLine_83 (by decide) (fun c => ?_) (fun c => ?_)
  · have h := wp_f c h
    refine r_iconst hc (v := 0) (by decide) dX6_changedLine_90 ?_
    exact t_X6_changedLine_b91 hc h
  · have h := wp_t c h
    refine r_iconst hc (v := 1) (by decide) dX6_changedLine_86 ?_
    refine r_goto hc (tgt := 91) dX6_changedLine_87 (by decide) ?_
    exact t_X6_changedLine_b91 hc h
noncomputable def f_X6_changedLine_b111 (s0 : Int32) (σ : Hp) : Option (Int32 × Hp) := gO (zz s0) fun _ => some (s0, σ)
set_option maxRecDepth 100000 in
set_option maxHeartbeats 4000000 in
theorem t_X6_changedLine_b111 {l : Launch} {γ : Gm} {ad : Nat → Nat} {K : Option Value → Hp → Prop} (hc : Cx l γ 4 4 ad shC RX6 cX6_changedLine (some .boolean) K) {s0 : Int32} {σ : Hp} (h : wpO (f_X6_changedLine_b111 s0 σ) (KI K)) : WW l γ 4 4 ad shC 111 [] [.int s0] σ := by
  unfold f_X6_changedLine_b111 at h
  obtain ⟨_, ek1, h⟩ := wp_g h
  have h := wp_v h
  exact r_zret hc h (zz_of ek1) dX6_changedLine_111
noncomputable def f_X6_changedLine_b106  (σ : Hp) : Option (Int32 × Hp) := f_X6_changedLine_b111 1 σ
set_option maxRecDepth 100000 in
set_option maxHeartbeats 4000000 in
theorem t_X6_changedLine_b106 {l : Launch} {γ : Gm} {ad : Nat → Nat} {K : Option Value → Hp → Prop} (hc : Cx l γ 4 4 ad shC RX6 cX6_changedLine (some .boolean) K)  {σ : Hp} (h : wpO (f_X6_changedLine_b106  σ) (KI K)) : WW l γ 4 4 ad shC 106 [] [] σ := by
  unfold f_X6_changedLine_b106 at h
  refine r_iconst hc (v := 1) (by decide) dX6_changedLine_106 ?_
  refine r_goto hc (tgt := 111) dX6_changedLine_107 (by decide) ?_
  exact t_X6_changedLine_b111 hc h
noncomputable def f_X6_changedLine_b131 (s0 : Int32) (σ : Hp) : Option (Int32 × Hp) := gO (zz s0) fun _ => some (s0, σ)
set_option maxRecDepth 100000 in
set_option maxHeartbeats 4000000 in
theorem t_X6_changedLine_b131 {l : Launch} {γ : Gm} {ad : Nat → Nat} {K : Option Value → Hp → Prop} (hc : Cx l γ 4 4 ad shC RX6 cX6_changedLine (some .boolean) K) {s0 : Int32} {σ : Hp} (h : wpO (f_X6_changedLine_b131 s0 σ) (KI K)) : WW l γ 4 4 ad shC 131 [] [.int s0] σ := by
  unfold f_X6_changedLine_b131 at h
  obtain ⟨_, ek1, h⟩ := wp_g h
  have h := wp_v h
  exact r_zret hc h (zz_of ek1) dX6_changedLine_131
noncomputable def f_X6_changedLine_b130  (σ : Hp) : Option (Int32 × Hp) := f_X6_changedLine_b131 0 σ
set_option maxRecDepth 100000 in
set_option maxHeartbeats 4000000 in
theorem t_X6_changedLine_b130 {l : Launch} {γ : Gm} {ad : Nat → Nat} {K : Option Value → Hp → Prop} (hc : Cx l γ 4 4 ad shC RX6 cX6_changedLine (some .boolean) K)  {σ : Hp} (h : wpO (f_X6_changedLine_b130  σ) (KI K)) : WW l γ 4 4 ad shC 130 [] [] σ := by
  unfold f_X6_changedLine_b130 at h
  refine r_iconst hc (v := 0) (by decide) dX6_changedLine_130 ?_
  exact t_X6_changedLine_b131 hc h
noncomputable def f_X6_changedLine (x0 : Nat) (x1 : Int32) (x2 : Int32) (x3 : Int32) (σ : Hp) : Option (Int32 × Hp) := if x1 = 0 then (gO (chk shC x0 1) fun _ => bO (f_X1_joins x0 x3 x2 σ) fun r1 σ2 => gO (zz r1) fun _ => some (r1, σ2)) else (if x1 = 1 then (gO (chk shC x0 1) fun _ => bO (f_X1_joins x0 x2 x3 σ) fun r5 σ6 => if r5 = 0 then (gO (chk shC x0 1) fun _ => bO (f_X1_joins x0 x3 x2 σ6) fun r8 σ9 => if r8 = 0 then (f_X6_changedLine_b66 0 σ9) else (f_X6_changedLine_b61  σ9)) else (f_X6_changedLine_b61  σ6)) else (if x1 = 2 then (gO (chk shC x0 1) fun _ => bO (f_X1_joins x0 x2 x3 σ) fun r11 σ12 => if x2 = x3 then (f_X6_changedLine_b83 r11 1 σ12) else (f_X6_changedLine_b83 r11 0 σ12)) else (if x1 = 3 then (gO (chk shC x0 1) fun _ => bO (f_X1_joins x0 x2 x3 σ) fun r14 σ15 => if r14 = 0 then (if x2 = x3 then (f_X6_changedLine_b106  σ15) else (f_X6_changedLine_b111 0 σ15)) else (f_X6_changedLine_b106  σ15)) else (if x1 = 4 then (gO (chk shC x0 1) fun _ => bO (f_X1_joins x0 x2 x3 σ) fun r17 σ18 => if r17 = 0 then (f_X6_changedLine_b130  σ18) else (if x2 = x3 then (f_X6_changedLine_b130  σ18) else (f_X6_changedLine_b131 1 σ18))) else (gO (chk shC x0 1) fun _ => bO (f_X1_ahead x0 x2 σ) fun r20 σ21 => bO (f_X6_has r20 x3 σ21) fun r23 σ24 => gO (zz r23) fun _ => some (r23, σ24))))))
set_option maxRecDepth 100000 in
set_option maxHeartbeats 4000000 in
theorem t_X6_changedLine {l : Launch} {γ : Gm} {ad : Nat → Nat} {K : Option Value → Hp → Prop} (hc : Cx l γ 4 4 ad shC RX6 cX6_changedLine (some .boolean) K) {x0 : Nat} {x1 : Int32} {x2 : Int32} {x3 : Int32} {σ : Hp} (h : wpO (f_X6_changedLine x0 x1 x2 x3 σ) (KI K)) : WW l γ 4 4 ad shC 0 [(0, .ref (ad x0)), (1, .int x1), (2, .int x2), (3, .int x3)] [] σ := by
  unfold f_X6_changedLine at h
  refine r_iload_n hc 1 rfl rfl dX6_changedLine_0 ?_
  by_cases c0 : x1 = 0
  · have h := wp_t c0 h
    refine r_tabIn hc (off := 35) (tgt := 36) dX6_changedLine_1 c0 (by decide) (by decide) (by decide) (by decide) ?_
    refine r_aload_n hc 0 rfl rfl dX6_changedLine_36 ?_
    refine r_iload_n hc 3 rfl rfl dX6_changedLine_37 ?_
    refine r_iload_n hc 2 rfl rfl dX6_changedLine_38 ?_
    obtain ⟨_, ek3, h⟩ := wp_g h
    obtain ⟨r1, σ2, er1, h⟩ := wp_b h
    refine r_callV hc (k0 := x0) mv_X1_joins ml_X6_116 (c_X1_joins er1) (chk_of ek3) cls_1.1 rfl rfl rfl (by decide) rfl (Nat.le_of_ble_eq_true rfl) dX6_changedLine_39 ?_
    obtain ⟨_, ek4, h⟩ := wp_g h
    have h := wp_v h
    exact r_zret hc h (zz_of ek4) dX6_changedLine_42
  have h := wp_f c0 h
  by_cases c1 : x1 = 1
  · have h := wp_t c1 h
    refine r_tabIn hc (off := 42) (tgt := 43) dX6_changedLine_1 c1 (by decide) (by decide) (by decide) (by decide) ?_
    refine r_aload_n hc 0 rfl rfl dX6_changedLine_43 ?_
    refine r_iload_n hc 2 rfl rfl dX6_changedLine_44 ?_
    refine r_iload_n hc 3 rfl rfl dX6_changedLine_45 ?_
    obtain ⟨_, ek7, h⟩ := wp_g h
    obtain ⟨r5, σ6, er5, h⟩ := wp_b h
    refine r_callV hc (k0 := x0) mv_X1_joins ml_X6_116 (c_X1_joins er5) (chk_of ek7) cls_1.1 rfl rfl rfl (by decide) rfl (Nat.le_of_ble_eq_true rfl) dX6_changedLine_46 ?_
    refine r_if_ne hc (tgt := 61) dX6_changedLine_49 (by decide) (fun c => ?_) (fun c => ?_)
    · have h := wp_f c h
      refine r_sub [] (lv' := []) rfl ?_
      exact t_X6_changedLine_b61 hc h
    · have h := wp_t c h
      refine r_aload_n hc 0 rfl rfl dX6_changedLine_52 ?_
      refine r_iload_n hc 3 rfl rfl dX6_changedLine_53 ?_
      refine r_iload_n hc 2 rfl rfl dX6_changedLine_54 ?_
      obtain ⟨_, ek10, h⟩ := wp_g h
      obtain ⟨r8, σ9, er8, h⟩ := wp_b h
      refine r_callV hc (k0 := x0) mv_X1_joins ml_X6_116 (c_X1_joins er8) (chk_of ek10) cls_1.1 rfl rfl rfl (by decide) rfl (Nat.le_of_ble_eq_true rfl) dX6_changedLine_55 ?_
      refine r_if_eq hc (tgt := 65) dX6_changedLine_58 (by decide) (fun c => ?_) (fun c => ?_)
      · have h := wp_t c h
        refine r_iconst hc (v := 0) (by decide) dX6_changedLine_65 ?_
        refine r_sub [] (lv' := []) rfl ?_
        exact t_X6_changedLine_b66 hc h
      · have h := wp_f c h
        refine r_sub [] (lv' := []) rfl ?_
        exact t_X6_changedLine_b61 hc h
  have h := wp_f c1 h
  by_cases c2 : x1 = 2
  · have h := wp_t c2 h
    refine r_tabIn hc (off := 66) (tgt := 67) dX6_changedLine_1 c2 (by decide) (by decide) (by decide) (by decide) ?_
    refine r_aload_n hc 0 rfl rfl dX6_changedLine_67 ?_
    refine r_iload_n hc 2 rfl rfl dX6_changedLine_68 ?_
    refine r_iload_n hc 3 rfl rfl dX6_changedLine_69 ?_
    obtain ⟨_, ek13, h⟩ := wp_g h
    obtain ⟨r11, σ12, er11, h⟩ := wp_b h
    refine r_callV hc (k0 := x0) mv_X1_joins ml_X6_116 (c_X1_joins er11) (chk_of ek13) cls_1.1 rfl rfl rfl (by decide) rfl (Nat.le_of_ble_eq_true rfl) dX6_changedLine_70 ?_
    refine r_iload_n hc 2 rfl rfl dX6_changedLine_73 ?_
    refine r_iload_n hc 3 rfl rfl dX6_changedLine_74 ?_
    refine r_icmp_ne hc (tgt := 82) dX6_changedLine_75 (by decide) (fun c => ?_) (fun c => ?_)
    · have h := wp_f c h
      refine r_iconst hc (v := 0) (by decide) dX6_changedLine_82 ?_
      refine r_sub [] (lv' := []) rfl ?_
      exact t_X6_changedLine_b83 hc h
    · have h := wp_t c h
      refine r_iconst hc (v := 1) (by decide) dX6_changedLine_78 ?_
      refine r_goto hc (tgt := 83) dX6_changedLine_79 (by decide) ?_
      refine r_sub [] (lv' := []) rfl ?_
      exact t_X6_changedLine_b83 hc h
  have h := wp_f c2 h
  by_cases c3 : x1 = 3
  · have h := wp_t c3 h
    refine r_tabIn hc (off := 91) (tgt := 92) dX6_changedLine_1 c3 (by decide) (by decide) (by decide) (by decide) ?_
    refine r_aload_n hc 0 rfl rfl dX6_changedLine_92 ?_
    refine r_iload_n hc 2 rfl rfl dX6_changedLine_93 ?_
    refine r_iload_n hc 3 rfl rfl dX6_changedLine_94 ?_
    obtain ⟨_, ek16, h⟩ := wp_g h
    obtain ⟨r14, σ15, er14, h⟩ := wp_b h
    refine r_callV hc (k0 := x0) mv_X1_joins ml_X6_116 (c_X1_joins er14) (chk_of ek16) cls_1.1 rfl rfl rfl (by decide) rfl (Nat.le_of_ble_eq_true rfl) dX6_changedLine_95 ?_
    refine r_if_ne hc (tgt := 106) dX6_changedLine_98 (by decide) (fun c => ?_) (fun c => ?_)
    · have h := wp_f c h
      refine r_sub [] (lv' := []) rfl ?_
      exact t_X6_changedLine_b106 hc h
    · have h := wp_t c h
      refine r_iload_n hc 2 rfl rfl dX6_changedLine_101 ?_
      refine r_iload_n hc 3 rfl rfl dX6_changedLine_102 ?_
      refine r_icmp_ne hc (tgt := 110) dX6_changedLine_103 (by decide) (fun c => ?_) (fun c => ?_)
      · have h := wp_f c h
        refine r_iconst hc (v := 0) (by decide) dX6_changedLine_110 ?_
        refine r_sub [] (lv' := []) rfl ?_
        exact t_X6_changedLine_b111 hc h
      · have h := wp_t c h
        refine r_sub [] (lv' := []) rfl ?_
        exact t_X6_changedLine_b106 hc h
  have h := wp_f c3 h
  by_cases c4 : x1 = 4
  · have h := wp_t c4 h
    refine r_tabIn hc (off := 111) (tgt := 112) dX6_changedLine_1 c4 (by decide) (by decide) (by decide) (by decide) ?_
    refine r_aload_n hc 0 rfl rfl dX6_changedLine_112 ?_
    refine r_iload_n hc 2 rfl rfl dX6_changedLine_113 ?_
    refine r_iload_n hc 3 rfl rfl dX6_changedLine_114 ?_
    obtain ⟨_, ek19, h⟩ := wp_g h
    obtain ⟨r17, σ18, er17, h⟩ := wp_b h
    refine r_callV hc (k0 := x0) mv_X1_joins ml_X6_116 (c_X1_joins er17) (chk_of ek19) cls_1.1 rfl rfl rfl (by decide) rfl (Nat.le_of_ble_eq_true rfl) dX6_changedLine_115 ?_
    refine r_if_eq hc (tgt := 130) dX6_changedLine_118 (by decide) (fun c => ?_) (fun c => ?_)
    · have h := wp_t c h
      refine r_sub [] (lv' := []) rfl ?_
      exact t_X6_changedLine_b130 hc h
    · have h := wp_f c h
      refine r_iload_n hc 2 rfl rfl dX6_changedLine_121 ?_
      refine r_iload_n hc 3 rfl rfl dX6_changedLine_122 ?_
      refine r_icmp_eq hc (tgt := 130) dX6_changedLine_123 (by decide) (fun c => ?_) (fun c => ?_)
      · have h := wp_t c h
        refine r_sub [] (lv' := []) rfl ?_
        exact t_X6_changedLine_b130 hc h
      · have h := wp_f c h
        refine r_iconst hc (v := 1) (by decide) dX6_changedLine_126 ?_
        refine r_goto hc (tgt := 131) dX6_changedLine_127 (by decide) ?_
        refine r_sub [] (lv' := []) rfl ?_
        exact t_X6_changedLine_b131 hc h
  have h := wp_f c4 h
  refine r_tabOut hc (tgt := 132) dX6_changedLine_1 (sw_out 0 5 (fun i hi => by rcases (show i = 0 ∨ i = 1 ∨ i = 2 ∨ i = 3 ∨ i = 4 by omega) with rfl | rfl | rfl | rfl | rfl <;> assumption)) (by decide) ?_
  refine r_aload_n hc 0 rfl rfl dX6_changedLine_132 ?_
  refine r_iload_n hc 2 rfl rfl dX6_changedLine_133 ?_
  obtain ⟨_, ek22, h⟩ := wp_g h
  obtain ⟨r20, σ21, er20, h⟩ := wp_b h
  refine r_callV hc (k0 := x0) mv_X1_ahead ml_X6_159 (c_X1_ahead er20) (chk_of ek22) cls_1.1 rfl rfl rfl (by decide) rfl (Nat.le_of_ble_eq_true rfl) dX6_changedLine_134 ?_
  refine r_iload_n hc 3 rfl rfl dX6_changedLine_137 ?_
  obtain ⟨r23, σ24, er23, h⟩ := wp_b h
  refine r_callS hc ms_X6_has ml_X6_203 (c_X6_has er23) rfl rfl (by decide) rfl (Nat.le_of_ble_eq_true rfl) dX6_changedLine_138 ?_
  obtain ⟨_, ek25, h⟩ := wp_g h
  have h := wp_v h
  exact r_zret hc h (zz_of ek25) dX6_changedLine_141
theorem c_X6_changedLine {l : Launch} {x0 : Nat} {x1 : Int32} {x2 : Int32} {x3 : Int32} {σ σ' : Hp} {r : Int32} (h : f_X6_changedLine x0 x1 x2 x3 σ = some (r, σ')) : Mt l yX6_changedLine cX6_changedLine 4 (some .boolean) 4 shC (fun ad => [.ref (ad x0), .int x1, .int x2, .int x3]) σ (fun ad => some (.int r)) σ' := mt_i (own := RX6) (by decide) rfl (fun _ => Nat.le_of_ble_eq_true rfl) (fun γ ad K hc hk => t_X6_changedLine hc ⟨_, _, h, hk⟩)

-- NetMaps.below(II)I
theorem dX6_below_0 : decode cX6_below 0 = .ok (.iload_n 0, 1) := by decide +kernel
theorem dX6_below_1 : decode cX6_below 1 = .ok (.iconst 1, 1) := by decide +kernel
theorem dX6_below_2 : decode cX6_below 2 = .ok (.iload_n 1, 1) := by decide +kernel
theorem dX6_below_3 : decode cX6_below 3 = .ok (.ishl, 1) := by decide +kernel
theorem dX6_below_4 : decode cX6_below 4 = .ok (.iconst 1, 1) := by decide +kernel
theorem dX6_below_5 : decode cX6_below 5 = .ok (.isub, 1) := by decide +kernel
theorem dX6_below_6 : decode cX6_below 6 = .ok (.iand, 1) := by decide +kernel
theorem dX6_below_7 : decode cX6_below 7 = .ok (.invokestatic 132, 3) := by decide +kernel
theorem dX6_below_10 : decode cX6_below 10 = .ok (.ireturn, 1) := by decide +kernel
noncomputable def f_X6_below (x0 : Int32) (x1 : Int32) (σ : Hp) : Option (Int32 × Hp) := bO (f_J6_bitCount_0f7a4 shC (x0 &&& (((1 : Int32) <<< (x1 &&& 31)) - 1)) σ) fun r1 σ2 => some (r1, σ2)
set_option maxRecDepth 100000 in
set_option maxHeartbeats 4000000 in
theorem t_X6_below {l : Launch} {γ : Gm} {ad : Nat → Nat} {K : Option Value → Hp → Prop} (hc : Cx l γ 2 2 ad shC RX6 cX6_below (some .int) K) {x0 : Int32} {x1 : Int32} {σ : Hp} (h : wpO (f_X6_below x0 x1 σ) (KI K)) : WW l γ 2 2 ad shC 0 [(0, .int x0), (1, .int x1)] [] σ := by
  unfold f_X6_below at h
  refine r_iload_n hc 0 rfl rfl dX6_below_0 ?_
  refine r_iconst hc (v := 1) (by decide) dX6_below_1 ?_
  refine r_iload_n hc 1 rfl rfl dX6_below_2 ?_
  refine r_ishl hc dX6_below_3 ?_
  refine r_iconst hc (v := 1) (by decide) dX6_below_4 ?_
  refine r_isub hc dX6_below_5 ?_
  refine r_iand hc dX6_below_6 ?_
  obtain ⟨r1, σ2, er1, h⟩ := wp_b h
  refine r_callS hc ms_J6_bitCount_0f7a4 ml_X6_132 (c_J6_bitCount_0f7a4 er1) rfl rfl (by decide) rfl (Nat.le_of_ble_eq_true rfl) dX6_below_7 ?_
  have h := wp_v h
  exact r_iret hc h dX6_below_10
theorem c_X6_below {l : Launch} {x0 : Int32} {x1 : Int32} {σ σ' : Hp} {r : Int32} (h : f_X6_below x0 x1 σ = some (r, σ')) : Mt l yX6_below cX6_below 2 (some .int) 2 shC (fun ad => [.int x0, .int x1]) σ (fun ad => some (.int r)) σ' := mt_i (own := RX6) (by decide) rfl (fun _ => Nat.le_of_ble_eq_true rfl) (fun γ ad K hc hk => t_X6_below hc ⟨_, _, h, hk⟩)

-- NetMaps$Net.all()I
theorem dX1_all_0 : decode cX1_all 0 = .ok (.iconst 1, 1) := by decide +kernel
theorem dX1_all_1 : decode cX1_all 1 = .ok (.aload_n 0, 1) := by decide +kernel
theorem dX1_all_2 : decode cX1_all 2 = .ok (.getfield 18, 3) := by decide +kernel
theorem dX1_all_5 : decode cX1_all 5 = .ok (.ishl, 1) := by decide +kernel
theorem dX1_all_6 : decode cX1_all 6 = .ok (.iconst 1, 1) := by decide +kernel
theorem dX1_all_7 : decode cX1_all 7 = .ok (.isub, 1) := by decide +kernel
theorem dX1_all_8 : decode cX1_all 8 = .ok (.ireturn, 1) := by decide +kernel
noncomputable def f_X1_all (x0 : Nat) (σ : Hp) : Option (Int32 × Hp) := gO (getI shC 1 x0 0 σ) fun v1 => some ((((1 : Int32) <<< (v1 &&& 31)) - 1), σ)
set_option maxRecDepth 100000 in
set_option maxHeartbeats 4000000 in
theorem t_X1_all {l : Launch} {γ : Gm} {ad : Nat → Nat} {K : Option Value → Hp → Prop} (hc : Cx l γ 1 1 ad shC RX1 cX1_all (some .int) K) {x0 : Nat} {σ : Hp} (h : wpO (f_X1_all x0 σ) (KI K)) : WW l γ 1 1 ad shC 0 [(0, .ref (ad x0))] [] σ := by
  unfold f_X1_all at h
  refine r_iconst hc (v := 1) (by decide) dX1_all_0 ?_
  refine r_aload_n hc 0 rfl rfl dX1_all_1 ?_
  obtain ⟨v1, ev1, h⟩ := wp_g h
  refine r_getI hc ev1 fl_X1_18 rfl dX1_all_2 ?_
  refine r_ishl hc dX1_all_5 ?_
  refine r_iconst hc (v := 1) (by decide) dX1_all_6 ?_
  refine r_isub hc dX1_all_7 ?_
  have h := wp_v h
  exact r_iret hc h dX1_all_8
theorem c_X1_all {l : Launch} {x0 : Nat} {σ σ' : Hp} {r : Int32} (h : f_X1_all x0 σ = some (r, σ')) : Mt l yX1_all cX1_all 1 (some .int) 1 shC (fun ad => [.ref (ad x0)]) σ (fun ad => some (.int r)) σ' := mt_i (own := RX1) (by decide) rfl (fun _ => Nat.le_of_ble_eq_true rfl) (fun γ ad K hc hk => t_X1_all hc ⟨_, _, h, hk⟩)

-- NetMaps.cut(LNetMaps$Net;I)V
theorem dX6_cut_0 : decode cX6_cut 0 = .ok (.aload_n 0, 1) := by decide +kernel
theorem dX6_cut_1 : decode cX6_cut 1 = .ok (.getfield 34, 3) := by decide +kernel
theorem dX6_cut_4 : decode cX6_cut 4 = .ok (.iload_n 2, 1) := by decide +kernel
theorem dX6_cut_5 : decode cX6_cut 5 = .ok (.aload_n 1, 1) := by decide +kernel
theorem dX6_cut_6 : decode cX6_cut 6 = .ok (.invokevirtual 206, 3) := by decide +kernel
theorem dX6_cut_9 : decode cX6_cut 9 = .ok (.iand, 1) := by decide +kernel
theorem dX6_cut_10 : decode cX6_cut 10 = .ok (.invokestatic 132, 3) := by decide +kernel
theorem dX6_cut_13 : decode cX6_cut 13 = .ok (.invokevirtual 106, 3) := by decide +kernel
theorem dX6_cut_16 : decode cX6_cut 16 = .ok (.iconst 0, 1) := by decide +kernel
theorem dX6_cut_17 : decode cX6_cut 17 = .ok (.istore_n 3, 1) := by decide +kernel
theorem dX6_cut_18 : decode cX6_cut 18 = .ok (.iload_n 3, 1) := by decide +kernel
theorem dX6_cut_19 : decode cX6_cut 19 = .ok (.aload_n 1, 1) := by decide +kernel
theorem dX6_cut_20 : decode cX6_cut 20 = .ok (.getfield 126, 3) := by decide +kernel
theorem dX6_cut_23 : decode cX6_cut 23 = .ok (.if_icmp .ge 72, 3) := by decide +kernel
theorem dX6_cut_26 : decode cX6_cut 26 = .ok (.iconst 0, 1) := by decide +kernel
theorem dX6_cut_27 : decode cX6_cut 27 = .ok (.istore 4, 2) := by decide +kernel
theorem dX6_cut_29 : decode cX6_cut 29 = .ok (.iload 4, 2) := by decide +kernel
theorem dX6_cut_31 : decode cX6_cut 31 = .ok (.aload_n 1, 1) := by decide +kernel
theorem dX6_cut_32 : decode cX6_cut 32 = .ok (.getfield 126, 3) := by decide +kernel
theorem dX6_cut_35 : decode cX6_cut 35 = .ok (.if_icmp .ge 54, 3) := by decide +kernel
theorem dX6_cut_38 : decode cX6_cut 38 = .ok (.iload_n 2, 1) := by decide +kernel
theorem dX6_cut_39 : decode cX6_cut 39 = .ok (.iload_n 3, 1) := by decide +kernel
theorem dX6_cut_40 : decode cX6_cut 40 = .ok (.invokestatic 203, 3) := by decide +kernel
theorem dX6_cut_43 : decode cX6_cut 43 = .ok (.ifCond .eq 40, 3) := by decide +kernel
theorem dX6_cut_46 : decode cX6_cut 46 = .ok (.iload_n 2, 1) := by decide +kernel
theorem dX6_cut_47 : decode cX6_cut 47 = .ok (.iload 4, 2) := by decide +kernel
theorem dX6_cut_49 : decode cX6_cut 49 = .ok (.invokestatic 203, 3) := by decide +kernel
theorem dX6_cut_52 : decode cX6_cut 52 = .ok (.ifCond .eq 31, 3) := by decide +kernel
theorem dX6_cut_55 : decode cX6_cut 55 = .ok (.aload_n 1, 1) := by decide +kernel
theorem dX6_cut_56 : decode cX6_cut 56 = .ok (.iload_n 3, 1) := by decide +kernel
theorem dX6_cut_57 : decode cX6_cut 57 = .ok (.iload 4, 2) := by decide +kernel
theorem dX6_cut_59 : decode cX6_cut 59 = .ok (.invokevirtual 116, 3) := by decide +kernel
theorem dX6_cut_62 : decode cX6_cut 62 = .ok (.ifCond .eq 21, 3) := by decide +kernel
theorem dX6_cut_65 : decode cX6_cut 65 = .ok (.aload_n 0, 1) := by decide +kernel
theorem dX6_cut_66 : decode cX6_cut 66 = .ok (.getfield 34, 3) := by decide +kernel
theorem dX6_cut_69 : decode cX6_cut 69 = .ok (.iload_n 2, 1) := by decide +kernel
theorem dX6_cut_70 : decode cX6_cut 70 = .ok (.iload_n 3, 1) := by decide +kernel
theorem dX6_cut_71 : decode cX6_cut 71 = .ok (.invokestatic 209, 3) := by decide +kernel
theorem dX6_cut_74 : decode cX6_cut 74 = .ok (.iload_n 2, 1) := by decide +kernel
theorem dX6_cut_75 : decode cX6_cut 75 = .ok (.iload 4, 2) := by decide +kernel
theorem dX6_cut_77 : decode cX6_cut 77 = .ok (.invokestatic 209, 3) := by decide +kernel
theorem dX6_cut_80 : decode cX6_cut 80 = .ok (.invokevirtual 119, 3) := by decide +kernel
theorem dX6_cut_83 : decode cX6_cut 83 = .ok (.iinc 4 1, 3) := by decide +kernel
theorem dX6_cut_86 : decode cX6_cut 86 = .ok (.goto (-57), 3) := by decide +kernel
theorem dX6_cut_89 : decode cX6_cut 89 = .ok (.iinc 3 1, 3) := by decide +kernel
theorem dX6_cut_92 : decode cX6_cut 92 = .ok (.goto (-74), 3) := by decide +kernel
theorem dX6_cut_95 : decode cX6_cut 95 = .ok (.return_, 1) := by decide +kernel
noncomputable def f_X6_cut_b83 (x0 : Nat) (x1 : Nat) (x2 : Int32) (x3 : Int32) (x4 : Int32) (σ : Hp) : Option (((Int32) ⊕ (Unit)) × Hp) := some (Sum.inl (x4 + 1), σ)
set_option maxRecDepth 100000 in
set_option maxHeartbeats 4000000 in
theorem t_X6_cut_b83 {l : Launch} {γ : Gm} {ad : Nat → Nat} {K : Option Value → Hp → Prop} (hc : Cx l γ 3 5 ad shC RX6 cX6_cut none K) {x0 : Nat} {x1 : Nat} {x2 : Int32} {x3 : Int32} {x4 : Int32}  {σ : Hp} {KL : ((Int32) ⊕ (Unit)) → Hp → Prop} (h : wpO (f_X6_cut_b83 x0 x1 x2 x3 x4 σ) KL) (kn : ∀ (v : (Int32)) (σ : Hp), KL (Sum.inl v) σ → WW l γ 3 5 ad shC 29 [(0, .ref (ad x0)), (1, .ref (ad x1)), (2, .int x2), (3, .int x3), (4, .int v)] [] σ) (kx89 : ∀ (v : Unit) (σ : Hp), KL (Sum.inr v) σ → WW l γ 3 5 ad shC 89 [(0, .ref (ad x0)), (1, .ref (ad x1)), (2, .int x2), (3, .int x3)] [] σ) : WW l γ 3 5 ad shC 83 [(0, .ref (ad x0)), (1, .ref (ad x1)), (2, .int x2), (3, .int x3), (4, .int x4)] [] σ := by
  unfold f_X6_cut_b83 at h
  refine r_iincE hc (j := 4) (w := 1) (lv' := [(4, .int (x4 + 1)), (0, .ref (ad x0)), (1, .ref (ad x1)), (2, .int x2), (3, .int x3)]) rfl (by decide) rfl (by decide) rfl dX6_cut_83 ?_
  refine r_goto hc (tgt := 29) dX6_cut_86 (by decide) ?_
  refine r_sub [1, 2, 3, 4, 0] (lv' := [(0, .ref (ad x0)), (1, .ref (ad x1)), (2, .int x2), (3, .int x3), (4, .int (x4 + 1))]) rfl ?_
  have h := wp_v h
  exact kn (x4 + 1) _ h
noncomputable def f_X6_cut_L29 (x0 : Nat) (x1 : Nat) (x2 : Int32) (x3 : Int32) (v : (Int32)) (σ : Hp) : Option (((Int32) ⊕ (Unit)) × Hp) := gO (getI shC 1 x1 0 σ) fun v1 => if v1 ≤ v then (some (Sum.inr (), σ)) else (bO (f_X6_has x2 x3 σ) fun r2 σ3 => if r2 = 0 then (f_X6_cut_b83 x0 x1 x2 x3 v σ3) else (bO (f_X6_has x2 v σ3) fun r4 σ5 => if r4 = 0 then (f_X6_cut_b83 x0 x1 x2 x3 v σ5) else (gO (chk shC x1 1) fun _ => bO (f_X1_joins x1 x3 v σ5) fun r6 σ7 => if r6 = 0 then (f_X6_cut_b83 x0 x1 x2 x3 v σ7) else (gO (getR shC 6 x0 6 σ7) fun v9 => bO (f_X6_below x2 x3 σ7) fun r10 σ11 => bO (f_X6_below x2 v σ11) fun r12 σ13 => gO (chk shC v9 1) fun _ => bO (f_X1_join v9 r10 r12 σ13) fun _ σ15 => f_X6_cut_b83 x0 x1 x2 x3 v σ15))))
set_option maxRecDepth 100000 in
set_option maxHeartbeats 4000000 in
theorem t_X6_cut_L29 {l : Launch} {γ : Gm} {ad : Nat → Nat} {K : Option Value → Hp → Prop}  (hc : Cx l γ 3 5 ad shC RX6 cX6_cut none K) {x0 : Nat} {x1 : Nat} {x2 : Int32} {x3 : Int32} {v : (Int32)} {σ : Hp} {KX : (Unit) → Hp → Prop} (h : wpO (wh (f_X6_cut_L29 x0 x1 x2 x3) v σ) KX) (kx89 : ∀ (v : Unit) (σ : Hp), KX v σ → WW l γ 3 5 ad shC 89 [(0, .ref (ad x0)), (1, .ref (ad x1)), (2, .int x2), (3, .int x3)] [] σ) : WW l γ 3 5 ad shC 29 [(0, .ref (ad x0)), (1, .ref (ad x1)), (2, .int x2), (3, .int x3), (4, .int v)] [] σ := by
  refine wh_W (P := fun v σ => WW l γ 3 5 ad shC 29 [(0, .ref (ad x0)), (1, .ref (ad x1)), (2, .int x2), (3, .int x3), (4, .int v)] [] σ) (fun v σ h => ?_) h
  have kn : ∀ (v : (Int32)) (σ : Hp), WW l γ 3 5 ad shC 29 [(0, .ref (ad x0)), (1, .ref (ad x1)), (2, .int x2), (3, .int x3), (4, .int v)] [] σ → WW l γ 3 5 ad shC 29 [(0, .ref (ad x0)), (1, .ref (ad x1)), (2, .int x2), (3, .int x3), (4, .int v)] [] σ := fun _ _ h => h
  · unfold f_X6_cut_L29 at h
    refine r_iload hc 4 rfl dX6_cut_29 ?_
    refine r_aload_n hc 1 rfl rfl dX6_cut_31 ?_
    obtain ⟨v1, ev1, h⟩ := wp_g h
    refine r_getI hc ev1 fl_X6_126 rfl dX6_cut_32 ?_
    refine r_icmp_ge hc (tgt := 89) dX6_cut_35 (by decide) (fun c => ?_) (fun c => ?_)
    · have h := wp_t c h
      refine r_sub [0, 1, 2, 3] (lv' := [(0, .ref (ad x0)), (1, .ref (ad x1)), (2, .int x2), (3, .int x3)]) rfl ?_
      have h := wp_v h
      exact kx89 () _ h
    · have h := wp_f c h
      refine r_iload_n hc 2 rfl rfl dX6_cut_38 ?_
      refine r_iload_n hc 3 rfl rfl dX6_cut_39 ?_
      obtain ⟨r2, σ3, er2, h⟩ := wp_b h
      refine r_callS hc ms_X6_has ml_X6_203 (c_X6_has er2) rfl rfl (by decide) rfl (Nat.le_of_ble_eq_true rfl) dX6_cut_40 ?_
      refine r_if_eq hc (tgt := 83) dX6_cut_43 (by decide) (fun c => ?_) (fun c => ?_)
      · have h := wp_t c h
        exact t_X6_cut_b83 hc h kn kx89
      · have h := wp_f c h
        refine r_iload_n hc 2 rfl rfl dX6_cut_46 ?_
        refine r_iload hc 4 rfl dX6_cut_47 ?_
        obtain ⟨r4, σ5, er4, h⟩ := wp_b h
        refine r_callS hc ms_X6_has ml_X6_203 (c_X6_has er4) rfl rfl (by decide) rfl (Nat.le_of_ble_eq_true rfl) dX6_cut_49 ?_
        refine r_if_eq hc (tgt := 83) dX6_cut_52 (by decide) (fun c => ?_) (fun c => ?_)
        · have h := wp_t c h
          exact t_X6_cut_b83 hc h kn kx89
        · have h := wp_f c h
          refine r_aload_n hc 1 rfl rfl dX6_cut_55 ?_
          refine r_iload_n hc 3 rfl rfl dX6_cut_56 ?_
          refine r_iload hc 4 rfl dX6_cut_57 ?_
          obtain ⟨_, ek8, h⟩ := wp_g h
          obtain ⟨r6, σ7, er6, h⟩ := wp_b h
          refine r_callV hc (k0 := x1) mv_X1_joins ml_X6_116 (c_X1_joins er6) (chk_of ek8) cls_1.1 rfl rfl rfl (by decide) rfl (Nat.le_of_ble_eq_true rfl) dX6_cut_59 ?_
          refine r_if_eq hc (tgt := 83) dX6_cut_62 (by decide) (fun c => ?_) (fun c => ?_)
          · have h := wp_t c h
            exact t_X6_cut_b83 hc h kn kx89
          · have h := wp_f c h
            refine r_aload_n hc 0 rfl rfl dX6_cut_65 ?_
            obtain ⟨v9, ev9, h⟩ := wp_g h
            refine r_getR hc ev9 fl_X6_34 rfl dX6_cut_66 ?_
            refine r_iload_n hc 2 rfl rfl dX6_cut_69 ?_
            refine r_iload_n hc 3 rfl rfl dX6_cut_70 ?_
            obtain ⟨r10, σ11, er10, h⟩ := wp_b h
            refine r_callS hc ms_X6_below ml_X6_209 (c_X6_below er10) rfl rfl (by decide) rfl (Nat.le_of_ble_eq_true rfl) dX6_cut_71 ?_
            refine r_iload_n hc 2 rfl rfl dX6_cut_74 ?_
            refine r_iload hc 4 rfl dX6_cut_75 ?_
            obtain ⟨r12, σ13, er12, h⟩ := wp_b h
            refine r_callS hc ms_X6_below ml_X6_209 (c_X6_below er12) rfl rfl (by decide) rfl (Nat.le_of_ble_eq_true rfl) dX6_cut_77 ?_
            obtain ⟨_, ek16, h⟩ := wp_g h
            obtain ⟨_, σ15, er14, h⟩ := wp_b h
            refine r_callV hc (k0 := v9) mv_X1_join ml_X6_119 (c_X1_join er14) (chk_of ek16) cls_1.1 rfl rfl rfl (by decide) rfl (Nat.le_of_ble_eq_true rfl) dX6_cut_80 ?_
            exact t_X6_cut_b83 hc h kn kx89
noncomputable def f_X6_cut_L18 (x0 : Nat) (x1 : Nat) (x2 : Int32) (v : (Int32)) (σ : Hp) : Option (((Int32) ⊕ (Unit)) × Hp) := gO (getI shC 1 x1 0 σ) fun v1 => if v1 ≤ v then (some (Sum.inr (), σ)) else (bO (wh (f_X6_cut_L29 x0 x1 x2 v) 0 σ) fun y2 σ3 => (some (Sum.inl (v + 1), σ3)))
set_option maxRecDepth 100000 in
set_option maxHeartbeats 4000000 in
theorem t_X6_cut_L18 {l : Launch} {γ : Gm} {ad : Nat → Nat} {K : Option Value → Hp → Prop}  (hc : Cx l γ 3 5 ad shC RX6 cX6_cut none K) {x0 : Nat} {x1 : Nat} {x2 : Int32} {v : (Int32)} {σ : Hp} {KX : (Unit) → Hp → Prop} (h : wpO (wh (f_X6_cut_L18 x0 x1 x2) v σ) KX) (kx95 : ∀ (v : Unit) (σ : Hp), KX v σ → WW l γ 3 5 ad shC 95 [] [] σ) : WW l γ 3 5 ad shC 18 [(0, .ref (ad x0)), (1, .ref (ad x1)), (2, .int x2), (3, .int v)] [] σ := by
  refine wh_W (P := fun v σ => WW l γ 3 5 ad shC 18 [(0, .ref (ad x0)), (1, .ref (ad x1)), (2, .int x2), (3, .int v)] [] σ) (fun v σ h => ?_) h
  have kn : ∀ (v : (Int32)) (σ : Hp), WW l γ 3 5 ad shC 18 [(0, .ref (ad x0)), (1, .ref (ad x1)), (2, .int x2), (3, .int v)] [] σ → WW l γ 3 5 ad shC 18 [(0, .ref (ad x0)), (1, .ref (ad x1)), (2, .int x2), (3, .int v)] [] σ := fun _ _ h => h
  · unfold f_X6_cut_L18 at h
    refine r_iload_n hc 3 rfl rfl dX6_cut_18 ?_
    refine r_aload_n hc 1 rfl rfl dX6_cut_19 ?_
    obtain ⟨v1, ev1, h⟩ := wp_g h
    refine r_getI hc ev1 fl_X6_126 rfl dX6_cut_20 ?_
    refine r_icmp_ge hc (tgt := 95) dX6_cut_23 (by decide) (fun c => ?_) (fun c => ?_)
    · have h := wp_t c h
      refine r_sub [] (lv' := []) rfl ?_
      have h := wp_v h
      exact kx95 () _ h
    · have h := wp_f c h
      refine r_iconst hc (v := 0) (by decide) dX6_cut_26 ?_
      refine r_istoreE hc (i := 4) (lv' := [(4, .int 0), (0, .ref (ad x0)), (1, .ref (ad x1)), (2, .int x2), (3, .int v)]) rfl (by decide) rfl dX6_cut_27 ?_
      refine r_sub [1, 2, 3, 4, 0] (lv' := [(0, .ref (ad x0)), (1, .ref (ad x1)), (2, .int x2), (3, .int v), (4, .int 0)]) rfl ?_
      refine t_X6_cut_L29 hc (wp_bb h) ?_
      · intro y2 σ3 h
        refine r_iincE hc (j := 3) (w := 1) (lv' := [(3, .int (v + 1)), (0, .ref (ad x0)), (1, .ref (ad x1)), (2, .int x2)]) rfl (by decide) rfl (by decide) rfl dX6_cut_89 ?_
        refine r_goto hc (tgt := 18) dX6_cut_92 (by decide) ?_
        refine r_sub [1, 2, 3, 0] (lv' := [(0, .ref (ad x0)), (1, .ref (ad x1)), (2, .int x2), (3, .int (v + 1))]) rfl ?_
        have h := wp_v h
        exact kn (v + 1) _ h
noncomputable def f_X6_cut (x0 : Nat) (x1 : Nat) (x2 : Int32) (σ : Hp) : Option (Unit × Hp) := gO (getR shC 6 x0 6 σ) fun v1 => gO (chk shC x1 1) fun _ => bO (f_X1_all x1 σ) fun r2 σ3 => bO (f_J6_bitCount_0f7a4 shC (x2 &&& r2) σ3) fun r5 σ6 => gO (chk shC v1 1) fun _ => bO (f_X1_begin v1 r5 σ6) fun _ σ8 => bO (wh (f_X6_cut_L18 x0 x1 x2) 0 σ8) fun y10 σ11 => (some ((), σ11))
set_option maxRecDepth 100000 in
set_option maxHeartbeats 4000000 in
theorem t_X6_cut {l : Launch} {γ : Gm} {ad : Nat → Nat} {K : Option Value → Hp → Prop} (hc : Cx l γ 3 5 ad shC RX6 cX6_cut none K) {x0 : Nat} {x1 : Nat} {x2 : Int32} {σ : Hp} (h : wpO (f_X6_cut x0 x1 x2 σ) (KU K)) : WW l γ 3 5 ad shC 0 [(0, .ref (ad x0)), (1, .ref (ad x1)), (2, .int x2)] [] σ := by
  unfold f_X6_cut at h
  refine r_aload_n hc 0 rfl rfl dX6_cut_0 ?_
  obtain ⟨v1, ev1, h⟩ := wp_g h
  refine r_getR hc ev1 fl_X6_34 rfl dX6_cut_1 ?_
  refine r_iload_n hc 2 rfl rfl dX6_cut_4 ?_
  refine r_aload_n hc 1 rfl rfl dX6_cut_5 ?_
  obtain ⟨_, ek4, h⟩ := wp_g h
  obtain ⟨r2, σ3, er2, h⟩ := wp_b h
  refine r_callV hc (k0 := x1) mv_X1_all ml_X6_206 (c_X1_all er2) (chk_of ek4) cls_1.1 rfl rfl rfl (by decide) rfl (Nat.le_of_ble_eq_true rfl) dX6_cut_6 ?_
  refine r_iand hc dX6_cut_9 ?_
  obtain ⟨r5, σ6, er5, h⟩ := wp_b h
  refine r_callS hc ms_J6_bitCount_0f7a4 ml_X6_132 (c_J6_bitCount_0f7a4 er5) rfl rfl (by decide) rfl (Nat.le_of_ble_eq_true rfl) dX6_cut_10 ?_
  obtain ⟨_, ek9, h⟩ := wp_g h
  obtain ⟨_, σ8, er7, h⟩ := wp_b h
  refine r_callV hc (k0 := v1) mv_X1_begin ml_X6_106 (c_X1_begin er7) (chk_of ek9) cls_1.1 rfl rfl rfl (by decide) rfl (Nat.le_of_ble_eq_true rfl) dX6_cut_13 ?_
  refine r_iconst hc (v := 0) (by decide) dX6_cut_16 ?_
  refine r_istore_nE hc (i := 3) (lv' := [(3, .int 0), (0, .ref (ad x0)), (1, .ref (ad x1)), (2, .int x2)]) rfl rfl (by decide) rfl dX6_cut_17 ?_
  refine r_sub [1, 2, 3, 0] (lv' := [(0, .ref (ad x0)), (1, .ref (ad x1)), (2, .int x2), (3, .int 0)]) rfl ?_
  refine t_X6_cut_L18 hc (wp_bb h) ?_
  · intro y10 σ11 h
    have h := wp_v h
    exact r_vret hc h dX6_cut_95
theorem c_X6_cut {l : Launch} {x0 : Nat} {x1 : Nat} {x2 : Int32} {σ σ' : Hp} {r : Unit} (h : f_X6_cut x0 x1 x2 σ = some (r, σ')) : Mt l yX6_cut cX6_cut 5 none 3 shC (fun ad => [.ref (ad x0), .ref (ad x1), .int x2]) σ (fun ad => none) σ' := mt_i (own := RX6) (by decide) rfl (fun _ => Nat.le_of_ble_eq_true rfl) (fun γ ad K hc hk => t_X6_cut hc ⟨_, _, h, hk⟩)

-- NetMaps$Search.choices(II)I
theorem dX4_choices_0 : decode cX4_choices 0 = .ok (.aload_n 0, 1) := by decide +kernel
theorem dX4_choices_1 : decode cX4_choices 1 = .ok (.getfield 21, 3) := by decide +kernel
theorem dX4_choices_4 : decode cX4_choices 4 = .ok (.iload_n 1, 1) := by decide +kernel
theorem dX4_choices_5 : decode cX4_choices 5 = .ok (.iaload, 1) := by decide +kernel
theorem dX4_choices_6 : decode cX4_choices 6 = .ok (.istore_n 3, 1) := by decide +kernel
theorem dX4_choices_7 : decode cX4_choices 7 = .ok (.aload_n 0, 1) := by decide +kernel
theorem dX4_choices_8 : decode cX4_choices 8 = .ok (.getfield 12, 3) := by decide +kernel
theorem dX4_choices_11 : decode cX4_choices 11 = .ok (.getfield 64, 3) := by decide +kernel
theorem dX4_choices_14 : decode cX4_choices 14 = .ok (.iload_n 1, 1) := by decide +kernel
theorem dX4_choices_15 : decode cX4_choices 15 = .ok (.iaload, 1) := by decide +kernel
theorem dX4_choices_16 : decode cX4_choices 16 = .ok (.istore 4, 2) := by decide +kernel
theorem dX4_choices_18 : decode cX4_choices 18 = .ok (.aload_n 0, 1) := by decide +kernel
theorem dX4_choices_19 : decode cX4_choices 19 = .ok (.getfield 12, 3) := by decide +kernel
theorem dX4_choices_22 : decode cX4_choices 22 = .ok (.getfield 67, 3) := by decide +kernel
theorem dX4_choices_25 : decode cX4_choices 25 = .ok (.iload_n 1, 1) := by decide +kernel
theorem dX4_choices_26 : decode cX4_choices 26 = .ok (.iaload, 1) := by decide +kernel
theorem dX4_choices_27 : decode cX4_choices 27 = .ok (.istore 5, 2) := by decide +kernel
theorem dX4_choices_29 : decode cX4_choices 29 = .ok (.iconst 0, 1) := by decide +kernel
theorem dX4_choices_30 : decode cX4_choices 30 = .ok (.istore 6, 2) := by decide +kernel
theorem dX4_choices_32 : decode cX4_choices 32 = .ok (.iload 6, 2) := by decide +kernel
theorem dX4_choices_34 : decode cX4_choices 34 = .ok (.iload_n 1, 1) := by decide +kernel
theorem dX4_choices_35 : decode cX4_choices 35 = .ok (.if_icmp .ge 93, 3) := by decide +kernel
theorem dX4_choices_38 : decode cX4_choices 38 = .ok (.iload 4, 2) := by decide +kernel
theorem dX4_choices_40 : decode cX4_choices 40 = .ok (.iload 6, 2) := by decide +kernel
theorem dX4_choices_42 : decode cX4_choices 42 = .ok (.invokestatic 70, 3) := by decide +kernel
theorem dX4_choices_45 : decode cX4_choices 45 = .ok (.ifCond .eq 21, 3) := by decide +kernel
theorem dX4_choices_48 : decode cX4_choices 48 = .ok (.iload_n 3, 1) := by decide +kernel
theorem dX4_choices_49 : decode cX4_choices 49 = .ok (.aload_n 0, 1) := by decide +kernel
theorem dX4_choices_50 : decode cX4_choices 50 = .ok (.getfield 18, 3) := by decide +kernel
theorem dX4_choices_53 : decode cX4_choices 53 = .ok (.getfield 67, 3) := by decide +kernel
theorem dX4_choices_56 : decode cX4_choices 56 = .ok (.aload_n 0, 1) := by decide +kernel
theorem dX4_choices_57 : decode cX4_choices 57 = .ok (.getfield 25, 3) := by decide +kernel
theorem dX4_choices_60 : decode cX4_choices 60 = .ok (.iload 6, 2) := by decide +kernel
theorem dX4_choices_62 : decode cX4_choices 62 = .ok (.iaload, 1) := by decide +kernel
theorem dX4_choices_63 : decode cX4_choices 63 = .ok (.iaload, 1) := by decide +kernel
theorem dX4_choices_64 : decode cX4_choices 64 = .ok (.iand, 1) := by decide +kernel
theorem dX4_choices_65 : decode cX4_choices 65 = .ok (.istore_n 3, 1) := by decide +kernel
theorem dX4_choices_66 : decode cX4_choices 66 = .ok (.iload 5, 2) := by decide +kernel
theorem dX4_choices_68 : decode cX4_choices 68 = .ok (.iload 6, 2) := by decide +kernel
theorem dX4_choices_70 : decode cX4_choices 70 = .ok (.invokestatic 70, 3) := by decide +kernel
theorem dX4_choices_73 : decode cX4_choices 73 = .ok (.ifCond .eq 21, 3) := by decide +kernel
theorem dX4_choices_76 : decode cX4_choices 76 = .ok (.iload_n 3, 1) := by decide +kernel
theorem dX4_choices_77 : decode cX4_choices 77 = .ok (.aload_n 0, 1) := by decide +kernel
theorem dX4_choices_78 : decode cX4_choices 78 = .ok (.getfield 18, 3) := by decide +kernel
theorem dX4_choices_81 : decode cX4_choices 81 = .ok (.getfield 64, 3) := by decide +kernel
theorem dX4_choices_84 : decode cX4_choices 84 = .ok (.aload_n 0, 1) := by decide +kernel
theorem dX4_choices_85 : decode cX4_choices 85 = .ok (.getfield 25, 3) := by decide +kernel
theorem dX4_choices_88 : decode cX4_choices 88 = .ok (.iload 6, 2) := by decide +kernel
theorem dX4_choices_90 : decode cX4_choices 90 = .ok (.iaload, 1) := by decide +kernel
theorem dX4_choices_91 : decode cX4_choices 91 = .ok (.iaload, 1) := by decide +kernel
theorem dX4_choices_92 : decode cX4_choices 92 = .ok (.iand, 1) := by decide +kernel
theorem dX4_choices_93 : decode cX4_choices 93 = .ok (.istore_n 3, 1) := by decide +kernel
theorem dX4_choices_94 : decode cX4_choices 94 = .ok (.aload_n 0, 1) := by decide +kernel
theorem dX4_choices_95 : decode cX4_choices 95 = .ok (.getfield 28, 3) := by decide +kernel
theorem dX4_choices_98 : decode cX4_choices 98 = .ok (.ifCond .eq 24, 3) := by decide +kernel
theorem dX4_choices_101 : decode cX4_choices 101 = .ok (.aload_n 0, 1) := by decide +kernel
theorem dX4_choices_102 : decode cX4_choices 102 = .ok (.getfield 25, 3) := by decide +kernel
theorem dX4_choices_105 : decode cX4_choices 105 = .ok (.iload 6, 2) := by decide +kernel
theorem dX4_choices_107 : decode cX4_choices 107 = .ok (.iaload, 1) := by decide +kernel
theorem dX4_choices_108 : decode cX4_choices 108 = .ok (.iload 6, 2) := by decide +kernel
theorem dX4_choices_110 : decode cX4_choices 110 = .ok (.if_icmp .eq 12, 3) := by decide +kernel
theorem dX4_choices_113 : decode cX4_choices 113 = .ok (.iload_n 3, 1) := by decide +kernel
theorem dX4_choices_114 : decode cX4_choices 114 = .ok (.iconst 1, 1) := by decide +kernel
theorem dX4_choices_115 : decode cX4_choices 115 = .ok (.iload 6, 2) := by decide +kernel
theorem dX4_choices_117 : decode cX4_choices 117 = .ok (.ishl, 1) := by decide +kernel
theorem dX4_choices_118 : decode cX4_choices 118 = .ok (.iconst (-1), 1) := by decide +kernel
theorem dX4_choices_119 : decode cX4_choices 119 = .ok (.ixor, 1) := by decide +kernel
theorem dX4_choices_120 : decode cX4_choices 120 = .ok (.iand, 1) := by decide +kernel
theorem dX4_choices_121 : decode cX4_choices 121 = .ok (.istore_n 3, 1) := by decide +kernel
theorem dX4_choices_122 : decode cX4_choices 122 = .ok (.iinc 6 1, 3) := by decide +kernel
theorem dX4_choices_125 : decode cX4_choices 125 = .ok (.goto (-93), 3) := by decide +kernel
theorem dX4_choices_128 : decode cX4_choices 128 = .ok (.aload_n 0, 1) := by decide +kernel
theorem dX4_choices_129 : decode cX4_choices 129 = .ok (.getfield 28, 3) := by decide +kernel
theorem dX4_choices_132 : decode cX4_choices 132 = .ok (.ifCond .eq 19, 3) := by decide +kernel
theorem dX4_choices_135 : decode cX4_choices 135 = .ok (.iload_n 2, 1) := by decide +kernel
theorem dX4_choices_136 : decode cX4_choices 136 = .ok (.iload_n 1, 1) := by decide +kernel
theorem dX4_choices_137 : decode cX4_choices 137 = .ok (.invokestatic 70, 3) := by decide +kernel
theorem dX4_choices_140 : decode cX4_choices 140 = .ok (.ifCond .eq 11, 3) := by decide +kernel
theorem dX4_choices_143 : decode cX4_choices 143 = .ok (.iload_n 3, 1) := by decide +kernel
theorem dX4_choices_144 : decode cX4_choices 144 = .ok (.iconst 1, 1) := by decide +kernel
theorem dX4_choices_145 : decode cX4_choices 145 = .ok (.iload_n 1, 1) := by decide +kernel
theorem dX4_choices_146 : decode cX4_choices 146 = .ok (.ishl, 1) := by decide +kernel
theorem dX4_choices_147 : decode cX4_choices 147 = .ok (.iand, 1) := by decide +kernel
theorem dX4_choices_148 : decode cX4_choices 148 = .ok (.goto 4, 3) := by decide +kernel
theorem dX4_choices_151 : decode cX4_choices 151 = .ok (.iload_n 3, 1) := by decide +kernel
theorem dX4_choices_152 : decode cX4_choices 152 = .ok (.ireturn, 1) := by decide +kernel
noncomputable def f_X4_choices_b122 (x0 : Nat) (x1 : Int32) (x2 : Int32) (x3 : Int32) (x4 : Int32) (x5 : Int32) (x6 : Int32) (σ : Hp) : Option (((Int32 × Int32) ⊕ (Int32)) × Hp) := some (Sum.inl (x3, (x6 + 1)), σ)
set_option maxRecDepth 100000 in
set_option maxHeartbeats 4000000 in
theorem t_X4_choices_b122 {l : Launch} {γ : Gm} {ad : Nat → Nat} {K : Option Value → Hp → Prop} (hc : Cx l γ 2 7 ad shC RX4 cX4_choices (some .int) K) {x0 : Nat} {x1 : Int32} {x2 : Int32} {x3 : Int32} {x4 : Int32} {x5 : Int32} {x6 : Int32}  {σ : Hp} {KL : ((Int32 × Int32) ⊕ (Int32)) → Hp → Prop} (h : wpO (f_X4_choices_b122 x0 x1 x2 x3 x4 x5 x6 σ) KL) (kn : ∀ (v : (Int32 × Int32)) (σ : Hp), KL (Sum.inl v) σ → WW l γ 2 7 ad shC 32 [(0, .ref (ad x0)), (1, .int x1), (2, .int x2), (3, .int v.1), (4, .int x4), (5, .int x5), (6, .int v.2)] [] σ) (kx128 : ∀ (v : Int32) (σ : Hp), KL (Sum.inr v) σ → WW l γ 2 7 ad shC 128 [(0, .ref (ad x0)), (1, .int x1), (2, .int x2), (3, .int v)] [] σ) : WW l γ 2 7 ad shC 122 [(0, .ref (ad x0)), (1, .int x1), (2, .int x2), (3, .int x3), (4, .int x4), (5, .int x5), (6, .int x6)] [] σ := by
  unfold f_X4_choices_b122 at h
  refine r_iincE hc (j := 6) (w := 1) (lv' := [(6, .int (x6 + 1)), (0, .ref (ad x0)), (1, .int x1), (2, .int x2), (3, .int x3), (4, .int x4), (5, .int x5)]) rfl (by decide) rfl (by decide) rfl dX4_choices_122 ?_
  refine r_goto hc (tgt := 32) dX4_choices_125 (by decide) ?_
  refine r_sub [1, 2, 3, 4, 5, 6, 0] (lv' := [(0, .ref (ad x0)), (1, .int x1), (2, .int x2), (3, .int x3), (4, .int x4), (5, .int x5), (6, .int (x6 + 1))]) rfl ?_
  have h := wp_v h
  exact kn (x3, (x6 + 1)) _ h
noncomputable def f_X4_choices_b94 (x0 : Nat) (x1 : Int32) (x2 : Int32) (x3 : Int32) (x4 : Int32) (x5 : Int32) (x6 : Int32) (σ : Hp) : Option (((Int32 × Int32) ⊕ (Int32)) × Hp) := gO (getI shC 4 x0 8 σ) fun v1 => if v1 = 0 then (f_X4_choices_b122 x0 x1 x2 x3 x4 x5 x6 σ) else (gO (getR shC 4 x0 3 σ) fun v2 => gO (aldI shC 0 v2 x6 σ) fun v3 => if v3 = x6 then (f_X4_choices_b122 x0 x1 x2 x3 x4 x5 x6 σ) else (lt' ((x3 &&& (((1 : Int32) <<< (x6 &&& 31)) ^^^ (-1)))) fun t4 => f_X4_choices_b122 x0 x1 x2 t4 x4 x5 x6 σ))
set_option maxRecDepth 100000 in
set_option maxHeartbeats 4000000 in
theorem t_X4_choices_b94 {l : Launch} {γ : Gm} {ad : Nat → Nat} {K : Option Value → Hp → Prop} (hc : Cx l γ 2 7 ad shC RX4 cX4_choices (some .int) K) {x0 : Nat} {x1 : Int32} {x2 : Int32} {x3 : Int32} {x4 : Int32} {x5 : Int32} {x6 : Int32}  {σ : Hp} {KL : ((Int32 × Int32) ⊕ (Int32)) → Hp → Prop} (h : wpO (f_X4_choices_b94 x0 x1 x2 x3 x4 x5 x6 σ) KL) (kn : ∀ (v : (Int32 × Int32)) (σ : Hp), KL (Sum.inl v) σ → WW l γ 2 7 ad shC 32 [(0, .ref (ad x0)), (1, .int x1), (2, .int x2), (3, .int v.1), (4, .int x4), (5, .int x5), (6, .int v.2)] [] σ) (kx128 : ∀ (v : Int32) (σ : Hp), KL (Sum.inr v) σ → WW l γ 2 7 ad shC 128 [(0, .ref (ad x0)), (1, .int x1), (2, .int x2), (3, .int v)] [] σ) : WW l γ 2 7 ad shC 94 [(0, .ref (ad x0)), (1, .int x1), (2, .int x2), (3, .int x3), (4, .int x4), (5, .int x5), (6, .int x6)] [] σ := by
  unfold f_X4_choices_b94 at h
  refine r_aload_n hc 0 rfl rfl dX4_choices_94 ?_
  obtain ⟨v1, ev1, h⟩ := wp_g h
  refine r_getI hc ev1 fl_X4_28 rfl dX4_choices_95 ?_
  refine r_if_eq hc (tgt := 122) dX4_choices_98 (by decide) (fun c => ?_) (fun c => ?_)
  · have h := wp_t c h
    exact t_X4_choices_b122 hc h kn kx128
  · have h := wp_f c h
    refine r_aload_n hc 0 rfl rfl dX4_choices_101 ?_
    obtain ⟨v2, ev2, h⟩ := wp_g h
    refine r_getR hc ev2 fl_X4_25 rfl dX4_choices_102 ?_
    refine r_iload hc 6 rfl dX4_choices_105 ?_
    obtain ⟨v3, ev3, h⟩ := wp_g h
    refine r_iald hc ev3 dX4_choices_107 ?_
    refine r_iload hc 6 rfl dX4_choices_108 ?_
    refine r_icmp_eq hc (tgt := 122) dX4_choices_110 (by decide) (fun c => ?_) (fun c => ?_)
    · have h := wp_t c h
      exact t_X4_choices_b122 hc h kn kx128
    · have h := wp_f c h
      refine r_iload_n hc 3 rfl rfl dX4_choices_113 ?_
      refine r_iconst hc (v := 1) (by decide) dX4_choices_114 ?_
      refine r_iload hc 6 rfl dX4_choices_115 ?_
      refine r_ishl hc dX4_choices_117 ?_
      refine r_iconst hc (v := (-1)) (by decide) dX4_choices_118 ?_
      refine r_ixor hc dX4_choices_119 ?_
      refine r_iand hc dX4_choices_120 ?_
      obtain ⟨t4, et4, h⟩ := wp_l h
      refine r_istore_nE hc (i := 3) (lv' := [(3, .int t4), (0, .ref (ad x0)), (1, .int x1), (2, .int x2), (4, .int x4), (5, .int x5), (6, .int x6)]) et4 rfl (by decide) rfl dX4_choices_121 ?_
      refine r_sub [1, 2, 3, 0, 4, 5, 6] (lv' := [(0, .ref (ad x0)), (1, .int x1), (2, .int x2), (3, .int t4), (4, .int x4), (5, .int x5), (6, .int x6)]) rfl ?_
      exact t_X4_choices_b122 hc h kn kx128
noncomputable def f_X4_choices_b66 (x0 : Nat) (x1 : Int32) (x2 : Int32) (x3 : Int32) (x4 : Int32) (x5 : Int32) (x6 : Int32) (σ : Hp) : Option (((Int32 × Int32) ⊕ (Int32)) × Hp) := bO (f_X6_has x5 x6 σ) fun r1 σ2 => if r1 = 0 then (f_X4_choices_b94 x0 x1 x2 x3 x4 x5 x6 σ2) else (gO (getR shC 4 x0 1 σ2) fun v3 => gO (getR shC 1 v3 1 σ2) fun v4 => gO (getR shC 4 x0 3 σ2) fun v5 => gO (aldI shC 0 v5 x6 σ2) fun v6 => gO (aldI shC 0 v4 v6 σ2) fun v7 => f_X4_choices_b94 x0 x1 x2 (x3 &&& v7) x4 x5 x6 σ2)
set_option maxRecDepth 100000 in
set_option maxHeartbeats 4000000 in
theorem t_X4_choices_b66 {l : Launch} {γ : Gm} {ad : Nat → Nat} {K : Option Value → Hp → Prop} (hc : Cx l γ 2 7 ad shC RX4 cX4_choices (some .int) K) {x0 : Nat} {x1 : Int32} {x2 : Int32} {x3 : Int32} {x4 : Int32} {x5 : Int32} {x6 : Int32}  {σ : Hp} {KL : ((Int32 × Int32) ⊕ (Int32)) → Hp → Prop} (h : wpO (f_X4_choices_b66 x0 x1 x2 x3 x4 x5 x6 σ) KL) (kn : ∀ (v : (Int32 × Int32)) (σ : Hp), KL (Sum.inl v) σ → WW l γ 2 7 ad shC 32 [(0, .ref (ad x0)), (1, .int x1), (2, .int x2), (3, .int v.1), (4, .int x4), (5, .int x5), (6, .int v.2)] [] σ) (kx128 : ∀ (v : Int32) (σ : Hp), KL (Sum.inr v) σ → WW l γ 2 7 ad shC 128 [(0, .ref (ad x0)), (1, .int x1), (2, .int x2), (3, .int v)] [] σ) : WW l γ 2 7 ad shC 66 [(0, .ref (ad x0)), (1, .int x1), (2, .int x2), (3, .int x3), (4, .int x4), (5, .int x5), (6, .int x6)] [] σ := by
  unfold f_X4_choices_b66 at h
  refine r_iload hc 5 rfl dX4_choices_66 ?_
  refine r_iload hc 6 rfl dX4_choices_68 ?_
  obtain ⟨r1, σ2, er1, h⟩ := wp_b h
  refine r_callSN hc ms_X6_has nl_X4_70 (c_X6_has er1) rfl rfl (by decide) rfl (Nat.le_of_ble_eq_true rfl) dX4_choices_70 ?_
  refine r_if_eq hc (tgt := 94) dX4_choices_73 (by decide) (fun c => ?_) (fun c => ?_)
  · have h := wp_t c h
    exact t_X4_choices_b94 hc h kn kx128
  · have h := wp_f c h
    refine r_iload_n hc 3 rfl rfl dX4_choices_76 ?_
    refine r_aload_n hc 0 rfl rfl dX4_choices_77 ?_
    obtain ⟨v3, ev3, h⟩ := wp_g h
    refine r_getR hc ev3 fl_X4_18 rfl dX4_choices_78 ?_
    obtain ⟨v4, ev4, h⟩ := wp_g h
    refine r_getR hc ev4 fl_X4_64 rfl dX4_choices_81 ?_
    refine r_aload_n hc 0 rfl rfl dX4_choices_84 ?_
    obtain ⟨v5, ev5, h⟩ := wp_g h
    refine r_getR hc ev5 fl_X4_25 rfl dX4_choices_85 ?_
    refine r_iload hc 6 rfl dX4_choices_88 ?_
    obtain ⟨v6, ev6, h⟩ := wp_g h
    refine r_iald hc ev6 dX4_choices_90 ?_
    obtain ⟨v7, ev7, h⟩ := wp_g h
    refine r_iald hc ev7 dX4_choices_91 ?_
    refine r_iand hc dX4_choices_92 ?_
    refine r_istore_nE hc (i := 3) (lv' := [(3, .int (x3 &&& v7)), (0, .ref (ad x0)), (1, .int x1), (2, .int x2), (4, .int x4), (5, .int x5), (6, .int x6)]) rfl rfl (by decide) rfl dX4_choices_93 ?_
    refine r_sub [1, 2, 3, 0, 4, 5, 6] (lv' := [(0, .ref (ad x0)), (1, .int x1), (2, .int x2), (3, .int (x3 &&& v7)), (4, .int x4), (5, .int x5), (6, .int x6)]) rfl ?_
    exact t_X4_choices_b94 hc h kn kx128
noncomputable def f_X4_choices_L32 (x0 : Nat) (x1 : Int32) (x2 : Int32) (x4 : Int32) (x5 : Int32) (v : (Int32 × Int32)) (σ : Hp) : Option (((Int32 × Int32) ⊕ (Int32)) × Hp) := if x1 ≤ v.2 then (some (Sum.inr v.1, σ)) else (bO (f_X6_has x4 v.2 σ) fun r1 σ2 => if r1 = 0 then (f_X4_choices_b66 x0 x1 x2 v.1 x4 x5 v.2 σ2) else (gO (getR shC 4 x0 1 σ2) fun v3 => gO (getR shC 1 v3 2 σ2) fun v4 => gO (getR shC 4 x0 3 σ2) fun v5 => gO (aldI shC 0 v5 v.2 σ2) fun v6 => gO (aldI shC 0 v4 v6 σ2) fun v7 => f_X4_choices_b66 x0 x1 x2 (v.1 &&& v7) x4 x5 v.2 σ2))
set_option maxRecDepth 100000 in
set_option maxHeartbeats 4000000 in
theorem t_X4_choices_L32 {l : Launch} {γ : Gm} {ad : Nat → Nat} {K : Option Value → Hp → Prop}  (hc : Cx l γ 2 7 ad shC RX4 cX4_choices (some .int) K) {x0 : Nat} {x1 : Int32} {x2 : Int32} {x4 : Int32} {x5 : Int32} {v : (Int32 × Int32)} {σ : Hp} {KX : (Int32) → Hp → Prop} (h : wpO (wh (f_X4_choices_L32 x0 x1 x2 x4 x5) v σ) KX) (kx128 : ∀ (v : Int32) (σ : Hp), KX v σ → WW l γ 2 7 ad shC 128 [(0, .ref (ad x0)), (1, .int x1), (2, .int x2), (3, .int v)] [] σ) : WW l γ 2 7 ad shC 32 [(0, .ref (ad x0)), (1, .int x1), (2, .int x2), (3, .int v.1), (4, .int x4), (5, .int x5), (6, .int v.2)] [] σ := by
  refine wh_W (P := fun v σ => WW l γ 2 7 ad shC 32 [(0, .ref (ad x0)), (1, .int x1), (2, .int x2), (3, .int v.1), (4, .int x4), (5, .int x5), (6, .int v.2)] [] σ) (fun v σ h => ?_) h
  have kn : ∀ (v : (Int32 × Int32)) (σ : Hp), WW l γ 2 7 ad shC 32 [(0, .ref (ad x0)), (1, .int x1), (2, .int x2), (3, .int v.1), (4, .int x4), (5, .int x5), (6, .int v.2)] [] σ → WW l γ 2 7 ad shC 32 [(0, .ref (ad x0)), (1, .int x1), (2, .int x2), (3, .int v.1), (4, .int x4), (5, .int x5), (6, .int v.2)] [] σ := fun _ _ h => h
  · unfold f_X4_choices_L32 at h
    refine r_iload hc 6 rfl dX4_choices_32 ?_
    refine r_iload_n hc 1 rfl rfl dX4_choices_34 ?_
    refine r_icmp_ge hc (tgt := 128) dX4_choices_35 (by decide) (fun c => ?_) (fun c => ?_)
    · have h := wp_t c h
      refine r_sub [0, 1, 2, 3] (lv' := [(0, .ref (ad x0)), (1, .int x1), (2, .int x2), (3, .int v.1)]) rfl ?_
      have h := wp_v h
      exact kx128 v.1 _ h
    · have h := wp_f c h
      refine r_iload hc 4 rfl dX4_choices_38 ?_
      refine r_iload hc 6 rfl dX4_choices_40 ?_
      obtain ⟨r1, σ2, er1, h⟩ := wp_b h
      refine r_callSN hc ms_X6_has nl_X4_70 (c_X6_has er1) rfl rfl (by decide) rfl (Nat.le_of_ble_eq_true rfl) dX4_choices_42 ?_
      refine r_if_eq hc (tgt := 66) dX4_choices_45 (by decide) (fun c => ?_) (fun c => ?_)
      · have h := wp_t c h
        exact t_X4_choices_b66 hc h kn kx128
      · have h := wp_f c h
        refine r_iload_n hc 3 rfl rfl dX4_choices_48 ?_
        refine r_aload_n hc 0 rfl rfl dX4_choices_49 ?_
        obtain ⟨v3, ev3, h⟩ := wp_g h
        refine r_getR hc ev3 fl_X4_18 rfl dX4_choices_50 ?_
        obtain ⟨v4, ev4, h⟩ := wp_g h
        refine r_getR hc ev4 fl_X4_67 rfl dX4_choices_53 ?_
        refine r_aload_n hc 0 rfl rfl dX4_choices_56 ?_
        obtain ⟨v5, ev5, h⟩ := wp_g h
        refine r_getR hc ev5 fl_X4_25 rfl dX4_choices_57 ?_
        refine r_iload hc 6 rfl dX4_choices_60 ?_
        obtain ⟨v6, ev6, h⟩ := wp_g h
        refine r_iald hc ev6 dX4_choices_62 ?_
        obtain ⟨v7, ev7, h⟩ := wp_g h
        refine r_iald hc ev7 dX4_choices_63 ?_
        refine r_iand hc dX4_choices_64 ?_
        refine r_istore_nE hc (i := 3) (lv' := [(3, .int (v.1 &&& v7)), (0, .ref (ad x0)), (1, .int x1), (2, .int x2), (4, .int x4), (5, .int x5), (6, .int v.2)]) rfl rfl (by decide) rfl dX4_choices_65 ?_
        refine r_sub [1, 2, 3, 0, 4, 5, 6] (lv' := [(0, .ref (ad x0)), (1, .int x1), (2, .int x2), (3, .int (v.1 &&& v7)), (4, .int x4), (5, .int x5), (6, .int v.2)]) rfl ?_
        exact t_X4_choices_b66 hc h kn kx128
noncomputable def f_X4_choices_b152 (s0 : Int32) (σ : Hp) : Option (Int32 × Hp) := some (s0, σ)
set_option maxRecDepth 100000 in
set_option maxHeartbeats 4000000 in
theorem t_X4_choices_b152 {l : Launch} {γ : Gm} {ad : Nat → Nat} {K : Option Value → Hp → Prop} (hc : Cx l γ 2 7 ad shC RX4 cX4_choices (some .int) K) {s0 : Int32} {σ : Hp} (h : wpO (f_X4_choices_b152 s0 σ) (KI K)) : WW l γ 2 7 ad shC 152 [] [.int s0] σ := by
  unfold f_X4_choices_b152 at h
  have h := wp_v h
  exact r_iret hc h dX4_choices_152
noncomputable def f_X4_choices_b151 (x3 : Int32) (σ : Hp) : Option (Int32 × Hp) := f_X4_choices_b152 x3 σ
set_option maxRecDepth 100000 in
set_option maxHeartbeats 4000000 in
theorem t_X4_choices_b151 {l : Launch} {γ : Gm} {ad : Nat → Nat} {K : Option Value → Hp → Prop} (hc : Cx l γ 2 7 ad shC RX4 cX4_choices (some .int) K) {x3 : Int32} {σ : Hp} (h : wpO (f_X4_choices_b151 x3 σ) (KI K)) : WW l γ 2 7 ad shC 151 [(3, .int x3)] [] σ := by
  unfold f_X4_choices_b151 at h
  refine r_iload_n hc 0 rfl rfl dX4_choices_151 ?_
  refine r_sub [] (lv' := []) rfl ?_
  exact t_X4_choices_b152 hc h
noncomputable def f_X4_choices (x0 : Nat) (x1 : Int32) (x2 : Int32) (σ : Hp) : Option (Int32 × Hp) := gO (getR shC 4 x0 2 σ) fun v1 => gO (aldI shC 0 v1 x1 σ) fun v2 => gO (getR shC 4 x0 0 σ) fun v3 => gO (getR shC 1 v3 1 σ) fun v4 => gO (aldI shC 0 v4 x1 σ) fun v5 => gO (getR shC 4 x0 0 σ) fun v6 => gO (getR shC 1 v6 2 σ) fun v7 => gO (aldI shC 0 v7 x1 σ) fun v8 => bO (wh (f_X4_choices_L32 x0 x1 x2 v5 v8) (v2, 0) σ) fun y9 σ10 => (gO (getI shC 4 x0 8 σ10) fun v11 => if v11 = 0 then (f_X4_choices_b151 y9 σ10) else (bO (f_X6_has x2 x1 σ10) fun r12 σ13 => if r12 = 0 then (f_X4_choices_b151 y9 σ13) else (f_X4_choices_b152 (y9 &&& ((1 : Int32) <<< (x1 &&& 31))) σ13)))
set_option maxRecDepth 100000 in
set_option maxHeartbeats 4000000 in
theorem t_X4_choices {l : Launch} {γ : Gm} {ad : Nat → Nat} {K : Option Value → Hp → Prop} (hc : Cx l γ 2 7 ad shC RX4 cX4_choices (some .int) K) {x0 : Nat} {x1 : Int32} {x2 : Int32} {σ : Hp} (h : wpO (f_X4_choices x0 x1 x2 σ) (KI K)) : WW l γ 2 7 ad shC 0 [(0, .ref (ad x0)), (1, .int x1), (2, .int x2)] [] σ := by
  unfold f_X4_choices at h
  refine r_aload_n hc 0 rfl rfl dX4_choices_0 ?_
  obtain ⟨v1, ev1, h⟩ := wp_g h
  refine r_getR hc ev1 fl_X4_21 rfl dX4_choices_1 ?_
  refine r_iload_n hc 1 rfl rfl dX4_choices_4 ?_
  obtain ⟨v2, ev2, h⟩ := wp_g h
  refine r_iald hc ev2 dX4_choices_5 ?_
  refine r_istore_nE hc (i := 3) (lv' := [(3, .int v2), (0, .ref (ad x0)), (1, .int x1), (2, .int x2)]) rfl rfl (by decide) rfl dX4_choices_6 ?_
  refine r_aload_n hc 1 rfl rfl dX4_choices_7 ?_
  obtain ⟨v3, ev3, h⟩ := wp_g h
  refine r_getR hc ev3 fl_X4_12 rfl dX4_choices_8 ?_
  obtain ⟨v4, ev4, h⟩ := wp_g h
  refine r_getR hc ev4 fl_X4_64 rfl dX4_choices_11 ?_
  refine r_iload_n hc 2 rfl rfl dX4_choices_14 ?_
  obtain ⟨v5, ev5, h⟩ := wp_g h
  refine r_iald hc ev5 dX4_choices_15 ?_
  refine r_istoreE hc (i := 4) (lv' := [(4, .int v5), (3, .int v2), (0, .ref (ad x0)), (1, .int x1), (2, .int x2)]) rfl (by decide) rfl dX4_choices_16 ?_
  refine r_aload_n hc 2 rfl rfl dX4_choices_18 ?_
  obtain ⟨v6, ev6, h⟩ := wp_g h
  refine r_getR hc ev6 fl_X4_12 rfl dX4_choices_19 ?_
  obtain ⟨v7, ev7, h⟩ := wp_g h
  refine r_getR hc ev7 fl_X4_67 rfl dX4_choices_22 ?_
  refine r_iload_n hc 3 rfl rfl dX4_choices_25 ?_
  obtain ⟨v8, ev8, h⟩ := wp_g h
  refine r_iald hc ev8 dX4_choices_26 ?_
  refine r_istoreE hc (i := 5) (lv' := [(5, .int v8), (4, .int v5), (3, .int v2), (0, .ref (ad x0)), (1, .int x1), (2, .int x2)]) rfl (by decide) rfl dX4_choices_27 ?_
  refine r_iconst hc (v := 0) (by decide) dX4_choices_29 ?_
  refine r_istoreE hc (i := 6) (lv' := [(6, .int 0), (5, .int v8), (4, .int v5), (3, .int v2), (0, .ref (ad x0)), (1, .int x1), (2, .int x2)]) rfl (by decide) rfl dX4_choices_30 ?_
  refine r_sub [4, 5, 6, 3, 2, 1, 0] (lv' := [(0, .ref (ad x0)), (1, .int x1), (2, .int x2), (3, .int v2), (4, .int v5), (5, .int v8), (6, .int 0)]) rfl ?_
  refine t_X4_choices_L32 hc (wp_bb h) ?_
  · intro y9 σ10 h
    refine r_aload_n hc 0 rfl rfl dX4_choices_128 ?_
    obtain ⟨v11, ev11, h⟩ := wp_g h
    refine r_getI hc ev11 fl_X4_28 rfl dX4_choices_129 ?_
    refine r_if_eq hc (tgt := 151) dX4_choices_132 (by decide) (fun c => ?_) (fun c => ?_)
    · have h := wp_t c h
      refine r_sub [3] (lv' := [(3, .int y9)]) rfl ?_
      exact t_X4_choices_b151 hc h
    · have h := wp_f c h
      refine r_iload_n hc 2 rfl rfl dX4_choices_135 ?_
      refine r_iload_n hc 1 rfl rfl dX4_choices_136 ?_
      obtain ⟨r12, σ13, er12, h⟩ := wp_b h
      refine r_callSN hc ms_X6_has nl_X4_70 (c_X6_has er12) rfl rfl (by decide) rfl (Nat.le_of_ble_eq_true rfl) dX4_choices_137 ?_
      refine r_if_eq hc (tgt := 151) dX4_choices_140 (by decide) (fun c => ?_) (fun c => ?_)
      · have h := wp_t c h
        refine r_sub [3] (lv' := [(3, .int y9)]) rfl ?_
        exact t_X4_choices_b151 hc h
      · have h := wp_f c h
        refine r_iload_n hc 3 rfl rfl dX4_choices_143 ?_
        refine r_iconst hc (v := 1) (by decide) dX4_choices_144 ?_
        refine r_iload_n hc 1 rfl rfl dX4_choices_145 ?_
        refine r_ishl hc dX4_choices_146 ?_
        refine r_iand hc dX4_choices_147 ?_
        refine r_goto hc (tgt := 152) dX4_choices_148 (by decide) ?_
        refine r_sub [] (lv' := []) rfl ?_
        exact t_X4_choices_b152 hc h
theorem c_X4_choices {l : Launch} {x0 : Nat} {x1 : Int32} {x2 : Int32} {σ σ' : Hp} {r : Int32} (h : f_X4_choices x0 x1 x2 σ = some (r, σ')) : Mt l yX4_choices cX4_choices 7 (some .int) 2 shC (fun ad => [.ref (ad x0), .int x1, .int x2]) σ (fun ad => some (.int r)) σ' := mt_i (own := RX4) (by decide) rfl (fun _ => Nat.le_of_ble_eq_true rfl) (fun γ ad K hc hk => t_X4_choices hc ⟨_, _, h, hk⟩)

-- NetMaps$Search.inBounds(II)Z
theorem dX4_inBounds_0 : decode cX4_inBounds 0 = .ok (.aload_n 0, 1) := by decide +kernel
theorem dX4_inBounds_1 : decode cX4_inBounds 1 = .ok (.getfield 61, 3) := by decide +kernel
theorem dX4_inBounds_4 : decode cX4_inBounds 4 = .ok (.ifCond .ne 5, 3) := by decide +kernel
theorem dX4_inBounds_7 : decode cX4_inBounds 7 = .ok (.iconst 1, 1) := by decide +kernel
theorem dX4_inBounds_8 : decode cX4_inBounds 8 = .ok (.ireturn, 1) := by decide +kernel
theorem dX4_inBounds_9 : decode cX4_inBounds 9 = .ok (.iload_n 2, 1) := by decide +kernel
theorem dX4_inBounds_10 : decode cX4_inBounds 10 = .ok (.invokestatic 73, 3) := by decide +kernel
theorem dX4_inBounds_13 : decode cX4_inBounds 13 = .ok (.istore_n 3, 1) := by decide +kernel
theorem dX4_inBounds_14 : decode cX4_inBounds 14 = .ok (.iload_n 3, 1) := by decide +kernel
theorem dX4_inBounds_15 : decode cX4_inBounds 15 = .ok (.aload_n 0, 1) := by decide +kernel
theorem dX4_inBounds_16 : decode cX4_inBounds 16 = .ok (.getfield 58, 3) := by decide +kernel
theorem dX4_inBounds_19 : decode cX4_inBounds 19 = .ok (.if_icmp .gt 27, 3) := by decide +kernel
theorem dX4_inBounds_22 : decode cX4_inBounds 22 = .ok (.iload_n 3, 1) := by decide +kernel
theorem dX4_inBounds_23 : decode cX4_inBounds 23 = .ok (.aload_n 0, 1) := by decide +kernel
theorem dX4_inBounds_24 : decode cX4_inBounds 24 = .ok (.getfield 12, 3) := by decide +kernel
theorem dX4_inBounds_27 : decode cX4_inBounds 27 = .ok (.getfield 40, 3) := by decide +kernel
theorem dX4_inBounds_30 : decode cX4_inBounds 30 = .ok (.iadd, 1) := by decide +kernel
theorem dX4_inBounds_31 : decode cX4_inBounds 31 = .ok (.iconst 1, 1) := by decide +kernel
theorem dX4_inBounds_32 : decode cX4_inBounds 32 = .ok (.isub, 1) := by decide +kernel
theorem dX4_inBounds_33 : decode cX4_inBounds 33 = .ok (.iload_n 1, 1) := by decide +kernel
theorem dX4_inBounds_34 : decode cX4_inBounds 34 = .ok (.isub, 1) := by decide +kernel
theorem dX4_inBounds_35 : decode cX4_inBounds 35 = .ok (.aload_n 0, 1) := by decide +kernel
theorem dX4_inBounds_36 : decode cX4_inBounds 36 = .ok (.getfield 55, 3) := by decide +kernel
theorem dX4_inBounds_39 : decode cX4_inBounds 39 = .ok (.if_icmp .lt 7, 3) := by decide +kernel
theorem dX4_inBounds_42 : decode cX4_inBounds 42 = .ok (.iconst 1, 1) := by decide +kernel
theorem dX4_inBounds_43 : decode cX4_inBounds 43 = .ok (.goto 4, 3) := by decide +kernel
theorem dX4_inBounds_46 : decode cX4_inBounds 46 = .ok (.iconst 0, 1) := by decide +kernel
theorem dX4_inBounds_47 : decode cX4_inBounds 47 = .ok (.ireturn, 1) := by decide +kernel
noncomputable def f_X4_inBounds_b47 (s0 : Int32) (σ : Hp) : Option (Int32 × Hp) := gO (zz s0) fun _ => some (s0, σ)
set_option maxRecDepth 100000 in
set_option maxHeartbeats 4000000 in
theorem t_X4_inBounds_b47 {l : Launch} {γ : Gm} {ad : Nat → Nat} {K : Option Value → Hp → Prop} (hc : Cx l γ 2 4 ad shC RX4 cX4_inBounds (some .boolean) K) {s0 : Int32} {σ : Hp} (h : wpO (f_X4_inBounds_b47 s0 σ) (KI K)) : WW l γ 2 4 ad shC 47 [] [.int s0] σ := by
  unfold f_X4_inBounds_b47 at h
  obtain ⟨_, ek1, h⟩ := wp_g h
  have h := wp_v h
  exact r_zret hc h (zz_of ek1) dX4_inBounds_47
noncomputable def f_X4_inBounds_b46  (σ : Hp) : Option (Int32 × Hp) := f_X4_inBounds_b47 0 σ
set_option maxRecDepth 100000 in
set_option maxHeartbeats 4000000 in
theorem t_X4_inBounds_b46 {l : Launch} {γ : Gm} {ad : Nat → Nat} {K : Option Value → Hp → Prop} (hc : Cx l γ 2 4 ad shC RX4 cX4_inBounds (some .boolean) K)  {σ : Hp} (h : wpO (f_X4_inBounds_b46  σ) (KI K)) : WW l γ 2 4 ad shC 46 [] [] σ := by
  unfold f_X4_inBounds_b46 at h
  refine r_iconst hc (v := 0) (by decide) dX4_inBounds_46 ?_
  exact t_X4_inBounds_b47 hc h
noncomputable def f_X4_inBounds (x0 : Nat) (x1 : Int32) (x2 : Int32) (σ : Hp) : Option (Int32 × Hp) := gO (getI shC 4 x0 7 σ) fun v1 => if v1 = 0 then (some (1, σ)) else (bO (f_J6_bitCount_0f7a4 shC x2 σ) fun r2 σ3 => gO (getI shC 4 x0 6 σ3) fun v4 => if v4 < r2 then (f_X4_inBounds_b46  σ3) else (gO (getR shC 4 x0 0 σ3) fun v5 => gO (getI shC 1 v5 0 σ3) fun v6 => gO (getI shC 4 x0 5 σ3) fun v7 => if (((r2 + v6) - 1) - x1) < v7 then (f_X4_inBounds_b46  σ3) else (f_X4_inBounds_b47 1 σ3)))
set_option maxRecDepth 100000 in
set_option maxHeartbeats 4000000 in
theorem t_X4_inBounds {l : Launch} {γ : Gm} {ad : Nat → Nat} {K : Option Value → Hp → Prop} (hc : Cx l γ 2 4 ad shC RX4 cX4_inBounds (some .boolean) K) {x0 : Nat} {x1 : Int32} {x2 : Int32} {σ : Hp} (h : wpO (f_X4_inBounds x0 x1 x2 σ) (KI K)) : WW l γ 2 4 ad shC 0 [(0, .ref (ad x0)), (1, .int x1), (2, .int x2)] [] σ := by
  unfold f_X4_inBounds at h
  refine r_aload_n hc 0 rfl rfl dX4_inBounds_0 ?_
  obtain ⟨v1, ev1, h⟩ := wp_g h
  refine r_getI hc ev1 fl_X4_61 rfl dX4_inBounds_1 ?_
  refine r_if_ne hc (tgt := 9) dX4_inBounds_4 (by decide) (fun c => ?_) (fun c => ?_)
  · have h := wp_f c h
    refine r_iload_n hc 2 rfl rfl dX4_inBounds_9 ?_
    obtain ⟨r2, σ3, er2, h⟩ := wp_b h
    refine r_callS hc ms_J6_bitCount_0f7a4 ml_X4_73 (c_J6_bitCount_0f7a4 er2) rfl rfl (by decide) rfl (Nat.le_of_ble_eq_true rfl) dX4_inBounds_10 ?_
    refine r_istore_nE hc (i := 3) (lv' := [(3, .int r2), (0, .ref (ad x0)), (1, .int x1), (2, .int x2)]) rfl rfl (by decide) rfl dX4_inBounds_13 ?_
    refine r_iload_n hc 0 rfl rfl dX4_inBounds_14 ?_
    refine r_aload_n hc 1 rfl rfl dX4_inBounds_15 ?_
    obtain ⟨v4, ev4, h⟩ := wp_g h
    refine r_getI hc ev4 fl_X4_58 rfl dX4_inBounds_16 ?_
    refine r_icmp_gt hc (tgt := 46) dX4_inBounds_19 (by decide) (fun c => ?_) (fun c => ?_)
    · have h := wp_t c h
      refine r_sub [] (lv' := []) rfl ?_
      exact t_X4_inBounds_b46 hc h
    · have h := wp_f c h
      refine r_iload_n hc 0 rfl rfl dX4_inBounds_22 ?_
      refine r_aload_n hc 1 rfl rfl dX4_inBounds_23 ?_
      obtain ⟨v5, ev5, h⟩ := wp_g h
      refine r_getR hc ev5 fl_X4_12 rfl dX4_inBounds_24 ?_
      obtain ⟨v6, ev6, h⟩ := wp_g h
      refine r_getI hc ev6 fl_X4_40 rfl dX4_inBounds_27 ?_
      refine r_iadd hc dX4_inBounds_30 ?_
      refine r_iconst hc (v := 1) (by decide) dX4_inBounds_31 ?_
      refine r_isub hc dX4_inBounds_32 ?_
      refine r_iload_n hc 2 rfl rfl dX4_inBounds_33 ?_
      refine r_isub hc dX4_inBounds_34 ?_
      refine r_aload_n hc 1 rfl rfl dX4_inBounds_35 ?_
      obtain ⟨v7, ev7, h⟩ := wp_g h
      refine r_getI hc ev7 fl_X4_55 rfl dX4_inBounds_36 ?_
      refine r_icmp_lt hc (tgt := 46) dX4_inBounds_39 (by decide) (fun c => ?_) (fun c => ?_)
      · have h := wp_t c h
        refine r_sub [] (lv' := []) rfl ?_
        exact t_X4_inBounds_b46 hc h
      · have h := wp_f c h
        refine r_iconst hc (v := 1) (by decide) dX4_inBounds_42 ?_
        refine r_goto hc (tgt := 47) dX4_inBounds_43 (by decide) ?_
        refine r_sub [] (lv' := []) rfl ?_
        exact t_X4_inBounds_b47 hc h
  · have h := wp_t c h
    refine r_iconst hc (v := 1) (by decide) dX4_inBounds_7 ?_
    have h := wp_v h
    exact r_zret hc h (by decide) dX4_inBounds_8
theorem c_X4_inBounds {l : Launch} {x0 : Nat} {x1 : Int32} {x2 : Int32} {σ σ' : Hp} {r : Int32} (h : f_X4_inBounds x0 x1 x2 σ = some (r, σ')) : Mt l yX4_inBounds cX4_inBounds 4 (some .boolean) 2 shC (fun ad => [.ref (ad x0), .int x1, .int x2]) σ (fun ad => some (.int r)) σ' := mt_i (own := RX4) (by decide) rfl (fun _ => Nat.le_of_ble_eq_true rfl) (fun γ ad K hc hk => t_X4_inBounds hc ⟨_, _, h, hk⟩)

-- NetMaps$Search.findsFrom(LNetMaps$Search;II)Z
theorem dX4_findsFrom_0 : decode cX4_findsFrom 0 = .ok (.iload_n 1, 1) := by decide +kernel
theorem dX4_findsFrom_1 : decode cX4_findsFrom 1 = .ok (.aload_n 0, 1) := by decide +kernel
theorem dX4_findsFrom_2 : decode cX4_findsFrom 2 = .ok (.getfield 12, 3) := by decide +kernel
theorem dX4_findsFrom_5 : decode cX4_findsFrom 5 = .ok (.getfield 40, 3) := by decide +kernel
theorem dX4_findsFrom_8 : decode cX4_findsFrom 8 = .ok (.if_icmp .lt 5, 3) := by decide +kernel
theorem dX4_findsFrom_11 : decode cX4_findsFrom 11 = .ok (.iconst 1, 1) := by decide +kernel
theorem dX4_findsFrom_12 : decode cX4_findsFrom 12 = .ok (.ireturn, 1) := by decide +kernel
theorem dX4_findsFrom_13 : decode cX4_findsFrom 13 = .ok (.aload_n 0, 1) := by decide +kernel
theorem dX4_findsFrom_14 : decode cX4_findsFrom 14 = .ok (.iload_n 1, 1) := by decide +kernel
theorem dX4_findsFrom_15 : decode cX4_findsFrom 15 = .ok (.iload_n 2, 1) := by decide +kernel
theorem dX4_findsFrom_16 : decode cX4_findsFrom 16 = .ok (.invokevirtual 86, 3) := by decide +kernel
theorem dX4_findsFrom_19 : decode cX4_findsFrom 19 = .ok (.istore_n 3, 1) := by decide +kernel
theorem dX4_findsFrom_20 : decode cX4_findsFrom 20 = .ok (.iconst 0, 1) := by decide +kernel
theorem dX4_findsFrom_21 : decode cX4_findsFrom 21 = .ok (.istore 4, 2) := by decide +kernel
theorem dX4_findsFrom_23 : decode cX4_findsFrom 23 = .ok (.iload 4, 2) := by decide +kernel
theorem dX4_findsFrom_25 : decode cX4_findsFrom 25 = .ok (.aload_n 0, 1) := by decide +kernel
theorem dX4_findsFrom_26 : decode cX4_findsFrom 26 = .ok (.getfield 18, 3) := by decide +kernel
theorem dX4_findsFrom_29 : decode cX4_findsFrom 29 = .ok (.getfield 40, 3) := by decide +kernel
theorem dX4_findsFrom_32 : decode cX4_findsFrom 32 = .ok (.if_icmp .ge 68, 3) := by decide +kernel
theorem dX4_findsFrom_35 : decode cX4_findsFrom 35 = .ok (.iload_n 2, 1) := by decide +kernel
theorem dX4_findsFrom_36 : decode cX4_findsFrom 36 = .ok (.iconst 1, 1) := by decide +kernel
theorem dX4_findsFrom_37 : decode cX4_findsFrom 37 = .ok (.iload 4, 2) := by decide +kernel
theorem dX4_findsFrom_39 : decode cX4_findsFrom 39 = .ok (.ishl, 1) := by decide +kernel
theorem dX4_findsFrom_40 : decode cX4_findsFrom 40 = .ok (.ior, 1) := by decide +kernel
theorem dX4_findsFrom_41 : decode cX4_findsFrom 41 = .ok (.istore 5, 2) := by decide +kernel
theorem dX4_findsFrom_43 : decode cX4_findsFrom 43 = .ok (.iload_n 3, 1) := by decide +kernel
theorem dX4_findsFrom_44 : decode cX4_findsFrom 44 = .ok (.iload 4, 2) := by decide +kernel
theorem dX4_findsFrom_46 : decode cX4_findsFrom 46 = .ok (.invokestatic 70, 3) := by decide +kernel
theorem dX4_findsFrom_49 : decode cX4_findsFrom 49 = .ok (.ifCond .eq 45, 3) := by decide +kernel
theorem dX4_findsFrom_52 : decode cX4_findsFrom 52 = .ok (.aload_n 0, 1) := by decide +kernel
theorem dX4_findsFrom_53 : decode cX4_findsFrom 53 = .ok (.iload_n 1, 1) := by decide +kernel
theorem dX4_findsFrom_54 : decode cX4_findsFrom 54 = .ok (.iload 5, 2) := by decide +kernel
theorem dX4_findsFrom_56 : decode cX4_findsFrom 56 = .ok (.invokevirtual 90, 3) := by decide +kernel
theorem dX4_findsFrom_59 : decode cX4_findsFrom 59 = .ok (.ifCond .eq 35, 3) := by decide +kernel
theorem dX4_findsFrom_62 : decode cX4_findsFrom 62 = .ok (.aload_n 0, 1) := by decide +kernel
theorem dX4_findsFrom_63 : decode cX4_findsFrom 63 = .ok (.getfield 25, 3) := by decide +kernel
theorem dX4_findsFrom_66 : decode cX4_findsFrom 66 = .ok (.iload_n 1, 1) := by decide +kernel
theorem dX4_findsFrom_67 : decode cX4_findsFrom 67 = .ok (.iload 4, 2) := by decide +kernel
theorem dX4_findsFrom_69 : decode cX4_findsFrom 69 = .ok (.iastore, 1) := by decide +kernel
theorem dX4_findsFrom_70 : decode cX4_findsFrom 70 = .ok (.aload_n 0, 1) := by decide +kernel
theorem dX4_findsFrom_71 : decode cX4_findsFrom 71 = .ok (.dup, 1) := by decide +kernel
theorem dX4_findsFrom_72 : decode cX4_findsFrom 72 = .ok (.getfield 79, 3) := by decide +kernel
theorem dX4_findsFrom_75 : decode cX4_findsFrom 75 = .ok (.iconst 1, 1) := by decide +kernel
theorem dX4_findsFrom_76 : decode cX4_findsFrom 76 = .ok (.iadd, 1) := by decide +kernel
theorem dX4_findsFrom_77 : decode cX4_findsFrom 77 = .ok (.putfield 79, 3) := by decide +kernel
theorem dX4_findsFrom_80 : decode cX4_findsFrom 80 = .ok (.aload_n 0, 1) := by decide +kernel
theorem dX4_findsFrom_81 : decode cX4_findsFrom 81 = .ok (.iload_n 1, 1) := by decide +kernel
theorem dX4_findsFrom_82 : decode cX4_findsFrom 82 = .ok (.iconst 1, 1) := by decide +kernel
theorem dX4_findsFrom_83 : decode cX4_findsFrom 83 = .ok (.iadd, 1) := by decide +kernel
theorem dX4_findsFrom_84 : decode cX4_findsFrom 84 = .ok (.iload 5, 2) := by decide +kernel
theorem dX4_findsFrom_86 : decode cX4_findsFrom 86 = .ok (.invokestatic 82, 3) := by decide +kernel
theorem dX4_findsFrom_89 : decode cX4_findsFrom 89 = .ok (.ifCond .eq 5, 3) := by decide +kernel
theorem dX4_findsFrom_92 : decode cX4_findsFrom 92 = .ok (.iconst 1, 1) := by decide +kernel
theorem dX4_findsFrom_93 : decode cX4_findsFrom 93 = .ok (.ireturn, 1) := by decide +kernel
theorem dX4_findsFrom_94 : decode cX4_findsFrom 94 = .ok (.iinc 4 1, 3) := by decide +kernel
theorem dX4_findsFrom_97 : decode cX4_findsFrom 97 = .ok (.goto (-74), 3) := by decide +kernel
theorem dX4_findsFrom_100 : decode cX4_findsFrom 100 = .ok (.iconst 0, 1) := by decide +kernel
theorem dX4_findsFrom_101 : decode cX4_findsFrom 101 = .ok (.ireturn, 1) := by decide +kernel
noncomputable def f_X4_findsFrom_b94 (rec : Nat → Int32 → Int32 → Hp → Option (Int32 × Hp)) (x0 : Nat) (x1 : Int32) (x2 : Int32) (x3 : Int32) (x4 : Int32) (σ : Hp) : Option (((Int32) ⊕ ((Unit) ⊕ (Unit))) × Hp) := some (Sum.inl (x4 + 1), σ)
set_option maxRecDepth 100000 in
set_option maxHeartbeats 4000000 in
theorem t_X4_findsFrom_b94 {l : Launch} {γ : Gm} {ad : Nat → Nat} {K : Option Value → Hp → Prop} {n : Nat} (hc : Cx l γ (2 + n + 1) 6 ad shC RX4 cX4_findsFrom (some .boolean) K) {rec : Nat → Int32 → Int32 → Hp → Option (Int32 × Hp)} (hrec : ∀ (x0 : Nat) (x1 : Int32) (x2 : Int32) (σ σ' : Hp) (r : Int32), rec x0 x1 x2 σ = some (r, σ') → Mt l yX4_findsFrom cX4_findsFrom 6 (some .boolean) (2 + n) shC (fun ad => [.ref (ad x0), .int x1, .int x2]) σ (fun ad => some (.int r)) σ') {x0 : Nat} {x1 : Int32} {x2 : Int32} {x3 : Int32} {x4 : Int32}  {σ : Hp} {KL : ((Int32) ⊕ ((Unit) ⊕ (Unit))) → Hp → Prop} (h : wpO (f_X4_findsFrom_b94 rec x0 x1 x2 x3 x4 σ) KL) (kn : ∀ (v : (Int32)) (σ : Hp), KL (Sum.inl v) σ → WW l γ (2 + n + 1) 6 ad shC 23 [(0, .ref (ad x0)), (1, .int x1), (2, .int x2), (3, .int x3), (4, .int v)] [] σ) (kx92 : ∀ (v : Unit) (σ : Hp), KL (Sum.inr (Sum.inl v)) σ → WW l γ (2 + n + 1) 6 ad shC 92 [] [] σ) (kx100 : ∀ (v : Unit) (σ : Hp), KL (Sum.inr (Sum.inr v)) σ → WW l γ (2 + n + 1) 6 ad shC 100 [] [] σ) : WW l γ (2 + n + 1) 6 ad shC 94 [(0, .ref (ad x0)), (1, .int x1), (2, .int x2), (3, .int x3), (4, .int x4)] [] σ := by
  unfold f_X4_findsFrom_b94 at h
  refine r_iincE hc (j := 4) (w := 1) (lv' := [(4, .int (x4 + 1)), (0, .ref (ad x0)), (1, .int x1), (2, .int x2), (3, .int x3)]) rfl (by decide) rfl (by decide) rfl dX4_findsFrom_94 ?_
  refine r_goto hc (tgt := 23) dX4_findsFrom_97 (by decide) ?_
  refine r_sub [1, 2, 3, 4, 0] (lv' := [(0, .ref (ad x0)), (1, .int x1), (2, .int x2), (3, .int x3), (4, .int (x4 + 1))]) rfl ?_
  have h := wp_v h
  exact kn (x4 + 1) _ h
noncomputable def f_X4_findsFrom_L23 (rec : Nat → Int32 → Int32 → Hp → Option (Int32 × Hp)) (x0 : Nat) (x1 : Int32) (x2 : Int32) (x3 : Int32) (v : (Int32)) (σ : Hp) : Option (((Int32) ⊕ ((Unit) ⊕ (Unit))) × Hp) := gO (getR shC 4 x0 1 σ) fun v1 => gO (getI shC 1 v1 0 σ) fun v2 => if v2 ≤ v then (some (Sum.inr (Sum.inr ()), σ)) else (lt' ((x2 ||| ((1 : Int32) <<< (v &&& 31)))) fun t3 => bO (f_X6_has x3 v σ) fun r4 σ5 => if r4 = 0 then (f_X4_findsFrom_b94 rec x0 x1 x2 x3 v σ5) else (gO (chk shC x0 4) fun _ => bO (f_X4_inBounds x0 x1 t3 σ5) fun r6 σ7 => if r6 = 0 then (f_X4_findsFrom_b94 rec x0 x1 x2 x3 v σ7) else (gO (getR shC 4 x0 3 σ7) fun v9 => gO (astI shC 0 v9 x1 v σ7) fun σ10 => gO (getI shC 4 x0 4 σ10) fun v11 => gO (putI shC 4 x0 4 (v11 + 1) σ10) fun σ12 => bO (rec x0 (x1 + 1) t3 σ12) fun r13 σ14 => if r13 = 0 then (f_X4_findsFrom_b94 rec x0 x1 x2 x3 v σ14) else (some (Sum.inr (Sum.inl ()), σ14)))))
set_option maxRecDepth 100000 in
set_option maxHeartbeats 4000000 in
theorem t_X4_findsFrom_L23 {l : Launch} {γ : Gm} {ad : Nat → Nat} {K : Option Value → Hp → Prop} {n : Nat} (hc : Cx l γ (2 + n + 1) 6 ad shC RX4 cX4_findsFrom (some .boolean) K) {rec : Nat → Int32 → Int32 → Hp → Option (Int32 × Hp)} (hrec : ∀ (x0 : Nat) (x1 : Int32) (x2 : Int32) (σ σ' : Hp) (r : Int32), rec x0 x1 x2 σ = some (r, σ') → Mt l yX4_findsFrom cX4_findsFrom 6 (some .boolean) (2 + n) shC (fun ad => [.ref (ad x0), .int x1, .int x2]) σ (fun ad => some (.int r)) σ') {x0 : Nat} {x1 : Int32} {x2 : Int32} {x3 : Int32} {v : (Int32)} {σ : Hp} {KX : ((Unit) ⊕ (Unit)) → Hp → Prop} (h : wpO (wh (f_X4_findsFrom_L23 rec x0 x1 x2 x3) v σ) KX) (kx92 : ∀ (v : Unit) (σ : Hp), KX (Sum.inl v) σ → WW l γ (2 + n + 1) 6 ad shC 92 [] [] σ) (kx100 : ∀ (v : Unit) (σ : Hp), KX (Sum.inr v) σ → WW l γ (2 + n + 1) 6 ad shC 100 [] [] σ) : WW l γ (2 + n + 1) 6 ad shC 23 [(0, .ref (ad x0)), (1, .int x1), (2, .int x2), (3, .int x3), (4, .int v)] [] σ := by
  refine wh_W (P := fun v σ => WW l γ (2 + n + 1) 6 ad shC 23 [(0, .ref (ad x0)), (1, .int x1), (2, .int x2), (3, .int x3), (4, .int v)] [] σ) (fun v σ h => ?_) h
  have kn : ∀ (v : (Int32)) (σ : Hp), WW l γ (2 + n + 1) 6 ad shC 23 [(0, .ref (ad x0)), (1, .int x1), (2, .int x2), (3, .int x3), (4, .int v)] [] σ → WW l γ (2 + n + 1) 6 ad shC 23 [(0, .ref (ad x0)), (1, .int x1), (2, .int x2), (3, .int x3), (4, .int v)] [] σ := fun _ _ h => h
  · unfold f_X4_findsFrom_L23 at h
    refine r_iload hc 4 rfl dX4_findsFrom_23 ?_
    refine r_aload_n hc 0 rfl rfl dX4_findsFrom_25 ?_
    obtain ⟨v1, ev1, h⟩ := wp_g h
    refine r_getR hc ev1 fl_X4_18 rfl dX4_findsFrom_26 ?_
    obtain ⟨v2, ev2, h⟩ := wp_g h
    refine r_getI hc ev2 fl_X4_40 rfl dX4_findsFrom_29 ?_
    refine r_icmp_ge hc (tgt := 100) dX4_findsFrom_32 (by decide) (fun c => ?_) (fun c => ?_)
    · have h := wp_t c h
      refine r_sub [] (lv' := []) rfl ?_
      have h := wp_v h
      exact kx100 () _ h
    · have h := wp_f c h
      refine r_iload_n hc 2 rfl rfl dX4_findsFrom_35 ?_
      refine r_iconst hc (v := 1) (by decide) dX4_findsFrom_36 ?_
      refine r_iload hc 4 rfl dX4_findsFrom_37 ?_
      refine r_ishl hc dX4_findsFrom_39 ?_
      refine r_ior hc dX4_findsFrom_40 ?_
      obtain ⟨t3, et3, h⟩ := wp_l h
      refine r_istoreE hc (i := 5) (lv' := [(5, .int t3), (0, .ref (ad x0)), (1, .int x1), (2, .int x2), (3, .int x3), (4, .int v)]) et3 (by decide) rfl dX4_findsFrom_41 ?_
      refine r_iload_n hc 4 rfl rfl dX4_findsFrom_43 ?_
      refine r_iload hc 5 rfl dX4_findsFrom_44 ?_
      obtain ⟨r4, σ5, er4, h⟩ := wp_b h
      refine r_callSN hc ms_X6_has nl_X4_70 (c_X6_has er4) rfl rfl (by omega) rfl (Nat.le_of_ble_eq_true rfl) dX4_findsFrom_46 ?_
      refine r_if_eq hc (tgt := 94) dX4_findsFrom_49 (by decide) (fun c => ?_) (fun c => ?_)
      · have h := wp_t c h
        refine r_sub [1, 2, 3, 4, 5] (lv' := [(0, .ref (ad x0)), (1, .int x1), (2, .int x2), (3, .int x3), (4, .int v)]) rfl ?_
        exact t_X4_findsFrom_b94 hc hrec h kn kx92 kx100
      · have h := wp_f c h
        refine r_aload_n hc 1 rfl rfl dX4_findsFrom_52 ?_
        refine r_iload_n hc 2 rfl rfl dX4_findsFrom_53 ?_
        refine r_iload hc 0 rfl dX4_findsFrom_54 ?_
        obtain ⟨_, ek8, h⟩ := wp_g h
        obtain ⟨r6, σ7, er6, h⟩ := wp_b h
        refine r_callV hc (k0 := x0) mv_X4_inBounds ml_X4_90 (c_X4_inBounds er6) (chk_of ek8) cls_4.1 rfl rfl rfl (by omega) rfl (Nat.le_of_ble_eq_true rfl) dX4_findsFrom_56 ?_
        refine r_if_eq hc (tgt := 94) dX4_findsFrom_59 (by decide) (fun c => ?_) (fun c => ?_)
        · have h := wp_t c h
          refine r_sub [1, 2, 3, 4, 5] (lv' := [(0, .ref (ad x0)), (1, .int x1), (2, .int x2), (3, .int x3), (4, .int v)]) rfl ?_
          exact t_X4_findsFrom_b94 hc hrec h kn kx92 kx100
        · have h := wp_f c h
          refine r_aload_n hc 1 rfl rfl dX4_findsFrom_62 ?_
          obtain ⟨v9, ev9, h⟩ := wp_g h
          refine r_getR hc ev9 fl_X4_25 rfl dX4_findsFrom_63 ?_
          refine r_iload_n hc 2 rfl rfl dX4_findsFrom_66 ?_
          refine r_iload hc 5 rfl dX4_findsFrom_67 ?_
          obtain ⟨σ10, eσ10, h⟩ := wp_g h
          refine r_iast hc eσ10 dX4_findsFrom_69 ?_
          refine r_aload_n hc 1 rfl rfl dX4_findsFrom_70 ?_
          refine r_dup hc rfl dX4_findsFrom_71 ?_
          obtain ⟨v11, ev11, h⟩ := wp_g h
          refine r_getI hc ev11 fl_X4_79 rfl dX4_findsFrom_72 ?_
          refine r_iconst hc (v := 1) (by decide) dX4_findsFrom_75 ?_
          refine r_iadd hc dX4_findsFrom_76 ?_
          obtain ⟨σ12, eσ12, h⟩ := wp_g h
          refine r_putI hc eσ12 fp_X4_79 rfl dX4_findsFrom_77 ?_
          refine r_aload_n hc 1 rfl rfl dX4_findsFrom_80 ?_
          refine r_iload_n hc 2 rfl rfl dX4_findsFrom_81 ?_
          refine r_iconst hc (v := 1) (by decide) dX4_findsFrom_82 ?_
          refine r_iadd hc dX4_findsFrom_83 ?_
          refine r_iload hc 0 rfl dX4_findsFrom_84 ?_
          obtain ⟨r13, σ14, er13, h⟩ := wp_b h
          refine r_callS hc ms_X4_findsFrom ml_X4_82 (hrec _ _ _ _ _ _ er13) rfl rfl (by omega) rfl (Nat.le_of_ble_eq_true rfl) dX4_findsFrom_86 ?_
          refine r_if_eq hc (tgt := 94) dX4_findsFrom_89 (by decide) (fun c => ?_) (fun c => ?_)
          · have h := wp_t c h
            refine r_sub [1, 2, 3, 4, 5] (lv' := [(0, .ref (ad x0)), (1, .int x1), (2, .int x2), (3, .int x3), (4, .int v)]) rfl ?_
            exact t_X4_findsFrom_b94 hc hrec h kn kx92 kx100
          · have h := wp_f c h
            refine r_sub [] (lv' := []) rfl ?_
            have h := wp_v h
            exact kx92 () _ h
noncomputable def f_X4_findsFrom_body (rec : Nat → Int32 → Int32 → Hp → Option (Int32 × Hp)) (x0 : Nat) (x1 : Int32) (x2 : Int32) (σ : Hp) : Option (Int32 × Hp) := gO (getR shC 4 x0 0 σ) fun v1 => gO (getI shC 1 v1 0 σ) fun v2 => if x1 < v2 then (gO (chk shC x0 4) fun _ => bO (f_X4_choices x0 x1 x2 σ) fun r3 σ4 => bO (wh (f_X4_findsFrom_L23 rec x0 x1 x2 r3) 0 σ4) fun y6 σ7 => (Sum.elim (fun y6' => (some (1, σ7))) (fun y8 => (some (0, σ7))) y6)) else (some (1, σ))
set_option maxRecDepth 100000 in
set_option maxHeartbeats 4000000 in
theorem t_X4_findsFrom {l : Launch} {γ : Gm} {ad : Nat → Nat} {K : Option Value → Hp → Prop} {n : Nat} (hc : Cx l γ (2 + n + 1) 6 ad shC RX4 cX4_findsFrom (some .boolean) K) {rec : Nat → Int32 → Int32 → Hp → Option (Int32 × Hp)} (hrec : ∀ (x0 : Nat) (x1 : Int32) (x2 : Int32) (σ σ' : Hp) (r : Int32), rec x0 x1 x2 σ = some (r, σ') → Mt l yX4_findsFrom cX4_findsFrom 6 (some .boolean) (2 + n) shC (fun ad => [.ref (ad x0), .int x1, .int x2]) σ (fun ad => some (.int r)) σ') {x0 : Nat} {x1 : Int32} {x2 : Int32} {σ : Hp} (h : wpO (f_X4_findsFrom_body rec x0 x1 x2 σ) (KI K)) : WW l γ (2 + n + 1) 6 ad shC 0 [(0, .ref (ad x0)), (1, .int x1), (2, .int x2)] [] σ := by
  unfold f_X4_findsFrom_body at h
  refine r_iload_n hc 1 rfl rfl dX4_findsFrom_0 ?_
  refine r_aload_n hc 0 rfl rfl dX4_findsFrom_1 ?_
  obtain ⟨v1, ev1, h⟩ := wp_g h
  refine r_getR hc ev1 fl_X4_12 rfl dX4_findsFrom_2 ?_
  obtain ⟨v2, ev2, h⟩ := wp_g h
  refine r_getI hc ev2 fl_X4_40 rfl dX4_findsFrom_5 ?_
  refine r_icmp_lt hc (tgt := 13) dX4_findsFrom_8 (by decide) (fun c => ?_) (fun c => ?_)
  · have h := wp_t c h
    refine r_aload_n hc 0 rfl rfl dX4_findsFrom_13 ?_
    refine r_iload_n hc 1 rfl rfl dX4_findsFrom_14 ?_
    refine r_iload_n hc 2 rfl rfl dX4_findsFrom_15 ?_
    obtain ⟨_, ek5, h⟩ := wp_g h
    obtain ⟨r3, σ4, er3, h⟩ := wp_b h
    refine r_callV hc (k0 := x0) mv_X4_choices ml_X4_86 (c_X4_choices er3) (chk_of ek5) cls_4.1 rfl rfl rfl (by omega) rfl (Nat.le_of_ble_eq_true rfl) dX4_findsFrom_16 ?_
    refine r_istore_nE hc (i := 3) (lv' := [(3, .int r3), (0, .ref (ad x0)), (1, .int x1), (2, .int x2)]) rfl rfl (by decide) rfl dX4_findsFrom_19 ?_
    refine r_iconst hc (v := 0) (by decide) dX4_findsFrom_20 ?_
    refine r_istoreE hc (i := 4) (lv' := [(4, .int 0), (3, .int r3), (0, .ref (ad x0)), (1, .int x1), (2, .int x2)]) rfl (by decide) rfl dX4_findsFrom_21 ?_
    refine r_sub [2, 3, 4, 1, 0] (lv' := [(0, .ref (ad x0)), (1, .int x1), (2, .int x2), (3, .int r3), (4, .int 0)]) rfl ?_
    refine t_X4_findsFrom_L23 hc hrec (wp_bb h) ?_ ?_
    · intro y6' σ7 h
      have h := wp_sl h
      refine r_iconst hc (v := 1) (by decide) dX4_findsFrom_92 ?_
      have h := wp_v h
      exact r_zret hc h (by decide) dX4_findsFrom_93
    · intro y8 σ7 h
      have h := wp_sr h
      refine r_iconst hc (v := 0) (by decide) dX4_findsFrom_100 ?_
      have h := wp_v h
      exact r_zret hc h (by decide) dX4_findsFrom_101
  · have h := wp_f c h
    refine r_iconst hc (v := 1) (by decide) dX4_findsFrom_11 ?_
    have h := wp_v h
    exact r_zret hc h (by decide) dX4_findsFrom_12
noncomputable def f_X4_findsFrom : Nat → Nat → Int32 → Int32 → Hp → Option (Int32 × Hp)
  | 0 => fun _ _ _ _ => none
  | n + 1 => f_X4_findsFrom_body (f_X4_findsFrom n)
theorem cn_X4_findsFrom {l : Launch} : ∀ (n : Nat) (x0 : Nat) (x1 : Int32) (x2 : Int32) (σ σ' : Hp) (r : Int32), f_X4_findsFrom n x0 x1 x2 σ = some (r, σ') → Mt l yX4_findsFrom cX4_findsFrom 6 (some .boolean) (2 + n) shC (fun ad => [.ref (ad x0), .int x1, .int x2]) σ (fun ad => some (.int r)) σ' := by
  intro n
  induction n with
  | zero => intro x0 x1 x2 σ σ' r h; cases h
  | succ n ih => intro x0 x1 x2 σ σ' r h; exact mt_i (own := RX4) (by decide) rfl (fun _ => Nat.le_of_ble_eq_true rfl) (fun γ ad K hc hk => t_X4_findsFrom (n := n) hc ih ⟨_, _, h, hk⟩)
theorem c_X4_findsFrom {l : Launch} {x0 : Nat} {x1 : Int32} {x2 : Int32} {σ σ' : Hp} {r : Int32} (h : f_X4_findsFrom 30 x0 x1 x2 σ = some (r, σ')) : Mt l yX4_findsFrom cX4_findsFrom 6 (some .boolean) 32 shC (fun ad => [.ref (ad x0), .int x1, .int x2]) σ (fun ad => some (.int r)) σ' := cn_X4_findsFrom 30 x0 x1 x2 σ σ' r h

-- NetMaps$Search.finds()Z
theorem dX4_finds_0 : decode cX4_finds 0 = .ok (.aload_n 0, 1) := by decide +kernel
theorem dX4_finds_1 : decode cX4_finds 1 = .ok (.iconst 0, 1) := by decide +kernel
theorem dX4_finds_2 : decode cX4_finds 2 = .ok (.putfield 79, 3) := by decide +kernel
theorem dX4_finds_5 : decode cX4_finds 5 = .ok (.aload_n 0, 1) := by decide +kernel
theorem dX4_finds_6 : decode cX4_finds 6 = .ok (.iconst 0, 1) := by decide +kernel
theorem dX4_finds_7 : decode cX4_finds 7 = .ok (.iconst 0, 1) := by decide +kernel
theorem dX4_finds_8 : decode cX4_finds 8 = .ok (.invokestatic 82, 3) := by decide +kernel
theorem dX4_finds_11 : decode cX4_finds 11 = .ok (.ireturn, 1) := by decide +kernel
noncomputable def f_X4_finds (x0 : Nat) (σ : Hp) : Option (Int32 × Hp) := gO (putI shC 4 x0 4 0 σ) fun σ1 => bO (f_X4_findsFrom 30 x0 0 0 σ1) fun r2 σ3 => gO (zz r2) fun _ => some (r2, σ3)
set_option maxRecDepth 100000 in
set_option maxHeartbeats 4000000 in
theorem t_X4_finds {l : Launch} {γ : Gm} {ad : Nat → Nat} {K : Option Value → Hp → Prop} (hc : Cx l γ 34 1 ad shC RX4 cX4_finds (some .boolean) K) {x0 : Nat} {σ : Hp} (h : wpO (f_X4_finds x0 σ) (KI K)) : WW l γ 34 1 ad shC 0 [(0, .ref (ad x0))] [] σ := by
  unfold f_X4_finds at h
  refine r_aload_n hc 0 rfl rfl dX4_finds_0 ?_
  refine r_iconst hc (v := 0) (by decide) dX4_finds_1 ?_
  obtain ⟨σ1, eσ1, h⟩ := wp_g h
  refine r_putI hc eσ1 fp_X4_79 rfl dX4_finds_2 ?_
  refine r_aload_n hc 0 rfl rfl dX4_finds_5 ?_
  refine r_iconst hc (v := 0) (by decide) dX4_finds_6 ?_
  refine r_iconst hc (v := 0) (by decide) dX4_finds_7 ?_
  obtain ⟨r2, σ3, er2, h⟩ := wp_b h
  refine r_callS hc ms_X4_findsFrom ml_X4_82 (c_X4_findsFrom er2) rfl rfl (by decide) rfl (Nat.le_of_ble_eq_true rfl) dX4_finds_8 ?_
  obtain ⟨_, ek4, h⟩ := wp_g h
  have h := wp_v h
  exact r_zret hc h (zz_of ek4) dX4_finds_11
theorem c_X4_finds {l : Launch} {x0 : Nat} {σ σ' : Hp} {r : Int32} (h : f_X4_finds x0 σ = some (r, σ')) : Mt l yX4_finds cX4_finds 1 (some .boolean) 34 shC (fun ad => [.ref (ad x0)]) σ (fun ad => some (.int r)) σ' := mt_i (own := RX4) (by decide) rfl (fun _ => Nat.le_of_ble_eq_true rfl) (fun γ ad K hc hk => t_X4_finds hc ⟨_, _, h, hk⟩)

-- NetMaps$Search.bound(II)V
theorem dX4_bound_0 : decode cX4_bound 0 = .ok (.aload_n 0, 1) := by decide +kernel
theorem dX4_bound_1 : decode cX4_bound 1 = .ok (.iload_n 1, 1) := by decide +kernel
theorem dX4_bound_2 : decode cX4_bound 2 = .ok (.putfield 55, 3) := by decide +kernel
theorem dX4_bound_5 : decode cX4_bound 5 = .ok (.aload_n 0, 1) := by decide +kernel
theorem dX4_bound_6 : decode cX4_bound 6 = .ok (.iload_n 2, 1) := by decide +kernel
theorem dX4_bound_7 : decode cX4_bound 7 = .ok (.putfield 58, 3) := by decide +kernel
theorem dX4_bound_10 : decode cX4_bound 10 = .ok (.aload_n 0, 1) := by decide +kernel
theorem dX4_bound_11 : decode cX4_bound 11 = .ok (.aload_n 0, 1) := by decide +kernel
theorem dX4_bound_12 : decode cX4_bound 12 = .ok (.getfield 55, 3) := by decide +kernel
theorem dX4_bound_15 : decode cX4_bound 15 = .ok (.iconst 1, 1) := by decide +kernel
theorem dX4_bound_16 : decode cX4_bound 16 = .ok (.if_icmp .gt 17, 3) := by decide +kernel
theorem dX4_bound_19 : decode cX4_bound 19 = .ok (.aload_n 0, 1) := by decide +kernel
theorem dX4_bound_20 : decode cX4_bound 20 = .ok (.getfield 58, 3) := by decide +kernel
theorem dX4_bound_23 : decode cX4_bound 23 = .ok (.aload_n 0, 1) := by decide +kernel
theorem dX4_bound_24 : decode cX4_bound 24 = .ok (.getfield 18, 3) := by decide +kernel
theorem dX4_bound_27 : decode cX4_bound 27 = .ok (.getfield 40, 3) := by decide +kernel
theorem dX4_bound_30 : decode cX4_bound 30 = .ok (.if_icmp .ge 7, 3) := by decide +kernel
theorem dX4_bound_33 : decode cX4_bound 33 = .ok (.iconst 1, 1) := by decide +kernel
theorem dX4_bound_34 : decode cX4_bound 34 = .ok (.goto 4, 3) := by decide +kernel
theorem dX4_bound_37 : decode cX4_bound 37 = .ok (.iconst 0, 1) := by decide +kernel
theorem dX4_bound_38 : decode cX4_bound 38 = .ok (.putfield 61, 3) := by decide +kernel
theorem dX4_bound_41 : decode cX4_bound 41 = .ok (.return_, 1) := by decide +kernel
noncomputable def f_X4_bound_b38 (s0 : Nat) (s1 : Int32) (σ : Hp) : Option (Unit × Hp) := gO (putZ shC 4 s0 7 s1 σ) fun σ1 => some ((), σ1)
set_option maxRecDepth 100000 in
set_option maxHeartbeats 4000000 in
theorem t_X4_bound_b38 {l : Launch} {γ : Gm} {ad : Nat → Nat} {K : Option Value → Hp → Prop} (hc : Cx l γ 1 3 ad shC RX4 cX4_bound none K) {s0 : Nat} {s1 : Int32} {σ : Hp} (h : wpO (f_X4_bound_b38 s0 s1 σ) (KU K)) : WW l γ 1 3 ad shC 38 [] [.int s1, .ref (ad s0)] σ := by
  unfold f_X4_bound_b38 at h
  obtain ⟨σ1, eσ1, h⟩ := wp_g h
  refine r_putZ hc eσ1 fp_X4_61 rfl dX4_bound_38 ?_
  have h := wp_v h
  exact r_vret hc h dX4_bound_41
noncomputable def f_X4_bound_b33 (s0 : Nat) (σ : Hp) : Option (Unit × Hp) := f_X4_bound_b38 s0 1 σ
set_option maxRecDepth 100000 in
set_option maxHeartbeats 4000000 in
theorem t_X4_bound_b33 {l : Launch} {γ : Gm} {ad : Nat → Nat} {K : Option Value → Hp → Prop} (hc : Cx l γ 1 3 ad shC RX4 cX4_bound none K) {s0 : Nat} {σ : Hp} (h : wpO (f_X4_bound_b33 s0 σ) (KU K)) : WW l γ 1 3 ad shC 33 [] [.ref (ad s0)] σ := by
  unfold f_X4_bound_b33 at h
  refine r_iconst hc (v := 1) (by decide) dX4_bound_33 ?_
  refine r_goto hc (tgt := 38) dX4_bound_34 (by decide) ?_
  exact t_X4_bound_b38 hc h
noncomputable def f_X4_bound (x0 : Nat) (x1 : Int32) (x2 : Int32) (σ : Hp) : Option (Unit × Hp) := gO (putI shC 4 x0 5 x1 σ) fun σ1 => gO (putI shC 4 x0 6 x2 σ1) fun σ2 => gO (getI shC 4 x0 5 σ2) fun v3 => if 1 < v3 then (f_X4_bound_b33 x0 σ2) else (gO (getI shC 4 x0 6 σ2) fun v4 => gO (getR shC 4 x0 1 σ2) fun v5 => gO (getI shC 1 v5 0 σ2) fun v6 => if v6 ≤ v4 then (f_X4_bound_b38 x0 0 σ2) else (f_X4_bound_b33 x0 σ2))
set_option maxRecDepth 100000 in
set_option maxHeartbeats 4000000 in
theorem t_X4_bound {l : Launch} {γ : Gm} {ad : Nat → Nat} {K : Option Value → Hp → Prop} (hc : Cx l γ 1 3 ad shC RX4 cX4_bound none K) {x0 : Nat} {x1 : Int32} {x2 : Int32} {σ : Hp} (h : wpO (f_X4_bound x0 x1 x2 σ) (KU K)) : WW l γ 1 3 ad shC 0 [(0, .ref (ad x0)), (1, .int x1), (2, .int x2)] [] σ := by
  unfold f_X4_bound at h
  refine r_aload_n hc 0 rfl rfl dX4_bound_0 ?_
  refine r_iload_n hc 1 rfl rfl dX4_bound_1 ?_
  obtain ⟨σ1, eσ1, h⟩ := wp_g h
  refine r_putI hc eσ1 fp_X4_55 rfl dX4_bound_2 ?_
  refine r_aload_n hc 0 rfl rfl dX4_bound_5 ?_
  refine r_iload_n hc 2 rfl rfl dX4_bound_6 ?_
  obtain ⟨σ2, eσ2, h⟩ := wp_g h
  refine r_putI hc eσ2 fp_X4_58 rfl dX4_bound_7 ?_
  refine r_aload_n hc 0 rfl rfl dX4_bound_10 ?_
  refine r_aload_n hc 0 rfl rfl dX4_bound_11 ?_
  obtain ⟨v3, ev3, h⟩ := wp_g h
  refine r_getI hc ev3 fl_X4_55 rfl dX4_bound_12 ?_
  refine r_iconst hc (v := 1) (by decide) dX4_bound_15 ?_
  refine r_icmp_gt hc (tgt := 33) dX4_bound_16 (by decide) (fun c => ?_) (fun c => ?_)
  · have h := wp_t c h
    refine r_sub [] (lv' := []) rfl ?_
    exact t_X4_bound_b33 hc h
  · have h := wp_f c h
    refine r_aload_n hc 0 rfl rfl dX4_bound_19 ?_
    obtain ⟨v4, ev4, h⟩ := wp_g h
    refine r_getI hc ev4 fl_X4_58 rfl dX4_bound_20 ?_
    refine r_aload_n hc 0 rfl rfl dX4_bound_23 ?_
    obtain ⟨v5, ev5, h⟩ := wp_g h
    refine r_getR hc ev5 fl_X4_18 rfl dX4_bound_24 ?_
    obtain ⟨v6, ev6, h⟩ := wp_g h
    refine r_getI hc ev6 fl_X4_40 rfl dX4_bound_27 ?_
    refine r_icmp_ge hc (tgt := 37) dX4_bound_30 (by decide) (fun c => ?_) (fun c => ?_)
    · have h := wp_t c h
      refine r_iconst hc (v := 0) (by decide) dX4_bound_37 ?_
      refine r_sub [] (lv' := []) rfl ?_
      exact t_X4_bound_b38 hc h
    · have h := wp_f c h
      refine r_sub [] (lv' := []) rfl ?_
      exact t_X4_bound_b33 hc h
theorem c_X4_bound {l : Launch} {x0 : Nat} {x1 : Int32} {x2 : Int32} {σ σ' : Hp} {r : Unit} (h : f_X4_bound x0 x1 x2 σ = some (r, σ')) : Mt l yX4_bound cX4_bound 3 none 1 shC (fun ad => [.ref (ad x0), .int x1, .int x2]) σ (fun ad => none) σ' := mt_i (own := RX4) (by decide) rfl (fun _ => Nat.le_of_ble_eq_true rfl) (fun γ ad K hc hk => t_X4_bound hc ⟨_, _, h, hk⟩)

-- NetMaps$Search.freely(LNetMaps$Net;LNetMaps$Net;)V
theorem dX4_freely_0 : decode cX4_freely 0 = .ok (.aload_n 0, 1) := by decide +kernel
theorem dX4_freely_1 : decode cX4_freely 1 = .ok (.aload_n 1, 1) := by decide +kernel
theorem dX4_freely_2 : decode cX4_freely 2 = .ok (.putfield 12, 3) := by decide +kernel
theorem dX4_freely_5 : decode cX4_freely 5 = .ok (.aload_n 0, 1) := by decide +kernel
theorem dX4_freely_6 : decode cX4_freely 6 = .ok (.aload_n 2, 1) := by decide +kernel
theorem dX4_freely_7 : decode cX4_freely 7 = .ok (.putfield 18, 3) := by decide +kernel
theorem dX4_freely_10 : decode cX4_freely 10 = .ok (.aload_n 0, 1) := by decide +kernel
theorem dX4_freely_11 : decode cX4_freely 11 = .ok (.iconst 0, 1) := by decide +kernel
theorem dX4_freely_12 : decode cX4_freely 12 = .ok (.putfield 28, 3) := by decide +kernel
theorem dX4_freely_15 : decode cX4_freely 15 = .ok (.aload_n 0, 1) := by decide +kernel
theorem dX4_freely_16 : decode cX4_freely 16 = .ok (.iconst 0, 1) := by decide +kernel
theorem dX4_freely_17 : decode cX4_freely 17 = .ok (.bipush 7, 2) := by decide +kernel
theorem dX4_freely_19 : decode cX4_freely 19 = .ok (.invokevirtual 32, 3) := by decide +kernel
theorem dX4_freely_22 : decode cX4_freely 22 = .ok (.aload_n 0, 1) := by decide +kernel
theorem dX4_freely_23 : decode cX4_freely 23 = .ok (.getfield 18, 3) := by decide +kernel
theorem dX4_freely_26 : decode cX4_freely 26 = .ok (.invokevirtual 36, 3) := by decide +kernel
theorem dX4_freely_29 : decode cX4_freely 29 = .ok (.istore_n 3, 1) := by decide +kernel
theorem dX4_freely_30 : decode cX4_freely 30 = .ok (.iconst 0, 1) := by decide +kernel
theorem dX4_freely_31 : decode cX4_freely 31 = .ok (.istore 4, 2) := by decide +kernel
theorem dX4_freely_33 : decode cX4_freely 33 = .ok (.iload 4, 2) := by decide +kernel
theorem dX4_freely_35 : decode cX4_freely 35 = .ok (.aload_n 0, 1) := by decide +kernel
theorem dX4_freely_36 : decode cX4_freely 36 = .ok (.getfield 12, 3) := by decide +kernel
theorem dX4_freely_39 : decode cX4_freely 39 = .ok (.getfield 40, 3) := by decide +kernel
theorem dX4_freely_42 : decode cX4_freely 42 = .ok (.if_icmp .ge 41, 3) := by decide +kernel
theorem dX4_freely_45 : decode cX4_freely 45 = .ok (.aload_n 0, 1) := by decide +kernel
theorem dX4_freely_46 : decode cX4_freely 46 = .ok (.getfield 21, 3) := by decide +kernel
theorem dX4_freely_49 : decode cX4_freely 49 = .ok (.iload 4, 2) := by decide +kernel
theorem dX4_freely_51 : decode cX4_freely 51 = .ok (.aload_n 0, 1) := by decide +kernel
theorem dX4_freely_52 : decode cX4_freely 52 = .ok (.getfield 12, 3) := by decide +kernel
theorem dX4_freely_55 : decode cX4_freely 55 = .ok (.iload 4, 2) := by decide +kernel
theorem dX4_freely_57 : decode cX4_freely 57 = .ok (.iload 4, 2) := by decide +kernel
theorem dX4_freely_59 : decode cX4_freely 59 = .ok (.invokevirtual 44, 3) := by decide +kernel
theorem dX4_freely_62 : decode cX4_freely 62 = .ok (.ifCond .eq 7, 3) := by decide +kernel
theorem dX4_freely_65 : decode cX4_freely 65 = .ok (.iload_n 3, 1) := by decide +kernel
theorem dX4_freely_66 : decode cX4_freely 66 = .ok (.goto 10, 3) := by decide +kernel
theorem dX4_freely_69 : decode cX4_freely 69 = .ok (.aload_n 0, 1) := by decide +kernel
theorem dX4_freely_70 : decode cX4_freely 70 = .ok (.getfield 18, 3) := by decide +kernel
theorem dX4_freely_73 : decode cX4_freely 73 = .ok (.invokevirtual 48, 3) := by decide +kernel
theorem dX4_freely_76 : decode cX4_freely 76 = .ok (.iastore, 1) := by decide +kernel
theorem dX4_freely_77 : decode cX4_freely 77 = .ok (.iinc 4 1, 3) := by decide +kernel
theorem dX4_freely_80 : decode cX4_freely 80 = .ok (.goto (-47), 3) := by decide +kernel
theorem dX4_freely_83 : decode cX4_freely 83 = .ok (.return_, 1) := by decide +kernel
noncomputable def f_X4_freely_b76 (x0 : Nat) (x3 : Int32) (x4 : Int32) (s0 : Nat) (s1 : Int32) (s2 : Int32) (σ : Hp) : Option (((Int32) ⊕ (Unit)) × Hp) := gO (astI shC 0 s0 s1 s2 σ) fun σ1 => some (Sum.inl (x4 + 1), σ1)
set_option maxRecDepth 100000 in
set_option maxHeartbeats 4000000 in
theorem t_X4_freely_b76 {l : Launch} {γ : Gm} {ad : Nat → Nat} {K : Option Value → Hp → Prop} (hc : Cx l γ 3 5 ad shC RX4 cX4_freely none K) {x0 : Nat} {x3 : Int32} {x4 : Int32} {s0 : Nat} {s1 : Int32} {s2 : Int32}  {σ : Hp} {KL : ((Int32) ⊕ (Unit)) → Hp → Prop} (h : wpO (f_X4_freely_b76 x0 x3 x4 s0 s1 s2 σ) KL) (kn : ∀ (v : (Int32)) (σ : Hp), KL (Sum.inl v) σ → WW l γ 3 5 ad shC 33 [(0, .ref (ad x0)), (3, .int x3), (4, .int v)] [] σ) (kx83 : ∀ (v : Unit) (σ : Hp), KL (Sum.inr v) σ → WW l γ 3 5 ad shC 83 [] [] σ) : WW l γ 3 5 ad shC 76 [(0, .ref (ad x0)), (3, .int x3), (4, .int x4)] [.int s2, .int s1, .ref (ad s0)] σ := by
  unfold f_X4_freely_b76 at h
  obtain ⟨σ1, eσ1, h⟩ := wp_g h
  refine r_iast hc eσ1 dX4_freely_76 ?_
  refine r_iincE hc (j := 2) (w := 1) (lv' := [(4, .int (x4 + 1)), (0, .ref (ad x0)), (3, .int x3)]) rfl (by decide) rfl (by decide) rfl dX4_freely_77 ?_
  refine r_goto hc (tgt := 33) dX4_freely_80 (by decide) ?_
  refine r_sub [1, 2, 0] (lv' := [(0, .ref (ad x0)), (3, .int x3), (4, .int (x4 + 1))]) rfl ?_
  have h := wp_v h
  exact kn (x4 + 1) _ h
noncomputable def f_X4_freely_L33 (x0 : Nat) (x3 : Int32) (v : (Int32)) (σ : Hp) : Option (((Int32) ⊕ (Unit)) × Hp) := gO (getR shC 4 x0 0 σ) fun v1 => gO (getI shC 1 v1 0 σ) fun v2 => if v2 ≤ v then (some (Sum.inr (), σ)) else (gO (getR shC 4 x0 2 σ) fun v3 => gO (getR shC 4 x0 0 σ) fun v4 => gO (chk shC v4 1) fun _ => bO (f_X1_joins v4 v v σ) fun r5 σ6 => if r5 = 0 then (gO (getR shC 4 x0 1 σ6) fun v8 => gO (chk shC v8 1) fun _ => bO (f_X1_all v8 σ6) fun r9 σ10 => f_X4_freely_b76 x0 x3 v v3 v r9 σ10) else (f_X4_freely_b76 x0 x3 v v3 v x3 σ6))
set_option maxRecDepth 100000 in
set_option maxHeartbeats 4000000 in
theorem t_X4_freely_L33 {l : Launch} {γ : Gm} {ad : Nat → Nat} {K : Option Value → Hp → Prop}  (hc : Cx l γ 3 5 ad shC RX4 cX4_freely none K) {x0 : Nat} {x3 : Int32} {v : (Int32)} {σ : Hp} {KX : (Unit) → Hp → Prop} (h : wpO (wh (f_X4_freely_L33 x0 x3) v σ) KX) (kx83 : ∀ (v : Unit) (σ : Hp), KX v σ → WW l γ 3 5 ad shC 83 [] [] σ) : WW l γ 3 5 ad shC 33 [(0, .ref (ad x0)), (3, .int x3), (4, .int v)] [] σ := by
  refine wh_W (P := fun v σ => WW l γ 3 5 ad shC 33 [(0, .ref (ad x0)), (3, .int x3), (4, .int v)] [] σ) (fun v σ h => ?_) h
  have kn : ∀ (v : (Int32)) (σ : Hp), WW l γ 3 5 ad shC 33 [(0, .ref (ad x0)), (3, .int x3), (4, .int v)] [] σ → WW l γ 3 5 ad shC 33 [(0, .ref (ad x0)), (3, .int x3), (4, .int v)] [] σ := fun _ _ h => h
  · unfold f_X4_freely_L33 at h
    refine r_iload hc 2 rfl dX4_freely_33 ?_
    refine r_aload_n hc 0 rfl rfl dX4_freely_35 ?_
    obtain ⟨v1, ev1, h⟩ := wp_g h
    refine r_getR hc ev1 fl_X4_12 rfl dX4_freely_36 ?_
    obtain ⟨v2, ev2, h⟩ := wp_g h
    refine r_getI hc ev2 fl_X4_40 rfl dX4_freely_39 ?_
    refine r_icmp_ge hc (tgt := 83) dX4_freely_42 (by decide) (fun c => ?_) (fun c => ?_)
    · have h := wp_t c h
      refine r_sub [] (lv' := []) rfl ?_
      have h := wp_v h
      exact kx83 () _ h
    · have h := wp_f c h
      refine r_aload_n hc 0 rfl rfl dX4_freely_45 ?_
      obtain ⟨v3, ev3, h⟩ := wp_g h
      refine r_getR hc ev3 fl_X4_21 rfl dX4_freely_46 ?_
      refine r_iload hc 2 rfl dX4_freely_49 ?_
      refine r_aload_n hc 0 rfl rfl dX4_freely_51 ?_
      obtain ⟨v4, ev4, h⟩ := wp_g h
      refine r_getR hc ev4 fl_X4_12 rfl dX4_freely_52 ?_
      refine r_iload hc 2 rfl dX4_freely_55 ?_
      refine r_iload hc 2 rfl dX4_freely_57 ?_
      obtain ⟨_, ek7, h⟩ := wp_g h
      obtain ⟨r5, σ6, er5, h⟩ := wp_b h
      refine r_callV hc (k0 := v4) mv_X1_joins ml_X4_44 (c_X1_joins er5) (chk_of ek7) cls_1.1 rfl rfl rfl (by decide) rfl (Nat.le_of_ble_eq_true rfl) dX4_freely_59 ?_
      refine r_if_eq hc (tgt := 69) dX4_freely_62 (by decide) (fun c => ?_) (fun c => ?_)
      · have h := wp_t c h
        refine r_aload_n hc 0 rfl rfl dX4_freely_69 ?_
        obtain ⟨v8, ev8, h⟩ := wp_g h
        refine r_getR hc ev8 fl_X4_18 rfl dX4_freely_70 ?_
        obtain ⟨_, ek11, h⟩ := wp_g h
        obtain ⟨r9, σ10, er9, h⟩ := wp_b h
        refine r_callV hc (k0 := v8) mv_X1_all ml_X4_48 (c_X1_all er9) (chk_of ek11) cls_1.1 rfl rfl rfl (by decide) rfl (Nat.le_of_ble_eq_true rfl) dX4_freely_73 ?_
        exact t_X4_freely_b76 hc h kn kx83
      · have h := wp_f c h
        refine r_iload_n hc 1 rfl rfl dX4_freely_65 ?_
        refine r_goto hc (tgt := 76) dX4_freely_66 (by decide) ?_
        exact t_X4_freely_b76 hc h kn kx83
noncomputable def f_X4_freely (x0 : Nat) (x1 : Nat) (x2 : Nat) (σ : Hp) : Option (Unit × Hp) := gO (putR shC 4 x0 0 x1 σ) fun σ1 => gO (putR shC 4 x0 1 x2 σ1) fun σ2 => gO (putZ shC 4 x0 8 0 σ2) fun σ3 => gO (chk shC x0 4) fun _ => bO (f_X4_bound x0 0 7 σ3) fun _ σ5 => gO (getR shC 4 x0 1 σ5) fun v7 => gO (chk shC v7 1) fun _ => bO (f_X1_loops v7 σ5) fun r8 σ9 => bO (wh (f_X4_freely_L33 x0 r8) 0 σ9) fun y11 σ12 => (some ((), σ12))
set_option maxRecDepth 100000 in
set_option maxHeartbeats 4000000 in
theorem t_X4_freely {l : Launch} {γ : Gm} {ad : Nat → Nat} {K : Option Value → Hp → Prop} (hc : Cx l γ 3 5 ad shC RX4 cX4_freely none K) {x0 : Nat} {x1 : Nat} {x2 : Nat} {σ : Hp} (h : wpO (f_X4_freely x0 x1 x2 σ) (KU K)) : WW l γ 3 5 ad shC 0 [(0, .ref (ad x0)), (1, .ref (ad x1)), (2, .ref (ad x2))] [] σ := by
  unfold f_X4_freely at h
  refine r_aload_n hc 0 rfl rfl dX4_freely_0 ?_
  refine r_aload_n hc 1 rfl rfl dX4_freely_1 ?_
  obtain ⟨σ1, eσ1, h⟩ := wp_g h
  refine r_putR hc (Or.inl ⟨_, rfl⟩) eσ1 fp_X4_12 rfl dX4_freely_2 ?_
  refine r_aload_n hc 0 rfl rfl dX4_freely_5 ?_
  refine r_aload_n hc 2 rfl rfl dX4_freely_6 ?_
  obtain ⟨σ2, eσ2, h⟩ := wp_g h
  refine r_putR hc (Or.inl ⟨_, rfl⟩) eσ2 fp_X4_18 rfl dX4_freely_7 ?_
  refine r_aload_n hc 0 rfl rfl dX4_freely_10 ?_
  refine r_iconst hc (v := 0) (by decide) dX4_freely_11 ?_
  obtain ⟨σ3, eσ3, h⟩ := wp_g h
  refine r_putZ hc eσ3 fp_X4_28 rfl dX4_freely_12 ?_
  refine r_aload_n hc 0 rfl rfl dX4_freely_15 ?_
  refine r_iconst hc (v := 0) (by decide) dX4_freely_16 ?_
  refine r_bipush hc (v := 7) (by decide) dX4_freely_17 ?_
  obtain ⟨_, ek6, h⟩ := wp_g h
  obtain ⟨_, σ5, er4, h⟩ := wp_b h
  refine r_callV hc (k0 := x0) mv_X4_bound ml_X4_32 (c_X4_bound er4) (chk_of ek6) cls_4.1 rfl rfl rfl (by decide) rfl (Nat.le_of_ble_eq_true rfl) dX4_freely_19 ?_
  refine r_aload_n hc 0 rfl rfl dX4_freely_22 ?_
  obtain ⟨v7, ev7, h⟩ := wp_g h
  refine r_getR hc ev7 fl_X4_18 rfl dX4_freely_23 ?_
  obtain ⟨_, ek10, h⟩ := wp_g h
  obtain ⟨r8, σ9, er8, h⟩ := wp_b h
  refine r_callV hc (k0 := v7) mv_X1_loops ml_X4_36 (c_X1_loops er8) (chk_of ek10) cls_1.1 rfl rfl rfl (by decide) rfl (Nat.le_of_ble_eq_true rfl) dX4_freely_26 ?_
  refine r_istore_nE hc (i := 3) (lv' := [(3, .int r8), (0, .ref (ad x0)), (1, .ref (ad x1)), (2, .ref (ad x2))]) rfl rfl (by decide) rfl dX4_freely_29 ?_
  refine r_iconst hc (v := 0) (by decide) dX4_freely_30 ?_
  refine r_istoreE hc (i := 4) (lv' := [(4, .int 0), (3, .int r8), (0, .ref (ad x0)), (1, .ref (ad x1)), (2, .ref (ad x2))]) rfl (by decide) rfl dX4_freely_31 ?_
  refine r_sub [2, 1, 0] (lv' := [(0, .ref (ad x0)), (3, .int r8), (4, .int 0)]) rfl ?_
  refine t_X4_freely_L33 hc (wp_bb h) ?_
  · intro y11 σ12 h
    have h := wp_v h
    exact r_vret hc h dX4_freely_83
theorem c_X4_freely {l : Launch} {x0 : Nat} {x1 : Nat} {x2 : Nat} {σ σ' : Hp} {r : Unit} (h : f_X4_freely x0 x1 x2 σ = some (r, σ')) : Mt l yX4_freely cX4_freely 5 none 3 shC (fun ad => [.ref (ad x0), .ref (ad x1), .ref (ad x2)]) σ (fun ad => none) σ' := mt_i (own := RX4) (by decide) rfl (fun _ => Nat.le_of_ble_eq_true rfl) (fun γ ad K hc hk => t_X4_freely hc ⟨_, _, h, hk⟩)

-- NetMaps.retractsOnto(LNetMaps$Net;I)Z
theorem dX6_retractsOnto_0 : decode cX6_retractsOnto 0 = .ok (.aload_n 0, 1) := by decide +kernel
theorem dX6_retractsOnto_1 : decode cX6_retractsOnto 1 = .ok (.getfield 41, 3) := by decide +kernel
theorem dX6_retractsOnto_4 : decode cX6_retractsOnto 4 = .ok (.aload_n 1, 1) := by decide +kernel
theorem dX6_retractsOnto_5 : decode cX6_retractsOnto 5 = .ok (.aload_n 1, 1) := by decide +kernel
theorem dX6_retractsOnto_6 : decode cX6_retractsOnto 6 = .ok (.invokevirtual 216, 3) := by decide +kernel
theorem dX6_retractsOnto_9 : decode cX6_retractsOnto 9 = .ok (.iconst 0, 1) := by decide +kernel
theorem dX6_retractsOnto_10 : decode cX6_retractsOnto 10 = .ok (.istore_n 3, 1) := by decide +kernel
theorem dX6_retractsOnto_11 : decode cX6_retractsOnto 11 = .ok (.iload_n 3, 1) := by decide +kernel
theorem dX6_retractsOnto_12 : decode cX6_retractsOnto 12 = .ok (.aload_n 1, 1) := by decide +kernel
theorem dX6_retractsOnto_13 : decode cX6_retractsOnto 13 = .ok (.getfield 126, 3) := by decide +kernel
theorem dX6_retractsOnto_16 : decode cX6_retractsOnto 16 = .ok (.if_icmp .ge 36, 3) := by decide +kernel
theorem dX6_retractsOnto_19 : decode cX6_retractsOnto 19 = .ok (.aload_n 0, 1) := by decide +kernel
theorem dX6_retractsOnto_20 : decode cX6_retractsOnto 20 = .ok (.getfield 41, 3) := by decide +kernel
theorem dX6_retractsOnto_23 : decode cX6_retractsOnto 23 = .ok (.getfield 239, 3) := by decide +kernel
theorem dX6_retractsOnto_26 : decode cX6_retractsOnto 26 = .ok (.iload_n 3, 1) := by decide +kernel
theorem dX6_retractsOnto_27 : decode cX6_retractsOnto 27 = .ok (.dup2, 1) := by decide +kernel
theorem dX6_retractsOnto_28 : decode cX6_retractsOnto 28 = .ok (.iaload, 1) := by decide +kernel
theorem dX6_retractsOnto_29 : decode cX6_retractsOnto 29 = .ok (.iload_n 2, 1) := by decide +kernel
theorem dX6_retractsOnto_30 : decode cX6_retractsOnto 30 = .ok (.iload_n 3, 1) := by decide +kernel
theorem dX6_retractsOnto_31 : decode cX6_retractsOnto 31 = .ok (.invokestatic 203, 3) := by decide +kernel
theorem dX6_retractsOnto_34 : decode cX6_retractsOnto 34 = .ok (.ifCond .eq 9, 3) := by decide +kernel
theorem dX6_retractsOnto_37 : decode cX6_retractsOnto 37 = .ok (.iconst 1, 1) := by decide +kernel
theorem dX6_retractsOnto_38 : decode cX6_retractsOnto 38 = .ok (.iload_n 3, 1) := by decide +kernel
theorem dX6_retractsOnto_39 : decode cX6_retractsOnto 39 = .ok (.ishl, 1) := by decide +kernel
theorem dX6_retractsOnto_40 : decode cX6_retractsOnto 40 = .ok (.goto 4, 3) := by decide +kernel
theorem dX6_retractsOnto_43 : decode cX6_retractsOnto 43 = .ok (.iload_n 2, 1) := by decide +kernel
theorem dX6_retractsOnto_44 : decode cX6_retractsOnto 44 = .ok (.iand, 1) := by decide +kernel
theorem dX6_retractsOnto_45 : decode cX6_retractsOnto 45 = .ok (.iastore, 1) := by decide +kernel
theorem dX6_retractsOnto_46 : decode cX6_retractsOnto 46 = .ok (.iinc 3 1, 3) := by decide +kernel
theorem dX6_retractsOnto_49 : decode cX6_retractsOnto 49 = .ok (.goto (-38), 3) := by decide +kernel
theorem dX6_retractsOnto_52 : decode cX6_retractsOnto 52 = .ok (.aload_n 0, 1) := by decide +kernel
theorem dX6_retractsOnto_53 : decode cX6_retractsOnto 53 = .ok (.getfield 41, 3) := by decide +kernel
theorem dX6_retractsOnto_56 : decode cX6_retractsOnto 56 = .ok (.invokevirtual 249, 3) := by decide +kernel
theorem dX6_retractsOnto_59 : decode cX6_retractsOnto 59 = .ok (.ireturn, 1) := by decide +kernel
noncomputable def f_X6_retractsOnto_b44 (x0 : Nat) (x1 : Nat) (x2 : Int32) (x3 : Int32) (s0 : Nat) (s1 : Int32) (s2 : Int32) (s3 : Int32) (σ : Hp) : Option (((Int32) ⊕ (Unit)) × Hp) := gO (astI shC 0 s0 s1 (s2 &&& s3) σ) fun σ1 => some (Sum.inl (x3 + 1), σ1)
set_option maxRecDepth 100000 in
set_option maxHeartbeats 4000000 in
theorem t_X6_retractsOnto_b44 {l : Launch} {γ : Gm} {ad : Nat → Nat} {K : Option Value → Hp → Prop} (hc : Cx l γ 35 4 ad shC RX6 cX6_retractsOnto (some .boolean) K) {x0 : Nat} {x1 : Nat} {x2 : Int32} {x3 : Int32} {s0 : Nat} {s1 : Int32} {s2 : Int32} {s3 : Int32}  {σ : Hp} {KL : ((Int32) ⊕ (Unit)) → Hp → Prop} (h : wpO (f_X6_retractsOnto_b44 x0 x1 x2 x3 s0 s1 s2 s3 σ) KL) (kn : ∀ (v : (Int32)) (σ : Hp), KL (Sum.inl v) σ → WW l γ 35 4 ad shC 11 [(0, .ref (ad x0)), (1, .ref (ad x1)), (2, .int x2), (3, .int v)] [] σ) (kx52 : ∀ (v : Unit) (σ : Hp), KL (Sum.inr v) σ → WW l γ 35 4 ad shC 52 [(0, .ref (ad x0))] [] σ) : WW l γ 35 4 ad shC 44 [(0, .ref (ad x0)), (1, .ref (ad x1)), (2, .int x2), (3, .int x3)] [.int s3, .int s2, .int s1, .ref (ad s0)] σ := by
  unfold f_X6_retractsOnto_b44 at h
  refine r_iand hc dX6_retractsOnto_44 ?_
  obtain ⟨σ1, eσ1, h⟩ := wp_g h
  refine r_iast hc eσ1 dX6_retractsOnto_45 ?_
  refine r_iincE hc (j := 3) (w := 1) (lv' := [(3, .int (x3 + 1)), (0, .ref (ad x0)), (1, .ref (ad x1)), (2, .int x2)]) rfl (by decide) rfl (by decide) rfl dX6_retractsOnto_46 ?_
  refine r_goto hc (tgt := 11) dX6_retractsOnto_49 (by decide) ?_
  refine r_sub [1, 2, 3, 0] (lv' := [(0, .ref (ad x0)), (1, .ref (ad x1)), (2, .int x2), (3, .int (x3 + 1))]) rfl ?_
  have h := wp_v h
  exact kn (x3 + 1) _ h
noncomputable def f_X6_retractsOnto_L11 (x0 : Nat) (x1 : Nat) (x2 : Int32) (v : (Int32)) (σ : Hp) : Option (((Int32) ⊕ (Unit)) × Hp) := gO (getI shC 1 x1 0 σ) fun v1 => if v1 ≤ v then (some (Sum.inr (), σ)) else (gO (getR shC 6 x0 7 σ) fun v2 => gO (getR shC 4 v2 2 σ) fun v3 => gO (aldI shC 0 v3 v σ) fun v4 => bO (f_X6_has x2 v σ) fun r5 σ6 => if r5 = 0 then (f_X6_retractsOnto_b44 x0 x1 x2 v v3 v v4 x2 σ6) else (f_X6_retractsOnto_b44 x0 x1 x2 v v3 v v4 ((1 : Int32) <<< (v &&& 31)) σ6))
set_option maxRecDepth 100000 in
set_option maxHeartbeats 4000000 in
theorem t_X6_retractsOnto_L11 {l : Launch} {γ : Gm} {ad : Nat → Nat} {K : Option Value → Hp → Prop}  (hc : Cx l γ 35 4 ad shC RX6 cX6_retractsOnto (some .boolean) K) {x0 : Nat} {x1 : Nat} {x2 : Int32} {v : (Int32)} {σ : Hp} {KX : (Unit) → Hp → Prop} (h : wpO (wh (f_X6_retractsOnto_L11 x0 x1 x2) v σ) KX) (kx52 : ∀ (v : Unit) (σ : Hp), KX v σ → WW l γ 35 4 ad shC 52 [(0, .ref (ad x0))] [] σ) : WW l γ 35 4 ad shC 11 [(0, .ref (ad x0)), (1, .ref (ad x1)), (2, .int x2), (3, .int v)] [] σ := by
  refine wh_W (P := fun v σ => WW l γ 35 4 ad shC 11 [(0, .ref (ad x0)), (1, .ref (ad x1)), (2, .int x2), (3, .int v)] [] σ) (fun v σ h => ?_) h
  have kn : ∀ (v : (Int32)) (σ : Hp), WW l γ 35 4 ad shC 11 [(0, .ref (ad x0)), (1, .ref (ad x1)), (2, .int x2), (3, .int v)] [] σ → WW l γ 35 4 ad shC 11 [(0, .ref (ad x0)), (1, .ref (ad x1)), (2, .int x2), (3, .int v)] [] σ := fun _ _ h => h
  · unfold f_X6_retractsOnto_L11 at h
    refine r_iload_n hc 3 rfl rfl dX6_retractsOnto_11 ?_
    refine r_aload_n hc 1 rfl rfl dX6_retractsOnto_12 ?_
    obtain ⟨v1, ev1, h⟩ := wp_g h
    refine r_getI hc ev1 fl_X6_126 rfl dX6_retractsOnto_13 ?_
    refine r_icmp_ge hc (tgt := 52) dX6_retractsOnto_16 (by decide) (fun c => ?_) (fun c => ?_)
    · have h := wp_t c h
      refine r_sub [0] (lv' := [(0, .ref (ad x0))]) rfl ?_
      have h := wp_v h
      exact kx52 () _ h
    · have h := wp_f c h
      refine r_aload_n hc 0 rfl rfl dX6_retractsOnto_19 ?_
      obtain ⟨v2, ev2, h⟩ := wp_g h
      refine r_getR hc ev2 fl_X6_41 rfl dX6_retractsOnto_20 ?_
      obtain ⟨v3, ev3, h⟩ := wp_g h
      refine r_getR hc ev3 fl_X6_239 rfl dX6_retractsOnto_23 ?_
      refine r_iload_n hc 3 rfl rfl dX6_retractsOnto_26 ?_
      refine r_dup2 hc rfl rfl dX6_retractsOnto_27 ?_
      obtain ⟨v4, ev4, h⟩ := wp_g h
      refine r_iald hc ev4 dX6_retractsOnto_28 ?_
      refine r_iload_n hc 2 rfl rfl dX6_retractsOnto_29 ?_
      refine r_iload_n hc 3 rfl rfl dX6_retractsOnto_30 ?_
      obtain ⟨r5, σ6, er5, h⟩ := wp_b h
      refine r_callS hc ms_X6_has ml_X6_203 (c_X6_has er5) rfl rfl (by decide) rfl (Nat.le_of_ble_eq_true rfl) dX6_retractsOnto_31 ?_
      refine r_if_eq hc (tgt := 43) dX6_retractsOnto_34 (by decide) (fun c => ?_) (fun c => ?_)
      · have h := wp_t c h
        refine r_iload_n hc 2 rfl rfl dX6_retractsOnto_43 ?_
        exact t_X6_retractsOnto_b44 hc h kn kx52
      · have h := wp_f c h
        refine r_iconst hc (v := 1) (by decide) dX6_retractsOnto_37 ?_
        refine r_iload_n hc 3 rfl rfl dX6_retractsOnto_38 ?_
        refine r_ishl hc dX6_retractsOnto_39 ?_
        refine r_goto hc (tgt := 44) dX6_retractsOnto_40 (by decide) ?_
        exact t_X6_retractsOnto_b44 hc h kn kx52
noncomputable def f_X6_retractsOnto (x0 : Nat) (x1 : Nat) (x2 : Int32) (σ : Hp) : Option (Int32 × Hp) := gO (getR shC 6 x0 7 σ) fun v1 => gO (chk shC v1 4) fun _ => bO (f_X4_freely v1 x1 x1 σ) fun _ σ3 => bO (wh (f_X6_retractsOnto_L11 x0 x1 x2) 0 σ3) fun y5 σ6 => (gO (getR shC 6 x0 7 σ6) fun v7 => gO (chk shC v7 4) fun _ => bO (f_X4_finds v7 σ6) fun r8 σ9 => gO (zz r8) fun _ => some (r8, σ9))
set_option maxRecDepth 100000 in
set_option maxHeartbeats 4000000 in
theorem t_X6_retractsOnto {l : Launch} {γ : Gm} {ad : Nat → Nat} {K : Option Value → Hp → Prop} (hc : Cx l γ 35 4 ad shC RX6 cX6_retractsOnto (some .boolean) K) {x0 : Nat} {x1 : Nat} {x2 : Int32} {σ : Hp} (h : wpO (f_X6_retractsOnto x0 x1 x2 σ) (KI K)) : WW l γ 35 4 ad shC 0 [(0, .ref (ad x0)), (1, .ref (ad x1)), (2, .int x2)] [] σ := by
  unfold f_X6_retractsOnto at h
  refine r_aload_n hc 0 rfl rfl dX6_retractsOnto_0 ?_
  obtain ⟨v1, ev1, h⟩ := wp_g h
  refine r_getR hc ev1 fl_X6_41 rfl dX6_retractsOnto_1 ?_
  refine r_aload_n hc 1 rfl rfl dX6_retractsOnto_4 ?_
  refine r_aload_n hc 1 rfl rfl dX6_retractsOnto_5 ?_
  obtain ⟨_, ek4, h⟩ := wp_g h
  obtain ⟨_, σ3, er2, h⟩ := wp_b h
  refine r_callV hc (k0 := v1) mv_X4_freely ml_X6_216 (c_X4_freely er2) (chk_of ek4) cls_4.1 rfl rfl rfl (by decide) rfl (Nat.le_of_ble_eq_true rfl) dX6_retractsOnto_6 ?_
  refine r_iconst hc (v := 0) (by decide) dX6_retractsOnto_9 ?_
  refine r_istore_nE hc (i := 3) (lv' := [(3, .int 0), (0, .ref (ad x0)), (1, .ref (ad x1)), (2, .int x2)]) rfl rfl (by decide) rfl dX6_retractsOnto_10 ?_
  refine r_sub [1, 2, 3, 0] (lv' := [(0, .ref (ad x0)), (1, .ref (ad x1)), (2, .int x2), (3, .int 0)]) rfl ?_
  refine t_X6_retractsOnto_L11 hc (wp_bb h) ?_
  · intro y5 σ6 h
    refine r_aload_n hc 0 rfl rfl dX6_retractsOnto_52 ?_
    obtain ⟨v7, ev7, h⟩ := wp_g h
    refine r_getR hc ev7 fl_X6_41 rfl dX6_retractsOnto_53 ?_
    obtain ⟨_, ek10, h⟩ := wp_g h
    obtain ⟨r8, σ9, er8, h⟩ := wp_b h
    refine r_callV hc (k0 := v7) mv_X4_finds ml_X6_249 (c_X4_finds er8) (chk_of ek10) cls_4.1 rfl rfl rfl (by decide) rfl (Nat.le_of_ble_eq_true rfl) dX6_retractsOnto_56 ?_
    obtain ⟨_, ek11, h⟩ := wp_g h
    have h := wp_v h
    exact r_zret hc h (zz_of ek11) dX6_retractsOnto_59
theorem c_X6_retractsOnto {l : Launch} {x0 : Nat} {x1 : Nat} {x2 : Int32} {σ σ' : Hp} {r : Int32} (h : f_X6_retractsOnto x0 x1 x2 σ = some (r, σ')) : Mt l yX6_retractsOnto cX6_retractsOnto 4 (some .boolean) 35 shC (fun ad => [.ref (ad x0), .ref (ad x1), .int x2]) σ (fun ad => some (.int r)) σ' := mt_i (own := RX6) (by decide) rfl (fun _ => Nat.le_of_ble_eq_true rfl) (fun γ ad K hc hk => t_X6_retractsOnto hc ⟨_, _, h, hk⟩)

-- NetMaps.leastCore(LNetMaps$Net;)I
theorem dX6_leastCore_0 : decode cX6_leastCore 0 = .ok (.aload_n 1, 1) := by decide +kernel
theorem dX6_leastCore_1 : decode cX6_leastCore 1 = .ok (.invokevirtual 206, 3) := by decide +kernel
theorem dX6_leastCore_4 : decode cX6_leastCore 4 = .ok (.istore_n 2, 1) := by decide +kernel
theorem dX6_leastCore_5 : decode cX6_leastCore 5 = .ok (.iconst 1, 1) := by decide +kernel
theorem dX6_leastCore_6 : decode cX6_leastCore 6 = .ok (.istore_n 3, 1) := by decide +kernel
theorem dX6_leastCore_7 : decode cX6_leastCore 7 = .ok (.iload_n 3, 1) := by decide +kernel
theorem dX6_leastCore_8 : decode cX6_leastCore 8 = .ok (.aload_n 1, 1) := by decide +kernel
theorem dX6_leastCore_9 : decode cX6_leastCore 9 = .ok (.invokevirtual 206, 3) := by decide +kernel
theorem dX6_leastCore_12 : decode cX6_leastCore 12 = .ok (.if_icmp .ge 31, 3) := by decide +kernel
theorem dX6_leastCore_15 : decode cX6_leastCore 15 = .ok (.iload_n 3, 1) := by decide +kernel
theorem dX6_leastCore_16 : decode cX6_leastCore 16 = .ok (.invokestatic 132, 3) := by decide +kernel
theorem dX6_leastCore_19 : decode cX6_leastCore 19 = .ok (.iload_n 2, 1) := by decide +kernel
theorem dX6_leastCore_20 : decode cX6_leastCore 20 = .ok (.invokestatic 132, 3) := by decide +kernel
theorem dX6_leastCore_23 : decode cX6_leastCore 23 = .ok (.if_icmp .ge 14, 3) := by decide +kernel
theorem dX6_leastCore_26 : decode cX6_leastCore 26 = .ok (.aload_n 0, 1) := by decide +kernel
theorem dX6_leastCore_27 : decode cX6_leastCore 27 = .ok (.aload_n 1, 1) := by decide +kernel
theorem dX6_leastCore_28 : decode cX6_leastCore 28 = .ok (.iload_n 3, 1) := by decide +kernel
theorem dX6_leastCore_29 : decode cX6_leastCore 29 = .ok (.invokevirtual 288, 3) := by decide +kernel
theorem dX6_leastCore_32 : decode cX6_leastCore 32 = .ok (.ifCond .eq 5, 3) := by decide +kernel
theorem dX6_leastCore_35 : decode cX6_leastCore 35 = .ok (.iload_n 3, 1) := by decide +kernel
theorem dX6_leastCore_36 : decode cX6_leastCore 36 = .ok (.istore_n 2, 1) := by decide +kernel
theorem dX6_leastCore_37 : decode cX6_leastCore 37 = .ok (.iinc 3 1, 3) := by decide +kernel
theorem dX6_leastCore_40 : decode cX6_leastCore 40 = .ok (.goto (-33), 3) := by decide +kernel
theorem dX6_leastCore_43 : decode cX6_leastCore 43 = .ok (.iload_n 2, 1) := by decide +kernel
theorem dX6_leastCore_44 : decode cX6_leastCore 44 = .ok (.ireturn, 1) := by decide +kernel
noncomputable def f_X6_leastCore_b37 (x0 : Nat) (x1 : Nat) (x2 : Int32) (x3 : Int32) (σ : Hp) : Option (((Int32 × Int32) ⊕ (Int32)) × Hp) := some (Sum.inl (x2, (x3 + 1)), σ)
set_option maxRecDepth 100000 in
set_option maxHeartbeats 4000000 in
theorem t_X6_leastCore_b37 {l : Launch} {γ : Gm} {ad : Nat → Nat} {K : Option Value → Hp → Prop} (hc : Cx l γ 36 4 ad shC RX6 cX6_leastCore (some .int) K) {x0 : Nat} {x1 : Nat} {x2 : Int32} {x3 : Int32}  {σ : Hp} {KL : ((Int32 × Int32) ⊕ (Int32)) → Hp → Prop} (h : wpO (f_X6_leastCore_b37 x0 x1 x2 x3 σ) KL) (kn : ∀ (v : (Int32 × Int32)) (σ : Hp), KL (Sum.inl v) σ → WW l γ 36 4 ad shC 7 [(0, .ref (ad x0)), (1, .ref (ad x1)), (2, .int v.1), (3, .int v.2)] [] σ) (kx43 : ∀ (v : Int32) (σ : Hp), KL (Sum.inr v) σ → WW l γ 36 4 ad shC 43 [(2, .int v)] [] σ) : WW l γ 36 4 ad shC 37 [(0, .ref (ad x0)), (1, .ref (ad x1)), (2, .int x2), (3, .int x3)] [] σ := by
  unfold f_X6_leastCore_b37 at h
  refine r_iincE hc (j := 3) (w := 1) (lv' := [(3, .int (x3 + 1)), (0, .ref (ad x0)), (1, .ref (ad x1)), (2, .int x2)]) rfl (by decide) rfl (by decide) rfl dX6_leastCore_37 ?_
  refine r_goto hc (tgt := 7) dX6_leastCore_40 (by decide) ?_
  refine r_sub [1, 2, 3, 0] (lv' := [(0, .ref (ad x0)), (1, .ref (ad x1)), (2, .int x2), (3, .int (x3 + 1))]) rfl ?_
  have h := wp_v h
  exact kn (x2, (x3 + 1)) _ h
noncomputable def f_X6_leastCore_L7 (x0 : Nat) (x1 : Nat) (v : (Int32 × Int32)) (σ : Hp) : Option (((Int32 × Int32) ⊕ (Int32)) × Hp) := gO (chk shC x1 1) fun _ => bO (f_X1_all x1 σ) fun r1 σ2 => if r1 ≤ v.2 then (some (Sum.inr v.1, σ2)) else (bO (f_J6_bitCount_0f7a4 shC v.2 σ2) fun r4 σ5 => bO (f_J6_bitCount_0f7a4 shC v.1 σ5) fun r6 σ7 => if r6 ≤ r4 then (f_X6_leastCore_b37 x0 x1 v.1 v.2 σ7) else (gO (chk shC x0 6) fun _ => bO (f_X6_retractsOnto x0 x1 v.2 σ7) fun r8 σ9 => if r8 = 0 then (f_X6_leastCore_b37 x0 x1 v.1 v.2 σ9) else (f_X6_leastCore_b37 x0 x1 v.2 v.2 σ9)))
set_option maxRecDepth 100000 in
set_option maxHeartbeats 4000000 in
theorem t_X6_leastCore_L7 {l : Launch} {γ : Gm} {ad : Nat → Nat} {K : Option Value → Hp → Prop}  (hc : Cx l γ 36 4 ad shC RX6 cX6_leastCore (some .int) K) {x0 : Nat} {x1 : Nat} {v : (Int32 × Int32)} {σ : Hp} {KX : (Int32) → Hp → Prop} (h : wpO (wh (f_X6_leastCore_L7 x0 x1) v σ) KX) (kx43 : ∀ (v : Int32) (σ : Hp), KX v σ → WW l γ 36 4 ad shC 43 [(2, .int v)] [] σ) : WW l γ 36 4 ad shC 7 [(0, .ref (ad x0)), (1, .ref (ad x1)), (2, .int v.1), (3, .int v.2)] [] σ := by
  refine wh_W (P := fun v σ => WW l γ 36 4 ad shC 7 [(0, .ref (ad x0)), (1, .ref (ad x1)), (2, .int v.1), (3, .int v.2)] [] σ) (fun v σ h => ?_) h
  have kn : ∀ (v : (Int32 × Int32)) (σ : Hp), WW l γ 36 4 ad shC 7 [(0, .ref (ad x0)), (1, .ref (ad x1)), (2, .int v.1), (3, .int v.2)] [] σ → WW l γ 36 4 ad shC 7 [(0, .ref (ad x0)), (1, .ref (ad x1)), (2, .int v.1), (3, .int v.2)] [] σ := fun _ _ h => h
  · unfold f_X6_leastCore_L7 at h
    refine r_iload_n hc 3 rfl rfl dX6_leastCore_7 ?_
    refine r_aload_n hc 1 rfl rfl dX6_leastCore_8 ?_
    obtain ⟨_, ek3, h⟩ := wp_g h
    obtain ⟨r1, σ2, er1, h⟩ := wp_b h
    refine r_callV hc (k0 := x1) mv_X1_all ml_X6_206 (c_X1_all er1) (chk_of ek3) cls_1.1 rfl rfl rfl (by decide) rfl (Nat.le_of_ble_eq_true rfl) dX6_leastCore_9 ?_
    refine r_icmp_ge hc (tgt := 43) dX6_leastCore_12 (by decide) (fun c => ?_) (fun c => ?_)
    · have h := wp_t c h
      refine r_sub [2] (lv' := [(2, .int v.1)]) rfl ?_
      have h := wp_v h
      exact kx43 v.1 _ h
    · have h := wp_f c h
      refine r_iload_n hc 3 rfl rfl dX6_leastCore_15 ?_
      obtain ⟨r4, σ5, er4, h⟩ := wp_b h
      refine r_callS hc ms_J6_bitCount_0f7a4 ml_X6_132 (c_J6_bitCount_0f7a4 er4) rfl rfl (by decide) rfl (Nat.le_of_ble_eq_true rfl) dX6_leastCore_16 ?_
      refine r_iload_n hc 2 rfl rfl dX6_leastCore_19 ?_
      obtain ⟨r6, σ7, er6, h⟩ := wp_b h
      refine r_callS hc ms_J6_bitCount_0f7a4 ml_X6_132 (c_J6_bitCount_0f7a4 er6) rfl rfl (by decide) rfl (Nat.le_of_ble_eq_true rfl) dX6_leastCore_20 ?_
      refine r_icmp_ge hc (tgt := 37) dX6_leastCore_23 (by decide) (fun c => ?_) (fun c => ?_)
      · have h := wp_t c h
        exact t_X6_leastCore_b37 hc h kn kx43
      · have h := wp_f c h
        refine r_aload_n hc 0 rfl rfl dX6_leastCore_26 ?_
        refine r_aload_n hc 1 rfl rfl dX6_leastCore_27 ?_
        refine r_iload_n hc 3 rfl rfl dX6_leastCore_28 ?_
        obtain ⟨_, ek10, h⟩ := wp_g h
        obtain ⟨r8, σ9, er8, h⟩ := wp_b h
        refine r_callV hc (k0 := x0) mv_X6_retractsOnto ml_X6_288 (c_X6_retractsOnto er8) (chk_of ek10) cls_6.1 rfl rfl rfl (by decide) rfl (Nat.le_of_ble_eq_true rfl) dX6_leastCore_29 ?_
        refine r_if_eq hc (tgt := 37) dX6_leastCore_32 (by decide) (fun c => ?_) (fun c => ?_)
        · have h := wp_t c h
          exact t_X6_leastCore_b37 hc h kn kx43
        · have h := wp_f c h
          refine r_iload_n hc 3 rfl rfl dX6_leastCore_35 ?_
          refine r_istore_nE hc (i := 2) (lv' := [(2, .int v.2), (0, .ref (ad x0)), (1, .ref (ad x1)), (3, .int v.2)]) rfl rfl (by decide) rfl dX6_leastCore_36 ?_
          refine r_sub [1, 2, 0, 3] (lv' := [(0, .ref (ad x0)), (1, .ref (ad x1)), (2, .int v.2), (3, .int v.2)]) rfl ?_
          exact t_X6_leastCore_b37 hc h kn kx43
noncomputable def f_X6_leastCore (x0 : Nat) (x1 : Nat) (σ : Hp) : Option (Int32 × Hp) := gO (chk shC x1 1) fun _ => bO (f_X1_all x1 σ) fun r1 σ2 => bO (wh (f_X6_leastCore_L7 x0 x1) (r1, 1) σ2) fun y4 σ5 => (some (y4, σ5))
set_option maxRecDepth 100000 in
set_option maxHeartbeats 4000000 in
theorem t_X6_leastCore {l : Launch} {γ : Gm} {ad : Nat → Nat} {K : Option Value → Hp → Prop} (hc : Cx l γ 36 4 ad shC RX6 cX6_leastCore (some .int) K) {x0 : Nat} {x1 : Nat} {σ : Hp} (h : wpO (f_X6_leastCore x0 x1 σ) (KI K)) : WW l γ 36 4 ad shC 0 [(0, .ref (ad x0)), (1, .ref (ad x1))] [] σ := by
  unfold f_X6_leastCore at h
  refine r_aload_n hc 1 rfl rfl dX6_leastCore_0 ?_
  obtain ⟨_, ek3, h⟩ := wp_g h
  obtain ⟨r1, σ2, er1, h⟩ := wp_b h
  refine r_callV hc (k0 := x1) mv_X1_all ml_X6_206 (c_X1_all er1) (chk_of ek3) cls_1.1 rfl rfl rfl (by decide) rfl (Nat.le_of_ble_eq_true rfl) dX6_leastCore_1 ?_
  refine r_istore_nE hc (i := 2) (lv' := [(2, .int r1), (0, .ref (ad x0)), (1, .ref (ad x1))]) rfl rfl (by decide) rfl dX6_leastCore_4 ?_
  refine r_iconst hc (v := 1) (by decide) dX6_leastCore_5 ?_
  refine r_istore_nE hc (i := 3) (lv' := [(3, .int 1), (2, .int r1), (0, .ref (ad x0)), (1, .ref (ad x1))]) rfl rfl (by decide) rfl dX6_leastCore_6 ?_
  refine r_sub [2, 3, 1, 0] (lv' := [(0, .ref (ad x0)), (1, .ref (ad x1)), (2, .int r1), (3, .int 1)]) rfl ?_
  refine t_X6_leastCore_L7 hc (wp_bb h) ?_
  · intro y4 σ5 h
    refine r_iload_n hc 0 rfl rfl dX6_leastCore_43 ?_
    have h := wp_v h
    exact r_iret hc h dX6_leastCore_44
theorem c_X6_leastCore {l : Launch} {x0 : Nat} {x1 : Nat} {σ σ' : Hp} {r : Int32} (h : f_X6_leastCore x0 x1 σ = some (r, σ')) : Mt l yX6_leastCore cX6_leastCore 4 (some .int) 36 shC (fun ad => [.ref (ad x0), .ref (ad x1)]) σ (fun ad => some (.int r)) σ' := mt_i (own := RX6) (by decide) rfl (fun _ => Nat.le_of_ble_eq_true rfl) (fun γ ad K hc hk => t_X6_leastCore hc ⟨_, _, h, hk⟩)
