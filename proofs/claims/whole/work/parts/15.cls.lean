-- NetMaps.core(II)I
theorem dX6_core_0 : decode cX6_core 0 = .ok (.iload_n 1, 1) := by decide +kernel
theorem dX6_core_1 : decode cX6_core 1 = .ok (.invokestatic 76, 3) := by decide +kernel
theorem dX6_core_4 : decode cX6_core 4 = .ok (.ifCond .ne 12, 3) := by decide +kernel
theorem dX6_core_7 : decode cX6_core 7 = .ok (.iload_n 2, 1) := by decide +kernel
theorem dX6_core_8 : decode cX6_core 8 = .ok (.ifCond .lt 8, 3) := by decide +kernel
theorem dX6_core_11 : decode cX6_core 11 = .ok (.iload_n 2, 1) := by decide +kernel
theorem dX6_core_12 : decode cX6_core 12 = .ok (.iconst 3, 1) := by decide +kernel
theorem dX6_core_13 : decode cX6_core 13 = .ok (.if_icmp .le 5, 3) := by decide +kernel
theorem dX6_core_16 : decode cX6_core 16 = .ok (.iconst (-1), 1) := by decide +kernel
theorem dX6_core_17 : decode cX6_core 17 = .ok (.ireturn, 1) := by decide +kernel
theorem dX6_core_18 : decode cX6_core 18 = .ok (.aload_n 0, 1) := by decide +kernel
theorem dX6_core_19 : decode cX6_core 19 = .ok (.iload_n 1, 1) := by decide +kernel
theorem dX6_core_20 : decode cX6_core 20 = .ok (.invokevirtual 91, 3) := by decide +kernel
theorem dX6_core_23 : decode cX6_core 23 = .ok (.astore_n 3, 1) := by decide +kernel
theorem dX6_core_24 : decode cX6_core 24 = .ok (.aload_n 3, 1) := by decide +kernel
theorem dX6_core_25 : decode cX6_core 25 = .ok (.invokevirtual 109, 3) := by decide +kernel
theorem dX6_core_28 : decode cX6_core 28 = .ok (.ifCond .eq 6, 3) := by decide +kernel
theorem dX6_core_31 : decode cX6_core 31 = .ok (.bipush (-2), 2) := by decide +kernel
theorem dX6_core_33 : decode cX6_core 33 = .ok (.ireturn, 1) := by decide +kernel
theorem dX6_core_34 : decode cX6_core 34 = .ok (.iload_n 2, 1) := by decide +kernel
theorem dX6_core_35 : decode cX6_core 35 = .ok (.tableswitch 56 0 2 #[25, 41, 47], 25) := by decide +kernel
theorem dX6_core_60 : decode cX6_core 60 = .ok (.aload_n 0, 1) := by decide +kernel
theorem dX6_core_61 : decode cX6_core 61 = .ok (.getfield 41, 3) := by decide +kernel
theorem dX6_core_64 : decode cX6_core 64 = .ok (.aload_n 3, 1) := by decide +kernel
theorem dX6_core_65 : decode cX6_core 65 = .ok (.invokevirtual 282, 3) := by decide +kernel
theorem dX6_core_68 : decode cX6_core 68 = .ok (.aload_n 0, 1) := by decide +kernel
theorem dX6_core_69 : decode cX6_core 69 = .ok (.getfield 41, 3) := by decide +kernel
theorem dX6_core_72 : decode cX6_core 72 = .ok (.invokevirtual 230, 3) := by decide +kernel
theorem dX6_core_75 : decode cX6_core 75 = .ok (.ireturn, 1) := by decide +kernel
theorem dX6_core_76 : decode cX6_core 76 = .ok (.aload_n 0, 1) := by decide +kernel
theorem dX6_core_77 : decode cX6_core 77 = .ok (.aload_n 3, 1) := by decide +kernel
theorem dX6_core_78 : decode cX6_core 78 = .ok (.invokevirtual 191, 3) := by decide +kernel
theorem dX6_core_81 : decode cX6_core 81 = .ok (.ireturn, 1) := by decide +kernel
theorem dX6_core_82 : decode cX6_core 82 = .ok (.aload_n 0, 1) := by decide +kernel
theorem dX6_core_83 : decode cX6_core 83 = .ok (.aload_n 3, 1) := by decide +kernel
theorem dX6_core_84 : decode cX6_core 84 = .ok (.invokevirtual 191, 3) := by decide +kernel
theorem dX6_core_87 : decode cX6_core 87 = .ok (.invokestatic 132, 3) := by decide +kernel
theorem dX6_core_90 : decode cX6_core 90 = .ok (.ireturn, 1) := by decide +kernel
theorem dX6_core_91 : decode cX6_core 91 = .ok (.aload_n 0, 1) := by decide +kernel
theorem dX6_core_92 : decode cX6_core 92 = .ok (.aload_n 3, 1) := by decide +kernel
theorem dX6_core_93 : decode cX6_core 93 = .ok (.invokevirtual 285, 3) := by decide +kernel
theorem dX6_core_96 : decode cX6_core 96 = .ok (.ireturn, 1) := by decide +kernel
noncomputable def f_X6_core_b16  (σ : Hp) : Option (Int32 × Hp) := some ((-1), σ)
set_option maxRecDepth 100000 in
set_option maxHeartbeats 4000000 in
theorem t_X6_core_b16 {l : Launch} {γ : Gm} {ad : Nat → Nat} {K : Option Value → Hp → Prop} (hc : Cx l γ 37 4 ad shC RX6 cX6_core (some .int) K)  {σ : Hp} (h : wpO (f_X6_core_b16  σ) (KI K)) : WW l γ 37 4 ad shC 16 [] [] σ := by
  unfold f_X6_core_b16 at h
  refine r_iconst hc (v := (-1)) (by decide) dX6_core_16 ?_
  have h := wp_v h
  exact r_iret hc h dX6_core_17
noncomputable def f_X6_core (x0 : Nat) (x1 : Int32) (x2 : Int32) (σ : Hp) : Option (Int32 × Hp) := bO (f_X6_noDrawer x1 σ) fun r1 σ2 => if r1 = 0 then (if x2 < 0 then (f_X6_core_b16  σ2) else (if x2 ≤ 3 then (gO (chk shC x0 6) fun _ => bO (f_X6_in x0 x1 σ2) fun r3 σ4 => gO (chk shC r3 1) fun _ => bO (f_X1_isEmpty r3 σ4) fun r6 σ7 => if r6 = 0 then (if x2 = 0 then (gO (getR shC 6 x0 7 σ7) fun v9 => gO (chk shC v9 4) fun _ => bO (f_X4_byRetraction v9 r3 σ7) fun _ σ11 => gO (getR shC 6 x0 7 σ11) fun v13 => gO (chk shC v13 4) fun _ => bO (f_X4_howMany v13 σ11) fun r14 σ15 => some (r14, σ15)) else (if x2 = 1 then (gO (chk shC x0 6) fun _ => bO (f_X6_leastCore x0 r3 σ7) fun r17 σ18 => some (r17, σ18)) else (if x2 = 2 then (gO (chk shC x0 6) fun _ => bO (f_X6_leastCore x0 r3 σ7) fun r20 σ21 => bO (f_J6_bitCount_0f7a4 shC r20 σ21) fun r23 σ24 => some (r23, σ24)) else (gO (chk shC x0 6) fun _ => bO (f_X6_retracts x0 r3 σ7) fun r25 σ26 => some (r25, σ26))))) else (some ((-2), σ7))) else (f_X6_core_b16  σ2))) else (f_X6_core_b16  σ2)
set_option maxRecDepth 100000 in
set_option maxHeartbeats 4000000 in
theorem t_X6_core {l : Launch} {γ : Gm} {ad : Nat → Nat} {K : Option Value → Hp → Prop} (hc : Cx l γ 37 4 ad shC RX6 cX6_core (some .int) K) {x0 : Nat} {x1 : Int32} {x2 : Int32} {σ : Hp} (h : wpO (f_X6_core x0 x1 x2 σ) (KI K)) : WW l γ 37 4 ad shC 0 [(0, .ref (ad x0)), (1, .int x1), (2, .int x2)] [] σ := by
  unfold f_X6_core at h
  refine r_iload_n hc 1 rfl rfl dX6_core_0 ?_
  obtain ⟨r1, σ2, er1, h⟩ := wp_b h
  refine r_callS hc ms_X6_noDrawer ml_X6_76 (c_X6_noDrawer er1) rfl rfl (by decide) rfl (Nat.le_of_ble_eq_true rfl) dX6_core_1 ?_
  refine r_if_ne hc (tgt := 16) dX6_core_4 (by decide) (fun c => ?_) (fun c => ?_)
  · have h := wp_f c h
    refine r_sub [] (lv' := []) rfl ?_
    exact t_X6_core_b16 hc h
  · have h := wp_t c h
    refine r_iload_n hc 2 rfl rfl dX6_core_7 ?_
    refine r_if_lt hc (tgt := 16) dX6_core_8 (by decide) (fun c => ?_) (fun c => ?_)
    · have h := wp_t c h
      refine r_sub [] (lv' := []) rfl ?_
      exact t_X6_core_b16 hc h
    · have h := wp_f c h
      refine r_iload_n hc 2 rfl rfl dX6_core_11 ?_
      refine r_iconst hc (v := 3) (by decide) dX6_core_12 ?_
      refine r_icmp_le hc (tgt := 18) dX6_core_13 (by decide) (fun c => ?_) (fun c => ?_)
      · have h := wp_t c h
        refine r_aload_n hc 0 rfl rfl dX6_core_18 ?_
        refine r_iload_n hc 1 rfl rfl dX6_core_19 ?_
        obtain ⟨_, ek5, h⟩ := wp_g h
        obtain ⟨r3, σ4, er3, h⟩ := wp_b h
        refine r_callV hc (k0 := x0) mv_X6_in ml_X6_91 (c_X6_in er3) (chk_of ek5) cls_6.1 rfl rfl rfl (by decide) rfl (Nat.le_of_ble_eq_true rfl) dX6_core_20 ?_
        refine r_astore_n hc (i := 3) (lv' := [(3, .ref (ad r3)), (0, .ref (ad x0)), (1, .int x1), (2, .int x2)]) rfl (by decide) rfl dX6_core_23 ?_
        refine r_aload_n hc 0 rfl rfl dX6_core_24 ?_
        obtain ⟨_, ek8, h⟩ := wp_g h
        obtain ⟨r6, σ7, er6, h⟩ := wp_b h
        refine r_callV hc (k0 := r3) mv_X1_isEmpty ml_X6_109 (c_X1_isEmpty er6) (chk_of ek8) cls_1.1 rfl rfl rfl (by decide) rfl (Nat.le_of_ble_eq_true rfl) dX6_core_25 ?_
        refine r_if_eq hc (tgt := 34) dX6_core_28 (by decide) (fun c => ?_) (fun c => ?_)
        · have h := wp_t c h
          refine r_iload_n hc 3 rfl rfl dX6_core_34 ?_
          by_cases c0 : x2 = 0
          · have h := wp_t c0 h
            refine r_tabIn hc (off := 25) (tgt := 60) dX6_core_35 c0 (by decide) (by decide) (by decide) (by decide) ?_
            refine r_aload_n hc 1 rfl rfl dX6_core_60 ?_
            obtain ⟨v9, ev9, h⟩ := wp_g h
            refine r_getR hc ev9 fl_X6_41 rfl dX6_core_61 ?_
            refine r_aload_n hc 0 rfl rfl dX6_core_64 ?_
            obtain ⟨_, ek12, h⟩ := wp_g h
            obtain ⟨_, σ11, er10, h⟩ := wp_b h
            refine r_callV hc (k0 := v9) mv_X4_byRetraction ml_X6_282 (c_X4_byRetraction er10) (chk_of ek12) cls_4.1 rfl rfl rfl (by decide) rfl (Nat.le_of_ble_eq_true rfl) dX6_core_65 ?_
            refine r_aload_n hc 1 rfl rfl dX6_core_68 ?_
            obtain ⟨v13, ev13, h⟩ := wp_g h
            refine r_getR hc ev13 fl_X6_41 rfl dX6_core_69 ?_
            obtain ⟨_, ek16, h⟩ := wp_g h
            obtain ⟨r14, σ15, er14, h⟩ := wp_b h
            refine r_callV hc (k0 := v13) mv_X4_howMany ml_X6_230 (c_X4_howMany er14) (chk_of ek16) cls_4.1 rfl rfl rfl (by decide) rfl (Nat.le_of_ble_eq_true rfl) dX6_core_72 ?_
            have h := wp_v h
            exact r_iret hc h dX6_core_75
          have h := wp_f c0 h
          by_cases c1 : x2 = 1
          · have h := wp_t c1 h
            refine r_tabIn hc (off := 41) (tgt := 76) dX6_core_35 c1 (by decide) (by decide) (by decide) (by decide) ?_
            refine r_aload_n hc 1 rfl rfl dX6_core_76 ?_
            refine r_aload_n hc 0 rfl rfl dX6_core_77 ?_
            obtain ⟨_, ek19, h⟩ := wp_g h
            obtain ⟨r17, σ18, er17, h⟩ := wp_b h
            refine r_callV hc (k0 := x0) mv_X6_leastCore ml_X6_191 (c_X6_leastCore er17) (chk_of ek19) cls_6.1 rfl rfl rfl (by decide) rfl (Nat.le_of_ble_eq_true rfl) dX6_core_78 ?_
            have h := wp_v h
            exact r_iret hc h dX6_core_81
          have h := wp_f c1 h
          by_cases c2 : x2 = 2
          · have h := wp_t c2 h
            refine r_tabIn hc (off := 47) (tgt := 82) dX6_core_35 c2 (by decide) (by decide) (by decide) (by decide) ?_
            refine r_aload_n hc 1 rfl rfl dX6_core_82 ?_
            refine r_aload_n hc 0 rfl rfl dX6_core_83 ?_
            obtain ⟨_, ek22, h⟩ := wp_g h
            obtain ⟨r20, σ21, er20, h⟩ := wp_b h
            refine r_callV hc (k0 := x0) mv_X6_leastCore ml_X6_191 (c_X6_leastCore er20) (chk_of ek22) cls_6.1 rfl rfl rfl (by decide) rfl (Nat.le_of_ble_eq_true rfl) dX6_core_84 ?_
            obtain ⟨r23, σ24, er23, h⟩ := wp_b h
            refine r_callS hc ms_J6_bitCount_0f7a4 ml_X6_132 (c_J6_bitCount_0f7a4 er23) rfl rfl (by decide) rfl (Nat.le_of_ble_eq_true rfl) dX6_core_87 ?_
            have h := wp_v h
            exact r_iret hc h dX6_core_90
          have h := wp_f c2 h
          refine r_tabOut hc (tgt := 91) dX6_core_35 (sw_out 0 3 (fun i hi => by rcases (show i = 0 ∨ i = 1 ∨ i = 2 by omega) with rfl | rfl | rfl <;> assumption)) (by decide) ?_
          refine r_aload_n hc 1 rfl rfl dX6_core_91 ?_
          refine r_aload_n hc 0 rfl rfl dX6_core_92 ?_
          obtain ⟨_, ek27, h⟩ := wp_g h
          obtain ⟨r25, σ26, er25, h⟩ := wp_b h
          refine r_callV hc (k0 := x0) mv_X6_retracts ml_X6_285 (c_X6_retracts er25) (chk_of ek27) cls_6.1 rfl rfl rfl (by decide) rfl (Nat.le_of_ble_eq_true rfl) dX6_core_93 ?_
          have h := wp_v h
          exact r_iret hc h dX6_core_96
        · have h := wp_f c h
          refine r_bipush hc (v := (-2)) (by decide) dX6_core_31 ?_
          have h := wp_v h
          exact r_iret hc h dX6_core_33
      · have h := wp_f c h
        refine r_sub [] (lv' := []) rfl ?_
        exact t_X6_core_b16 hc h
theorem c_X6_core {l : Launch} {x0 : Nat} {x1 : Int32} {x2 : Int32} {σ σ' : Hp} {r : Int32} (h : f_X6_core x0 x1 x2 σ = some (r, σ')) : Mt l yX6_core cX6_core 4 (some .int) 37 shC (fun ad => [.ref (ad x0), .int x1, .int x2]) σ (fun ad => some (.int r)) σ' := mt_i (own := RX6) (by decide) rfl (fun _ => Nat.le_of_ble_eq_true rfl) (fun γ ad K hc hk => t_X6_core hc ⟨_, _, h, hk⟩)

-- NetMaps.retraction(III)I
theorem dX6_retraction_0 : decode cX6_retraction 0 = .ok (.aload_n 0, 1) := by decide +kernel
theorem dX6_retraction_1 : decode cX6_retraction 1 = .ok (.iload_n 1, 1) := by decide +kernel
theorem dX6_retraction_2 : decode cX6_retraction 2 = .ok (.iload_n 3, 1) := by decide +kernel
theorem dX6_retraction_3 : decode cX6_retraction 3 = .ok (.invokevirtual 112, 3) := by decide +kernel
theorem dX6_retraction_6 : decode cX6_retraction 6 = .ok (.ifCond .ne 7, 3) := by decide +kernel
theorem dX6_retraction_9 : decode cX6_retraction 9 = .ok (.iload_n 2, 1) := by decide +kernel
theorem dX6_retraction_10 : decode cX6_retraction 10 = .ok (.ifCond .ge 5, 3) := by decide +kernel
theorem dX6_retraction_13 : decode cX6_retraction 13 = .ok (.iconst (-1), 1) := by decide +kernel
theorem dX6_retraction_14 : decode cX6_retraction 14 = .ok (.ireturn, 1) := by decide +kernel
theorem dX6_retraction_15 : decode cX6_retraction 15 = .ok (.aload_n 0, 1) := by decide +kernel
theorem dX6_retraction_16 : decode cX6_retraction 16 = .ok (.iload_n 1, 1) := by decide +kernel
theorem dX6_retraction_17 : decode cX6_retraction 17 = .ok (.invokevirtual 91, 3) := by decide +kernel
theorem dX6_retraction_20 : decode cX6_retraction 20 = .ok (.invokevirtual 109, 3) := by decide +kernel
theorem dX6_retraction_23 : decode cX6_retraction 23 = .ok (.ifCond .eq 6, 3) := by decide +kernel
theorem dX6_retraction_26 : decode cX6_retraction 26 = .ok (.bipush (-2), 2) := by decide +kernel
theorem dX6_retraction_28 : decode cX6_retraction 28 = .ok (.ireturn, 1) := by decide +kernel
theorem dX6_retraction_29 : decode cX6_retraction 29 = .ok (.aload_n 0, 1) := by decide +kernel
theorem dX6_retraction_30 : decode cX6_retraction 30 = .ok (.getfield 41, 3) := by decide +kernel
theorem dX6_retraction_33 : decode cX6_retraction 33 = .ok (.aload_n 0, 1) := by decide +kernel
theorem dX6_retraction_34 : decode cX6_retraction 34 = .ok (.iload_n 1, 1) := by decide +kernel
theorem dX6_retraction_35 : decode cX6_retraction 35 = .ok (.invokevirtual 91, 3) := by decide +kernel
theorem dX6_retraction_38 : decode cX6_retraction 38 = .ok (.invokevirtual 282, 3) := by decide +kernel
theorem dX6_retraction_41 : decode cX6_retraction 41 = .ok (.aload_n 0, 1) := by decide +kernel
theorem dX6_retraction_42 : decode cX6_retraction 42 = .ok (.getfield 41, 3) := by decide +kernel
theorem dX6_retraction_45 : decode cX6_retraction 45 = .ok (.iload_n 2, 1) := by decide +kernel
theorem dX6_retraction_46 : decode cX6_retraction 46 = .ok (.invokevirtual 233, 3) := by decide +kernel
theorem dX6_retraction_49 : decode cX6_retraction 49 = .ok (.ifCond .eq 15, 3) := by decide +kernel
theorem dX6_retraction_52 : decode cX6_retraction 52 = .ok (.aload_n 0, 1) := by decide +kernel
theorem dX6_retraction_53 : decode cX6_retraction 53 = .ok (.getfield 41, 3) := by decide +kernel
theorem dX6_retraction_56 : decode cX6_retraction 56 = .ok (.getfield 236, 3) := by decide +kernel
theorem dX6_retraction_59 : decode cX6_retraction 59 = .ok (.iload_n 3, 1) := by decide +kernel
theorem dX6_retraction_60 : decode cX6_retraction 60 = .ok (.iaload, 1) := by decide +kernel
theorem dX6_retraction_61 : decode cX6_retraction 61 = .ok (.goto 5, 3) := by decide +kernel
theorem dX6_retraction_64 : decode cX6_retraction 64 = .ok (.bipush (-3), 2) := by decide +kernel
theorem dX6_retraction_66 : decode cX6_retraction 66 = .ok (.ireturn, 1) := by decide +kernel
noncomputable def f_X6_retraction_b13  (σ : Hp) : Option (Int32 × Hp) := some ((-1), σ)
set_option maxRecDepth 100000 in
set_option maxHeartbeats 4000000 in
theorem t_X6_retraction_b13 {l : Launch} {γ : Gm} {ad : Nat → Nat} {K : Option Value → Hp → Prop} (hc : Cx l γ 35 4 ad shC RX6 cX6_retraction (some .int) K)  {σ : Hp} (h : wpO (f_X6_retraction_b13  σ) (KI K)) : WW l γ 35 4 ad shC 13 [] [] σ := by
  unfold f_X6_retraction_b13 at h
  refine r_iconst hc (v := (-1)) (by decide) dX6_retraction_13 ?_
  have h := wp_v h
  exact r_iret hc h dX6_retraction_14
noncomputable def f_X6_retraction_b66 (s0 : Int32) (σ : Hp) : Option (Int32 × Hp) := some (s0, σ)
set_option maxRecDepth 100000 in
set_option maxHeartbeats 4000000 in
theorem t_X6_retraction_b66 {l : Launch} {γ : Gm} {ad : Nat → Nat} {K : Option Value → Hp → Prop} (hc : Cx l γ 35 4 ad shC RX6 cX6_retraction (some .int) K) {s0 : Int32} {σ : Hp} (h : wpO (f_X6_retraction_b66 s0 σ) (KI K)) : WW l γ 35 4 ad shC 66 [] [.int s0] σ := by
  unfold f_X6_retraction_b66 at h
  have h := wp_v h
  exact r_iret hc h dX6_retraction_66
noncomputable def f_X6_retraction (x0 : Nat) (x1 : Int32) (x2 : Int32) (x3 : Int32) (σ : Hp) : Option (Int32 × Hp) := gO (chk shC x0 6) fun _ => bO (f_X6_noNode x0 x1 x3 σ) fun r1 σ2 => if r1 = 0 then (if 0 ≤ x2 then (gO (chk shC x0 6) fun _ => bO (f_X6_in x0 x1 σ2) fun r4 σ5 => gO (chk shC r4 1) fun _ => bO (f_X1_isEmpty r4 σ5) fun r7 σ8 => if r7 = 0 then (gO (getR shC 6 x0 7 σ8) fun v10 => gO (chk shC x0 6) fun _ => bO (f_X6_in x0 x1 σ8) fun r11 σ12 => gO (chk shC v10 4) fun _ => bO (f_X4_byRetraction v10 r11 σ12) fun _ σ15 => gO (getR shC 6 x0 7 σ15) fun v17 => gO (chk shC v17 4) fun _ => bO (f_X4_pick v17 x2 σ15) fun r18 σ19 => if r18 = 0 then (f_X6_retraction_b66 (-3) σ19) else (gO (getR shC 6 x0 7 σ19) fun v21 => gO (getR shC 4 v21 3 σ19) fun v22 => gO (aldI shC 0 v22 x3 σ19) fun v23 => f_X6_retraction_b66 v23 σ19)) else (some ((-2), σ8))) else (f_X6_retraction_b13  σ2)) else (f_X6_retraction_b13  σ2)
set_option maxRecDepth 100000 in
set_option maxHeartbeats 4000000 in
theorem t_X6_retraction {l : Launch} {γ : Gm} {ad : Nat → Nat} {K : Option Value → Hp → Prop} (hc : Cx l γ 35 4 ad shC RX6 cX6_retraction (some .int) K) {x0 : Nat} {x1 : Int32} {x2 : Int32} {x3 : Int32} {σ : Hp} (h : wpO (f_X6_retraction x0 x1 x2 x3 σ) (KI K)) : WW l γ 35 4 ad shC 0 [(0, .ref (ad x0)), (1, .int x1), (2, .int x2), (3, .int x3)] [] σ := by
  unfold f_X6_retraction at h
  refine r_aload_n hc 0 rfl rfl dX6_retraction_0 ?_
  refine r_iload_n hc 1 rfl rfl dX6_retraction_1 ?_
  refine r_iload_n hc 3 rfl rfl dX6_retraction_2 ?_
  obtain ⟨_, ek3, h⟩ := wp_g h
  obtain ⟨r1, σ2, er1, h⟩ := wp_b h
  refine r_callV hc (k0 := x0) mv_X6_noNode ml_X6_112 (c_X6_noNode er1) (chk_of ek3) cls_6.1 rfl rfl rfl (by decide) rfl (Nat.le_of_ble_eq_true rfl) dX6_retraction_3 ?_
  refine r_if_ne hc (tgt := 13) dX6_retraction_6 (by decide) (fun c => ?_) (fun c => ?_)
  · have h := wp_f c h
    refine r_sub [] (lv' := []) rfl ?_
    exact t_X6_retraction_b13 hc h
  · have h := wp_t c h
    refine r_iload_n hc 2 rfl rfl dX6_retraction_9 ?_
    refine r_if_ge hc (tgt := 15) dX6_retraction_10 (by decide) (fun c => ?_) (fun c => ?_)
    · have h := wp_t c h
      refine r_aload_n hc 0 rfl rfl dX6_retraction_15 ?_
      refine r_iload_n hc 1 rfl rfl dX6_retraction_16 ?_
      obtain ⟨_, ek6, h⟩ := wp_g h
      obtain ⟨r4, σ5, er4, h⟩ := wp_b h
      refine r_callV hc (k0 := x0) mv_X6_in ml_X6_91 (c_X6_in er4) (chk_of ek6) cls_6.1 rfl rfl rfl (by decide) rfl (Nat.le_of_ble_eq_true rfl) dX6_retraction_17 ?_
      obtain ⟨_, ek9, h⟩ := wp_g h
      obtain ⟨r7, σ8, er7, h⟩ := wp_b h
      refine r_callV hc (k0 := r4) mv_X1_isEmpty ml_X6_109 (c_X1_isEmpty er7) (chk_of ek9) cls_1.1 rfl rfl rfl (by decide) rfl (Nat.le_of_ble_eq_true rfl) dX6_retraction_20 ?_
      refine r_if_eq hc (tgt := 29) dX6_retraction_23 (by decide) (fun c => ?_) (fun c => ?_)
      · have h := wp_t c h
        refine r_aload_n hc 0 rfl rfl dX6_retraction_29 ?_
        obtain ⟨v10, ev10, h⟩ := wp_g h
        refine r_getR hc ev10 fl_X6_41 rfl dX6_retraction_30 ?_
        refine r_aload_n hc 0 rfl rfl dX6_retraction_33 ?_
        refine r_iload_n hc 1 rfl rfl dX6_retraction_34 ?_
        obtain ⟨_, ek13, h⟩ := wp_g h
        obtain ⟨r11, σ12, er11, h⟩ := wp_b h
        refine r_callV hc (k0 := x0) mv_X6_in ml_X6_91 (c_X6_in er11) (chk_of ek13) cls_6.1 rfl rfl rfl (by decide) rfl (Nat.le_of_ble_eq_true rfl) dX6_retraction_35 ?_
        obtain ⟨_, ek16, h⟩ := wp_g h
        obtain ⟨_, σ15, er14, h⟩ := wp_b h
        refine r_callV hc (k0 := v10) mv_X4_byRetraction ml_X6_282 (c_X4_byRetraction er14) (chk_of ek16) cls_4.1 rfl rfl rfl (by decide) rfl (Nat.le_of_ble_eq_true rfl) dX6_retraction_38 ?_
        refine r_aload_n hc 0 rfl rfl dX6_retraction_41 ?_
        obtain ⟨v17, ev17, h⟩ := wp_g h
        refine r_getR hc ev17 fl_X6_41 rfl dX6_retraction_42 ?_
        refine r_iload_n hc 2 rfl rfl dX6_retraction_45 ?_
        obtain ⟨_, ek20, h⟩ := wp_g h
        obtain ⟨r18, σ19, er18, h⟩ := wp_b h
        refine r_callV hc (k0 := v17) mv_X4_pick ml_X6_233 (c_X4_pick er18) (chk_of ek20) cls_4.1 rfl rfl rfl (by decide) rfl (Nat.le_of_ble_eq_true rfl) dX6_retraction_46 ?_
        refine r_if_eq hc (tgt := 64) dX6_retraction_49 (by decide) (fun c => ?_) (fun c => ?_)
        · have h := wp_t c h
          refine r_bipush hc (v := (-3)) (by decide) dX6_retraction_64 ?_
          refine r_sub [] (lv' := []) rfl ?_
          exact t_X6_retraction_b66 hc h
        · have h := wp_f c h
          refine r_aload_n hc 0 rfl rfl dX6_retraction_52 ?_
          obtain ⟨v21, ev21, h⟩ := wp_g h
          refine r_getR hc ev21 fl_X6_41 rfl dX6_retraction_53 ?_
          obtain ⟨v22, ev22, h⟩ := wp_g h
          refine r_getR hc ev22 fl_X6_236 rfl dX6_retraction_56 ?_
          refine r_iload_n hc 3 rfl rfl dX6_retraction_59 ?_
          obtain ⟨v23, ev23, h⟩ := wp_g h
          refine r_iald hc ev23 dX6_retraction_60 ?_
          refine r_goto hc (tgt := 66) dX6_retraction_61 (by decide) ?_
          refine r_sub [] (lv' := []) rfl ?_
          exact t_X6_retraction_b66 hc h
      · have h := wp_f c h
        refine r_bipush hc (v := (-2)) (by decide) dX6_retraction_26 ?_
        have h := wp_v h
        exact r_iret hc h dX6_retraction_28
    · have h := wp_f c h
      refine r_sub [] (lv' := []) rfl ?_
      exact t_X6_retraction_b13 hc h
theorem c_X6_retraction {l : Launch} {x0 : Nat} {x1 : Int32} {x2 : Int32} {x3 : Int32} {σ σ' : Hp} {r : Int32} (h : f_X6_retraction x0 x1 x2 x3 σ = some (r, σ')) : Mt l yX6_retraction cX6_retraction 4 (some .int) 35 shC (fun ad => [.ref (ad x0), .int x1, .int x2, .int x3]) σ (fun ad => some (.int r)) σ' := mt_i (own := RX6) (by decide) rfl (fun _ => Nat.le_of_ble_eq_true rfl) (fun γ ad K hc hk => t_X6_retraction hc ⟨_, _, h, hk⟩)

-- NetMaps$Crowd.gatherFrom(LNetMaps$Crowd;LNetMaps$Search;II)V
theorem dX0_gatherFrom_0 : decode cX0_gatherFrom 0 = .ok (.iload_n 2, 1) := by decide +kernel
theorem dX0_gatherFrom_1 : decode cX0_gatherFrom 1 = .ok (.aload_n 1, 1) := by decide +kernel
theorem dX0_gatherFrom_2 : decode cX0_gatherFrom 2 = .ok (.getfield 25, 3) := by decide +kernel
theorem dX0_gatherFrom_5 : decode cX0_gatherFrom 5 = .ok (.getfield 31, 3) := by decide +kernel
theorem dX0_gatherFrom_8 : decode cX0_gatherFrom 8 = .ok (.if_icmp .lt 34, 3) := by decide +kernel
theorem dX0_gatherFrom_11 : decode cX0_gatherFrom 11 = .ok (.aload_n 0, 1) := by decide +kernel
theorem dX0_gatherFrom_12 : decode cX0_gatherFrom 12 = .ok (.getfield 21, 3) := by decide +kernel
theorem dX0_gatherFrom_15 : decode cX0_gatherFrom 15 = .ok (.sipush 2000, 3) := by decide +kernel
theorem dX0_gatherFrom_18 : decode cX0_gatherFrom 18 = .ok (.if_icmp .ge 23, 3) := by decide +kernel
theorem dX0_gatherFrom_21 : decode cX0_gatherFrom 21 = .ok (.aload_n 0, 1) := by decide +kernel
theorem dX0_gatherFrom_22 : decode cX0_gatherFrom 22 = .ok (.getfield 9, 3) := by decide +kernel
theorem dX0_gatherFrom_25 : decode cX0_gatherFrom 25 = .ok (.aload_n 0, 1) := by decide +kernel
theorem dX0_gatherFrom_26 : decode cX0_gatherFrom 26 = .ok (.getfield 21, 3) := by decide +kernel
theorem dX0_gatherFrom_29 : decode cX0_gatherFrom 29 = .ok (.iload_n 3, 1) := by decide +kernel
theorem dX0_gatherFrom_30 : decode cX0_gatherFrom 30 = .ok (.iastore, 1) := by decide +kernel
theorem dX0_gatherFrom_31 : decode cX0_gatherFrom 31 = .ok (.aload_n 0, 1) := by decide +kernel
theorem dX0_gatherFrom_32 : decode cX0_gatherFrom 32 = .ok (.dup, 1) := by decide +kernel
theorem dX0_gatherFrom_33 : decode cX0_gatherFrom 33 = .ok (.getfield 21, 3) := by decide +kernel
theorem dX0_gatherFrom_36 : decode cX0_gatherFrom 36 = .ok (.iconst 1, 1) := by decide +kernel
theorem dX0_gatherFrom_37 : decode cX0_gatherFrom 37 = .ok (.iadd, 1) := by decide +kernel
theorem dX0_gatherFrom_38 : decode cX0_gatherFrom 38 = .ok (.putfield 21, 3) := by decide +kernel
theorem dX0_gatherFrom_41 : decode cX0_gatherFrom 41 = .ok (.return_, 1) := by decide +kernel
theorem dX0_gatherFrom_42 : decode cX0_gatherFrom 42 = .ok (.aload_n 1, 1) := by decide +kernel
theorem dX0_gatherFrom_43 : decode cX0_gatherFrom 43 = .ok (.iload_n 2, 1) := by decide +kernel
theorem dX0_gatherFrom_44 : decode cX0_gatherFrom 44 = .ok (.iconst 0, 1) := by decide +kernel
theorem dX0_gatherFrom_45 : decode cX0_gatherFrom 45 = .ok (.invokevirtual 47, 3) := by decide +kernel
theorem dX0_gatherFrom_48 : decode cX0_gatherFrom 48 = .ok (.istore 4, 2) := by decide +kernel
theorem dX0_gatherFrom_50 : decode cX0_gatherFrom 50 = .ok (.iconst 0, 1) := by decide +kernel
theorem dX0_gatherFrom_51 : decode cX0_gatherFrom 51 = .ok (.istore 5, 2) := by decide +kernel
theorem dX0_gatherFrom_53 : decode cX0_gatherFrom 53 = .ok (.iload 5, 2) := by decide +kernel
theorem dX0_gatherFrom_55 : decode cX0_gatherFrom 55 = .ok (.aload_n 1, 1) := by decide +kernel
theorem dX0_gatherFrom_56 : decode cX0_gatherFrom 56 = .ok (.getfield 37, 3) := by decide +kernel
theorem dX0_gatherFrom_59 : decode cX0_gatherFrom 59 = .ok (.getfield 31, 3) := by decide +kernel
theorem dX0_gatherFrom_62 : decode cX0_gatherFrom 62 = .ok (.if_icmp .ge 41, 3) := by decide +kernel
theorem dX0_gatherFrom_65 : decode cX0_gatherFrom 65 = .ok (.iload 4, 2) := by decide +kernel
theorem dX0_gatherFrom_67 : decode cX0_gatherFrom 67 = .ok (.iload 5, 2) := by decide +kernel
theorem dX0_gatherFrom_69 : decode cX0_gatherFrom 69 = .ok (.invokestatic 51, 3) := by decide +kernel
theorem dX0_gatherFrom_72 : decode cX0_gatherFrom 72 = .ok (.ifCond .eq 25, 3) := by decide +kernel
theorem dX0_gatherFrom_75 : decode cX0_gatherFrom 75 = .ok (.aload_n 1, 1) := by decide +kernel
theorem dX0_gatherFrom_76 : decode cX0_gatherFrom 76 = .ok (.getfield 55, 3) := by decide +kernel
theorem dX0_gatherFrom_79 : decode cX0_gatherFrom 79 = .ok (.iload_n 2, 1) := by decide +kernel
theorem dX0_gatherFrom_80 : decode cX0_gatherFrom 80 = .ok (.iload 5, 2) := by decide +kernel
theorem dX0_gatherFrom_82 : decode cX0_gatherFrom 82 = .ok (.iastore, 1) := by decide +kernel
theorem dX0_gatherFrom_83 : decode cX0_gatherFrom 83 = .ok (.aload_n 0, 1) := by decide +kernel
theorem dX0_gatherFrom_84 : decode cX0_gatherFrom 84 = .ok (.aload_n 1, 1) := by decide +kernel
theorem dX0_gatherFrom_85 : decode cX0_gatherFrom 85 = .ok (.iload_n 2, 1) := by decide +kernel
theorem dX0_gatherFrom_86 : decode cX0_gatherFrom 86 = .ok (.iconst 1, 1) := by decide +kernel
theorem dX0_gatherFrom_87 : decode cX0_gatherFrom 87 = .ok (.iadd, 1) := by decide +kernel
theorem dX0_gatherFrom_88 : decode cX0_gatherFrom 88 = .ok (.iload_n 3, 1) := by decide +kernel
theorem dX0_gatherFrom_89 : decode cX0_gatherFrom 89 = .ok (.iconst 3, 1) := by decide +kernel
theorem dX0_gatherFrom_90 : decode cX0_gatherFrom 90 = .ok (.ishl, 1) := by decide +kernel
theorem dX0_gatherFrom_91 : decode cX0_gatherFrom 91 = .ok (.iload 5, 2) := by decide +kernel
theorem dX0_gatherFrom_93 : decode cX0_gatherFrom 93 = .ok (.ior, 1) := by decide +kernel
theorem dX0_gatherFrom_94 : decode cX0_gatherFrom 94 = .ok (.invokestatic 43, 3) := by decide +kernel
theorem dX0_gatherFrom_97 : decode cX0_gatherFrom 97 = .ok (.iinc 5 1, 3) := by decide +kernel
theorem dX0_gatherFrom_100 : decode cX0_gatherFrom 100 = .ok (.goto (-47), 3) := by decide +kernel
theorem dX0_gatherFrom_103 : decode cX0_gatherFrom 103 = .ok (.return_, 1) := by decide +kernel
noncomputable def f_X0_gatherFrom_b97 (rec : Nat → Nat → Int32 → Int32 → Hp → Option (Unit × Hp)) (x0 : Nat) (x1 : Nat) (x2 : Int32) (x3 : Int32) (x4 : Int32) (x5 : Int32) (σ : Hp) : Option (((Int32) ⊕ (Unit)) × Hp) := some (Sum.inl (x5 + 1), σ)
set_option maxRecDepth 100000 in
set_option maxHeartbeats 4000000 in
theorem t_X0_gatherFrom_b97 {l : Launch} {γ : Gm} {ad : Nat → Nat} {K : Option Value → Hp → Prop} {n : Nat} (hc : Cx l γ (2 + n + 1) 6 ad shC RX0 cX0_gatherFrom none K) {rec : Nat → Nat → Int32 → Int32 → Hp → Option (Unit × Hp)} (hrec : ∀ (x0 : Nat) (x1 : Nat) (x2 : Int32) (x3 : Int32) (σ σ' : Hp) (r : Unit), rec x0 x1 x2 x3 σ = some (r, σ') → Mt l yX0_gatherFrom cX0_gatherFrom 6 none (2 + n) shC (fun ad => [.ref (ad x0), .ref (ad x1), .int x2, .int x3]) σ (fun ad => none) σ') {x0 : Nat} {x1 : Nat} {x2 : Int32} {x3 : Int32} {x4 : Int32} {x5 : Int32}  {σ : Hp} {KL : ((Int32) ⊕ (Unit)) → Hp → Prop} (h : wpO (f_X0_gatherFrom_b97 rec x0 x1 x2 x3 x4 x5 σ) KL) (kn : ∀ (v : (Int32)) (σ : Hp), KL (Sum.inl v) σ → WW l γ (2 + n + 1) 6 ad shC 53 [(0, .ref (ad x0)), (1, .ref (ad x1)), (2, .int x2), (3, .int x3), (4, .int x4), (5, .int v)] [] σ) (kx103 : ∀ (v : Unit) (σ : Hp), KL (Sum.inr v) σ → WW l γ (2 + n + 1) 6 ad shC 103 [] [] σ) : WW l γ (2 + n + 1) 6 ad shC 97 [(0, .ref (ad x0)), (1, .ref (ad x1)), (2, .int x2), (3, .int x3), (4, .int x4), (5, .int x5)] [] σ := by
  unfold f_X0_gatherFrom_b97 at h
  refine r_iincE hc (j := 5) (w := 1) (lv' := [(5, .int (x5 + 1)), (0, .ref (ad x0)), (1, .ref (ad x1)), (2, .int x2), (3, .int x3), (4, .int x4)]) rfl (by decide) rfl (by decide) rfl dX0_gatherFrom_97 ?_
  refine r_goto hc (tgt := 53) dX0_gatherFrom_100 (by decide) ?_
  refine r_sub [1, 2, 3, 4, 5, 0] (lv' := [(0, .ref (ad x0)), (1, .ref (ad x1)), (2, .int x2), (3, .int x3), (4, .int x4), (5, .int (x5 + 1))]) rfl ?_
  have h := wp_v h
  exact kn (x5 + 1) _ h
noncomputable def f_X0_gatherFrom_L53 (rec : Nat → Nat → Int32 → Int32 → Hp → Option (Unit × Hp)) (x0 : Nat) (x1 : Nat) (x2 : Int32) (x3 : Int32) (x4 : Int32) (v : (Int32)) (σ : Hp) : Option (((Int32) ⊕ (Unit)) × Hp) := gO (getR shC 4 x1 1 σ) fun v1 => gO (getI shC 1 v1 0 σ) fun v2 => if v2 ≤ v then (some (Sum.inr (), σ)) else (bO (f_X6_has x4 v σ) fun r3 σ4 => if r3 = 0 then (f_X0_gatherFrom_b97 rec x0 x1 x2 x3 x4 v σ4) else (gO (getR shC 4 x1 3 σ4) fun v5 => gO (astI shC 0 v5 x2 v σ4) fun σ6 => bO (rec x0 x1 (x2 + 1) ((x3 <<< (3 &&& 31)) ||| v) σ6) fun _ σ8 => f_X0_gatherFrom_b97 rec x0 x1 x2 x3 x4 v σ8))
set_option maxRecDepth 100000 in
set_option maxHeartbeats 4000000 in
theorem t_X0_gatherFrom_L53 {l : Launch} {γ : Gm} {ad : Nat → Nat} {K : Option Value → Hp → Prop} {n : Nat} (hc : Cx l γ (2 + n + 1) 6 ad shC RX0 cX0_gatherFrom none K) {rec : Nat → Nat → Int32 → Int32 → Hp → Option (Unit × Hp)} (hrec : ∀ (x0 : Nat) (x1 : Nat) (x2 : Int32) (x3 : Int32) (σ σ' : Hp) (r : Unit), rec x0 x1 x2 x3 σ = some (r, σ') → Mt l yX0_gatherFrom cX0_gatherFrom 6 none (2 + n) shC (fun ad => [.ref (ad x0), .ref (ad x1), .int x2, .int x3]) σ (fun ad => none) σ') {x0 : Nat} {x1 : Nat} {x2 : Int32} {x3 : Int32} {x4 : Int32} {v : (Int32)} {σ : Hp} {KX : (Unit) → Hp → Prop} (h : wpO (wh (f_X0_gatherFrom_L53 rec x0 x1 x2 x3 x4) v σ) KX) (kx103 : ∀ (v : Unit) (σ : Hp), KX v σ → WW l γ (2 + n + 1) 6 ad shC 103 [] [] σ) : WW l γ (2 + n + 1) 6 ad shC 53 [(0, .ref (ad x0)), (1, .ref (ad x1)), (2, .int x2), (3, .int x3), (4, .int x4), (5, .int v)] [] σ := by
  refine wh_W (P := fun v σ => WW l γ (2 + n + 1) 6 ad shC 53 [(0, .ref (ad x0)), (1, .ref (ad x1)), (2, .int x2), (3, .int x3), (4, .int x4), (5, .int v)] [] σ) (fun v σ h => ?_) h
  have kn : ∀ (v : (Int32)) (σ : Hp), WW l γ (2 + n + 1) 6 ad shC 53 [(0, .ref (ad x0)), (1, .ref (ad x1)), (2, .int x2), (3, .int x3), (4, .int x4), (5, .int v)] [] σ → WW l γ (2 + n + 1) 6 ad shC 53 [(0, .ref (ad x0)), (1, .ref (ad x1)), (2, .int x2), (3, .int x3), (4, .int x4), (5, .int v)] [] σ := fun _ _ h => h
  · unfold f_X0_gatherFrom_L53 at h
    refine r_iload hc 5 rfl dX0_gatherFrom_53 ?_
    refine r_aload_n hc 1 rfl rfl dX0_gatherFrom_55 ?_
    obtain ⟨v1, ev1, h⟩ := wp_g h
    refine r_getR hc ev1 fl_X0_37 rfl dX0_gatherFrom_56 ?_
    obtain ⟨v2, ev2, h⟩ := wp_g h
    refine r_getI hc ev2 fl_X0_31 rfl dX0_gatherFrom_59 ?_
    refine r_icmp_ge hc (tgt := 103) dX0_gatherFrom_62 (by decide) (fun c => ?_) (fun c => ?_)
    · have h := wp_t c h
      refine r_sub [] (lv' := []) rfl ?_
      have h := wp_v h
      exact kx103 () _ h
    · have h := wp_f c h
      refine r_iload hc 4 rfl dX0_gatherFrom_65 ?_
      refine r_iload hc 5 rfl dX0_gatherFrom_67 ?_
      obtain ⟨r3, σ4, er3, h⟩ := wp_b h
      refine r_callSN hc ms_X6_has nl_X0_51 (c_X6_has er3) rfl rfl (by omega) rfl (Nat.le_of_ble_eq_true rfl) dX0_gatherFrom_69 ?_
      refine r_if_eq hc (tgt := 97) dX0_gatherFrom_72 (by decide) (fun c => ?_) (fun c => ?_)
      · have h := wp_t c h
        exact t_X0_gatherFrom_b97 hc hrec h kn kx103
      · have h := wp_f c h
        refine r_aload_n hc 1 rfl rfl dX0_gatherFrom_75 ?_
        obtain ⟨v5, ev5, h⟩ := wp_g h
        refine r_getR hc ev5 fl_X0_55 rfl dX0_gatherFrom_76 ?_
        refine r_iload_n hc 2 rfl rfl dX0_gatherFrom_79 ?_
        refine r_iload hc 5 rfl dX0_gatherFrom_80 ?_
        obtain ⟨σ6, eσ6, h⟩ := wp_g h
        refine r_iast hc eσ6 dX0_gatherFrom_82 ?_
        refine r_aload_n hc 0 rfl rfl dX0_gatherFrom_83 ?_
        refine r_aload_n hc 1 rfl rfl dX0_gatherFrom_84 ?_
        refine r_iload_n hc 2 rfl rfl dX0_gatherFrom_85 ?_
        refine r_iconst hc (v := 1) (by decide) dX0_gatherFrom_86 ?_
        refine r_iadd hc dX0_gatherFrom_87 ?_
        refine r_iload_n hc 3 rfl rfl dX0_gatherFrom_88 ?_
        refine r_iconst hc (v := 3) (by decide) dX0_gatherFrom_89 ?_
        refine r_ishl hc dX0_gatherFrom_90 ?_
        refine r_iload hc 5 rfl dX0_gatherFrom_91 ?_
        refine r_ior hc dX0_gatherFrom_93 ?_
        obtain ⟨_, σ8, er7, h⟩ := wp_b h
        refine r_callS hc ms_X0_gatherFrom ml_X0_43 (hrec _ _ _ _ _ _ _ er7) rfl rfl (by omega) rfl (Nat.le_of_ble_eq_true rfl) dX0_gatherFrom_94 ?_
        exact t_X0_gatherFrom_b97 hc hrec h kn kx103
noncomputable def f_X0_gatherFrom_b41 (rec : Nat → Nat → Int32 → Int32 → Hp → Option (Unit × Hp))  (σ : Hp) : Option (Unit × Hp) := some ((), σ)
set_option maxRecDepth 100000 in
set_option maxHeartbeats 4000000 in
theorem t_X0_gatherFrom_b41 {l : Launch} {γ : Gm} {ad : Nat → Nat} {K : Option Value → Hp → Prop} {n : Nat} (hc : Cx l γ (2 + n + 1) 6 ad shC RX0 cX0_gatherFrom none K) {rec : Nat → Nat → Int32 → Int32 → Hp → Option (Unit × Hp)} (hrec : ∀ (x0 : Nat) (x1 : Nat) (x2 : Int32) (x3 : Int32) (σ σ' : Hp) (r : Unit), rec x0 x1 x2 x3 σ = some (r, σ') → Mt l yX0_gatherFrom cX0_gatherFrom 6 none (2 + n) shC (fun ad => [.ref (ad x0), .ref (ad x1), .int x2, .int x3]) σ (fun ad => none) σ')  {σ : Hp} (h : wpO (f_X0_gatherFrom_b41 rec  σ) (KU K)) : WW l γ (2 + n + 1) 6 ad shC 41 [] [] σ := by
  unfold f_X0_gatherFrom_b41 at h
  have h := wp_v h
  exact r_vret hc h dX0_gatherFrom_41
noncomputable def f_X0_gatherFrom_body (rec : Nat → Nat → Int32 → Int32 → Hp → Option (Unit × Hp)) (x0 : Nat) (x1 : Nat) (x2 : Int32) (x3 : Int32) (σ : Hp) : Option (Unit × Hp) := gO (getR shC 4 x1 0 σ) fun v1 => gO (getI shC 1 v1 0 σ) fun v2 => if x2 < v2 then (gO (chk shC x1 4) fun _ => bO (f_X4_choices x1 x2 0 σ) fun r3 σ4 => bO (wh (f_X0_gatherFrom_L53 rec x0 x1 x2 x3 r3) 0 σ4) fun y6 σ7 => (some ((), σ7))) else (gO (getI shC 0 x0 0 σ) fun v8 => if 2000 ≤ v8 then (f_X0_gatherFrom_b41 rec  σ) else (gO (getR shC 0 x0 3 σ) fun v9 => gO (getI shC 0 x0 0 σ) fun v10 => gO (astI shC 0 v9 v10 x3 σ) fun σ11 => gO (getI shC 0 x0 0 σ11) fun v12 => gO (putI shC 0 x0 0 (v12 + 1) σ11) fun σ13 => f_X0_gatherFrom_b41 rec  σ13))
set_option maxRecDepth 100000 in
set_option maxHeartbeats 4000000 in
theorem t_X0_gatherFrom {l : Launch} {γ : Gm} {ad : Nat → Nat} {K : Option Value → Hp → Prop} {n : Nat} (hc : Cx l γ (2 + n + 1) 6 ad shC RX0 cX0_gatherFrom none K) {rec : Nat → Nat → Int32 → Int32 → Hp → Option (Unit × Hp)} (hrec : ∀ (x0 : Nat) (x1 : Nat) (x2 : Int32) (x3 : Int32) (σ σ' : Hp) (r : Unit), rec x0 x1 x2 x3 σ = some (r, σ') → Mt l yX0_gatherFrom cX0_gatherFrom 6 none (2 + n) shC (fun ad => [.ref (ad x0), .ref (ad x1), .int x2, .int x3]) σ (fun ad => none) σ') {x0 : Nat} {x1 : Nat} {x2 : Int32} {x3 : Int32} {σ : Hp} (h : wpO (f_X0_gatherFrom_body rec x0 x1 x2 x3 σ) (KU K)) : WW l γ (2 + n + 1) 6 ad shC 0 [(0, .ref (ad x0)), (1, .ref (ad x1)), (2, .int x2), (3, .int x3)] [] σ := by
  unfold f_X0_gatherFrom_body at h
  refine r_iload_n hc 2 rfl rfl dX0_gatherFrom_0 ?_
  refine r_aload_n hc 1 rfl rfl dX0_gatherFrom_1 ?_
  obtain ⟨v1, ev1, h⟩ := wp_g h
  refine r_getR hc ev1 fl_X0_25 rfl dX0_gatherFrom_2 ?_
  obtain ⟨v2, ev2, h⟩ := wp_g h
  refine r_getI hc ev2 fl_X0_31 rfl dX0_gatherFrom_5 ?_
  refine r_icmp_lt hc (tgt := 42) dX0_gatherFrom_8 (by decide) (fun c => ?_) (fun c => ?_)
  · have h := wp_t c h
    refine r_aload_n hc 1 rfl rfl dX0_gatherFrom_42 ?_
    refine r_iload_n hc 2 rfl rfl dX0_gatherFrom_43 ?_
    refine r_iconst hc (v := 0) (by decide) dX0_gatherFrom_44 ?_
    obtain ⟨_, ek5, h⟩ := wp_g h
    obtain ⟨r3, σ4, er3, h⟩ := wp_b h
    refine r_callV hc (k0 := x1) mv_X4_choices ml_X0_47 (c_X4_choices er3) (chk_of ek5) cls_4.1 rfl rfl rfl (by omega) rfl (Nat.le_of_ble_eq_true rfl) dX0_gatherFrom_45 ?_
    refine r_istoreE hc (i := 4) (lv' := [(4, .int r3), (0, .ref (ad x0)), (1, .ref (ad x1)), (2, .int x2), (3, .int x3)]) rfl (by decide) rfl dX0_gatherFrom_48 ?_
    refine r_iconst hc (v := 0) (by decide) dX0_gatherFrom_50 ?_
    refine r_istoreE hc (i := 5) (lv' := [(5, .int 0), (4, .int r3), (0, .ref (ad x0)), (1, .ref (ad x1)), (2, .int x2), (3, .int x3)]) rfl (by decide) rfl dX0_gatherFrom_51 ?_
    refine r_sub [2, 3, 4, 5, 1, 0] (lv' := [(0, .ref (ad x0)), (1, .ref (ad x1)), (2, .int x2), (3, .int x3), (4, .int r3), (5, .int 0)]) rfl ?_
    refine t_X0_gatherFrom_L53 hc hrec (wp_bb h) ?_
    · intro y6 σ7 h
      have h := wp_v h
      exact r_vret hc h dX0_gatherFrom_103
  · have h := wp_f c h
    refine r_aload_n hc 0 rfl rfl dX0_gatherFrom_11 ?_
    obtain ⟨v8, ev8, h⟩ := wp_g h
    refine r_getI hc ev8 fl_X0_21 rfl dX0_gatherFrom_12 ?_
    refine r_sipush hc (v := 2000) (by decide) dX0_gatherFrom_15 ?_
    refine r_icmp_ge hc (tgt := 41) dX0_gatherFrom_18 (by decide) (fun c => ?_) (fun c => ?_)
    · have h := wp_t c h
      refine r_sub [] (lv' := []) rfl ?_
      exact t_X0_gatherFrom_b41 hc hrec h
    · have h := wp_f c h
      refine r_aload_n hc 0 rfl rfl dX0_gatherFrom_21 ?_
      obtain ⟨v9, ev9, h⟩ := wp_g h
      refine r_getR hc ev9 fl_X0_9 rfl dX0_gatherFrom_22 ?_
      refine r_aload_n hc 0 rfl rfl dX0_gatherFrom_25 ?_
      obtain ⟨v10, ev10, h⟩ := wp_g h
      refine r_getI hc ev10 fl_X0_21 rfl dX0_gatherFrom_26 ?_
      refine r_iload_n hc 3 rfl rfl dX0_gatherFrom_29 ?_
      obtain ⟨σ11, eσ11, h⟩ := wp_g h
      refine r_iast hc eσ11 dX0_gatherFrom_30 ?_
      refine r_aload_n hc 0 rfl rfl dX0_gatherFrom_31 ?_
      refine r_dup hc rfl dX0_gatherFrom_32 ?_
      obtain ⟨v12, ev12, h⟩ := wp_g h
      refine r_getI hc ev12 fl_X0_21 rfl dX0_gatherFrom_33 ?_
      refine r_iconst hc (v := 1) (by decide) dX0_gatherFrom_36 ?_
      refine r_iadd hc dX0_gatherFrom_37 ?_
      obtain ⟨σ13, eσ13, h⟩ := wp_g h
      refine r_putI hc eσ13 fp_X0_21 rfl dX0_gatherFrom_38 ?_
      refine r_sub [] (lv' := []) rfl ?_
      exact t_X0_gatherFrom_b41 hc hrec h
noncomputable def f_X0_gatherFrom : Nat → Nat → Nat → Int32 → Int32 → Hp → Option (Unit × Hp)
  | 0 => fun _ _ _ _ _ => none
  | n + 1 => f_X0_gatherFrom_body (f_X0_gatherFrom n)
theorem cn_X0_gatherFrom {l : Launch} : ∀ (n : Nat) (x0 : Nat) (x1 : Nat) (x2 : Int32) (x3 : Int32) (σ σ' : Hp) (r : Unit), f_X0_gatherFrom n x0 x1 x2 x3 σ = some (r, σ') → Mt l yX0_gatherFrom cX0_gatherFrom 6 none (2 + n) shC (fun ad => [.ref (ad x0), .ref (ad x1), .int x2, .int x3]) σ (fun ad => none) σ' := by
  intro n
  induction n with
  | zero => intro x0 x1 x2 x3 σ σ' r h; cases h
  | succ n ih => intro x0 x1 x2 x3 σ σ' r h; exact mt_i (own := RX0) (by decide) rfl (fun _ => Nat.le_of_ble_eq_true rfl) (fun γ ad K hc hk => t_X0_gatherFrom (n := n) hc ih ⟨_, _, h, hk⟩)
theorem c_X0_gatherFrom {l : Launch} {x0 : Nat} {x1 : Nat} {x2 : Int32} {x3 : Int32} {σ σ' : Hp} {r : Unit} (h : f_X0_gatherFrom 30 x0 x1 x2 x3 σ = some (r, σ')) : Mt l yX0_gatherFrom cX0_gatherFrom 6 none 32 shC (fun ad => [.ref (ad x0), .ref (ad x1), .int x2, .int x3]) σ (fun ad => none) σ' := cn_X0_gatherFrom 30 x0 x1 x2 x3 σ σ' r h

-- NetMaps$Crowd.gatherAll(LNetMaps$Search;I)V
theorem dX0_gatherAll_0 : decode cX0_gatherAll 0 = .ok (.aload_n 0, 1) := by decide +kernel
theorem dX0_gatherAll_1 : decode cX0_gatherAll 1 = .ok (.iconst 0, 1) := by decide +kernel
theorem dX0_gatherAll_2 : decode cX0_gatherAll 2 = .ok (.putfield 21, 3) := by decide +kernel
theorem dX0_gatherAll_5 : decode cX0_gatherAll 5 = .ok (.aload_n 0, 1) := by decide +kernel
theorem dX0_gatherAll_6 : decode cX0_gatherAll 6 = .ok (.aload_n 1, 1) := by decide +kernel
theorem dX0_gatherAll_7 : decode cX0_gatherAll 7 = .ok (.getfield 25, 3) := by decide +kernel
theorem dX0_gatherAll_10 : decode cX0_gatherAll 10 = .ok (.getfield 31, 3) := by decide +kernel
theorem dX0_gatherAll_13 : decode cX0_gatherAll 13 = .ok (.putfield 36, 3) := by decide +kernel
theorem dX0_gatherAll_16 : decode cX0_gatherAll 16 = .ok (.aload_n 0, 1) := by decide +kernel
theorem dX0_gatherAll_17 : decode cX0_gatherAll 17 = .ok (.aload_n 1, 1) := by decide +kernel
theorem dX0_gatherAll_18 : decode cX0_gatherAll 18 = .ok (.getfield 37, 3) := by decide +kernel
theorem dX0_gatherAll_21 : decode cX0_gatherAll 21 = .ok (.getfield 31, 3) := by decide +kernel
theorem dX0_gatherAll_24 : decode cX0_gatherAll 24 = .ok (.putfield 40, 3) := by decide +kernel
theorem dX0_gatherAll_27 : decode cX0_gatherAll 27 = .ok (.iload_n 2, 1) := by decide +kernel
theorem dX0_gatherAll_28 : decode cX0_gatherAll 28 = .ok (.ifCond .le 10, 3) := by decide +kernel
theorem dX0_gatherAll_31 : decode cX0_gatherAll 31 = .ok (.aload_n 0, 1) := by decide +kernel
theorem dX0_gatherAll_32 : decode cX0_gatherAll 32 = .ok (.aload_n 1, 1) := by decide +kernel
theorem dX0_gatherAll_33 : decode cX0_gatherAll 33 = .ok (.iconst 0, 1) := by decide +kernel
theorem dX0_gatherAll_34 : decode cX0_gatherAll 34 = .ok (.iconst 0, 1) := by decide +kernel
theorem dX0_gatherAll_35 : decode cX0_gatherAll 35 = .ok (.invokestatic 43, 3) := by decide +kernel
theorem dX0_gatherAll_38 : decode cX0_gatherAll 38 = .ok (.iconst 0, 1) := by decide +kernel
theorem dX0_gatherAll_39 : decode cX0_gatherAll 39 = .ok (.istore_n 3, 1) := by decide +kernel
theorem dX0_gatherAll_40 : decode cX0_gatherAll 40 = .ok (.iload_n 3, 1) := by decide +kernel
theorem dX0_gatherAll_41 : decode cX0_gatherAll 41 = .ok (.sipush 2000, 3) := by decide +kernel
theorem dX0_gatherAll_44 : decode cX0_gatherAll 44 = .ok (.if_icmp .ge 16, 3) := by decide +kernel
theorem dX0_gatherAll_47 : decode cX0_gatherAll 47 = .ok (.aload_n 0, 1) := by decide +kernel
theorem dX0_gatherAll_48 : decode cX0_gatherAll 48 = .ok (.getfield 15, 3) := by decide +kernel
theorem dX0_gatherAll_51 : decode cX0_gatherAll 51 = .ok (.iload_n 3, 1) := by decide +kernel
theorem dX0_gatherAll_52 : decode cX0_gatherAll 52 = .ok (.iconst (-1), 1) := by decide +kernel
theorem dX0_gatherAll_53 : decode cX0_gatherAll 53 = .ok (.iastore, 1) := by decide +kernel
theorem dX0_gatherAll_54 : decode cX0_gatherAll 54 = .ok (.iinc 3 1, 3) := by decide +kernel
theorem dX0_gatherAll_57 : decode cX0_gatherAll 57 = .ok (.goto (-17), 3) := by decide +kernel
theorem dX0_gatherAll_60 : decode cX0_gatherAll 60 = .ok (.return_, 1) := by decide +kernel
noncomputable def f_X0_gatherAll_L40 (x0 : Nat) (v : (Int32)) (σ : Hp) : Option (((Int32) ⊕ (Unit)) × Hp) := if 2000 ≤ v then (some (Sum.inr (), σ)) else (gO (getR shC 0 x0 4 σ) fun v1 => gO (astI shC 0 v1 v (-1) σ) fun σ2 => some (Sum.inl (v + 1), σ2))
set_option maxRecDepth 100000 in
set_option maxHeartbeats 4000000 in
theorem t_X0_gatherAll_L40 {l : Launch} {γ : Gm} {ad : Nat → Nat} {K : Option Value → Hp → Prop}  (hc : Cx l γ 34 4 ad shC RX0 cX0_gatherAll none K) {x0 : Nat} {v : (Int32)} {σ : Hp} {KX : (Unit) → Hp → Prop} (h : wpO (wh (f_X0_gatherAll_L40 x0) v σ) KX) (kx60 : ∀ (v : Unit) (σ : Hp), KX v σ → WW l γ 34 4 ad shC 60 [] [] σ) : WW l γ 34 4 ad shC 40 [(0, .ref (ad x0)), (3, .int v)] [] σ := by
  refine wh_W (P := fun v σ => WW l γ 34 4 ad shC 40 [(0, .ref (ad x0)), (3, .int v)] [] σ) (fun v σ h => ?_) h
  have kn : ∀ (v : (Int32)) (σ : Hp), WW l γ 34 4 ad shC 40 [(0, .ref (ad x0)), (3, .int v)] [] σ → WW l γ 34 4 ad shC 40 [(0, .ref (ad x0)), (3, .int v)] [] σ := fun _ _ h => h
  · unfold f_X0_gatherAll_L40 at h
    refine r_iload_n hc 1 rfl rfl dX0_gatherAll_40 ?_
    refine r_sipush hc (v := 2000) (by decide) dX0_gatherAll_41 ?_
    refine r_icmp_ge hc (tgt := 60) dX0_gatherAll_44 (by decide) (fun c => ?_) (fun c => ?_)
    · have h := wp_t c h
      refine r_sub [] (lv' := []) rfl ?_
      have h := wp_v h
      exact kx60 () _ h
    · have h := wp_f c h
      refine r_aload_n hc 0 rfl rfl dX0_gatherAll_47 ?_
      obtain ⟨v1, ev1, h⟩ := wp_g h
      refine r_getR hc ev1 fl_X0_15 rfl dX0_gatherAll_48 ?_
      refine r_iload_n hc 1 rfl rfl dX0_gatherAll_51 ?_
      refine r_iconst hc (v := (-1)) (by decide) dX0_gatherAll_52 ?_
      obtain ⟨σ2, eσ2, h⟩ := wp_g h
      refine r_iast hc eσ2 dX0_gatherAll_53 ?_
      refine r_iincE hc (j := 1) (w := 1) (lv' := [(3, .int (v + 1)), (0, .ref (ad x0))]) rfl (by decide) rfl (by decide) rfl dX0_gatherAll_54 ?_
      refine r_goto hc (tgt := 40) dX0_gatherAll_57 (by decide) ?_
      refine r_sub [1, 0] (lv' := [(0, .ref (ad x0)), (3, .int (v + 1))]) rfl ?_
      have h := wp_v h
      exact kn (v + 1) _ h
noncomputable def f_X0_gatherAll_b38 (x0 : Nat) (σ : Hp) : Option (Unit × Hp) := bO (wh (f_X0_gatherAll_L40 x0) 0 σ) fun y1 σ2 => (some ((), σ2))
set_option maxRecDepth 100000 in
set_option maxHeartbeats 4000000 in
theorem t_X0_gatherAll_b38 {l : Launch} {γ : Gm} {ad : Nat → Nat} {K : Option Value → Hp → Prop} (hc : Cx l γ 34 4 ad shC RX0 cX0_gatherAll none K) {x0 : Nat} {σ : Hp} (h : wpO (f_X0_gatherAll_b38 x0 σ) (KU K)) : WW l γ 34 4 ad shC 38 [(0, .ref (ad x0))] [] σ := by
  unfold f_X0_gatherAll_b38 at h
  refine r_iconst hc (v := 0) (by decide) dX0_gatherAll_38 ?_
  refine r_istore_nE hc (i := 3) (lv' := [(3, .int 0), (0, .ref (ad x0))]) rfl rfl (by decide) rfl dX0_gatherAll_39 ?_
  refine r_sub [1, 0] (lv' := [(0, .ref (ad x0)), (3, .int 0)]) rfl ?_
  refine t_X0_gatherAll_L40 hc (wp_bb h) ?_
  · intro y1 σ2 h
    have h := wp_v h
    exact r_vret hc h dX0_gatherAll_60
noncomputable def f_X0_gatherAll (x0 : Nat) (x1 : Nat) (x2 : Int32) (σ : Hp) : Option (Unit × Hp) := gO (putI shC 0 x0 0 0 σ) fun σ1 => gO (getR shC 4 x1 0 σ1) fun v2 => gO (getI shC 1 v2 0 σ1) fun v3 => gO (putI shC 0 x0 1 v3 σ1) fun σ4 => gO (getR shC 4 x1 1 σ4) fun v5 => gO (getI shC 1 v5 0 σ4) fun v6 => gO (putI shC 0 x0 2 v6 σ4) fun σ7 => if x2 ≤ 0 then (f_X0_gatherAll_b38 x0 σ7) else (bO (f_X0_gatherFrom 30 x0 x1 0 0 σ7) fun _ σ9 => f_X0_gatherAll_b38 x0 σ9)
set_option maxRecDepth 100000 in
set_option maxHeartbeats 4000000 in
theorem t_X0_gatherAll {l : Launch} {γ : Gm} {ad : Nat → Nat} {K : Option Value → Hp → Prop} (hc : Cx l γ 34 4 ad shC RX0 cX0_gatherAll none K) {x0 : Nat} {x1 : Nat} {x2 : Int32} {σ : Hp} (h : wpO (f_X0_gatherAll x0 x1 x2 σ) (KU K)) : WW l γ 34 4 ad shC 0 [(0, .ref (ad x0)), (1, .ref (ad x1)), (2, .int x2)] [] σ := by
  unfold f_X0_gatherAll at h
  refine r_aload_n hc 0 rfl rfl dX0_gatherAll_0 ?_
  refine r_iconst hc (v := 0) (by decide) dX0_gatherAll_1 ?_
  obtain ⟨σ1, eσ1, h⟩ := wp_g h
  refine r_putI hc eσ1 fp_X0_21 rfl dX0_gatherAll_2 ?_
  refine r_aload_n hc 0 rfl rfl dX0_gatherAll_5 ?_
  refine r_aload_n hc 1 rfl rfl dX0_gatherAll_6 ?_
  obtain ⟨v2, ev2, h⟩ := wp_g h
  refine r_getR hc ev2 fl_X0_25 rfl dX0_gatherAll_7 ?_
  obtain ⟨v3, ev3, h⟩ := wp_g h
  refine r_getI hc ev3 fl_X0_31 rfl dX0_gatherAll_10 ?_
  obtain ⟨σ4, eσ4, h⟩ := wp_g h
  refine r_putI hc eσ4 fp_X0_36 rfl dX0_gatherAll_13 ?_
  refine r_aload_n hc 0 rfl rfl dX0_gatherAll_16 ?_
  refine r_aload_n hc 1 rfl rfl dX0_gatherAll_17 ?_
  obtain ⟨v5, ev5, h⟩ := wp_g h
  refine r_getR hc ev5 fl_X0_37 rfl dX0_gatherAll_18 ?_
  obtain ⟨v6, ev6, h⟩ := wp_g h
  refine r_getI hc ev6 fl_X0_31 rfl dX0_gatherAll_21 ?_
  obtain ⟨σ7, eσ7, h⟩ := wp_g h
  refine r_putI hc eσ7 fp_X0_40 rfl dX0_gatherAll_24 ?_
  refine r_iload_n hc 2 rfl rfl dX0_gatherAll_27 ?_
  refine r_if_le hc (tgt := 38) dX0_gatherAll_28 (by decide) (fun c => ?_) (fun c => ?_)
  · have h := wp_t c h
    refine r_sub [0] (lv' := [(0, .ref (ad x0))]) rfl ?_
    exact t_X0_gatherAll_b38 hc h
  · have h := wp_f c h
    refine r_aload_n hc 0 rfl rfl dX0_gatherAll_31 ?_
    refine r_aload_n hc 1 rfl rfl dX0_gatherAll_32 ?_
    refine r_iconst hc (v := 0) (by decide) dX0_gatherAll_33 ?_
    refine r_iconst hc (v := 0) (by decide) dX0_gatherAll_34 ?_
    obtain ⟨_, σ9, er8, h⟩ := wp_b h
    refine r_callS hc ms_X0_gatherFrom ml_X0_43 (c_X0_gatherFrom er8) rfl rfl (by decide) rfl (Nat.le_of_ble_eq_true rfl) dX0_gatherAll_35 ?_
    refine r_sub [0] (lv' := [(0, .ref (ad x0))]) rfl ?_
    exact t_X0_gatherAll_b38 hc h
theorem c_X0_gatherAll {l : Launch} {x0 : Nat} {x1 : Nat} {x2 : Int32} {σ σ' : Hp} {r : Unit} (h : f_X0_gatherAll x0 x1 x2 σ = some (r, σ')) : Mt l yX0_gatherAll cX0_gatherAll 4 none 34 shC (fun ad => [.ref (ad x0), .ref (ad x1), .int x2]) σ (fun ad => none) σ' := mt_i (own := RX0) (by decide) rfl (fun _ => Nat.le_of_ble_eq_true rfl) (fun γ ad K hc hk => t_X0_gatherAll hc ⟨_, _, h, hk⟩)

-- NetMaps.gathered(LNetMaps$Net;LNetMaps$Net;)Z
theorem dX6_gathered_0 : decode cX6_gathered 0 = .ok (.aload_n 0, 1) := by decide +kernel
theorem dX6_gathered_1 : decode cX6_gathered 1 = .ok (.getfield 41, 3) := by decide +kernel
theorem dX6_gathered_4 : decode cX6_gathered 4 = .ok (.aload_n 1, 1) := by decide +kernel
theorem dX6_gathered_5 : decode cX6_gathered 5 = .ok (.aload_n 2, 1) := by decide +kernel
theorem dX6_gathered_6 : decode cX6_gathered 6 = .ok (.aload_n 0, 1) := by decide +kernel
theorem dX6_gathered_7 : decode cX6_gathered 7 = .ok (.getfield 10, 3) := by decide +kernel
theorem dX6_gathered_10 : decode cX6_gathered 10 = .ok (.getfield 213, 3) := by decide +kernel
theorem dX6_gathered_13 : decode cX6_gathered 13 = .ok (.invokevirtual 220, 3) := by decide +kernel
theorem dX6_gathered_16 : decode cX6_gathered 16 = .ok (.aload_n 0, 1) := by decide +kernel
theorem dX6_gathered_17 : decode cX6_gathered 17 = .ok (.getfield 41, 3) := by decide +kernel
theorem dX6_gathered_20 : decode cX6_gathered 20 = .ok (.invokevirtual 230, 3) := by decide +kernel
theorem dX6_gathered_23 : decode cX6_gathered 23 = .ok (.istore_n 3, 1) := by decide +kernel
theorem dX6_gathered_24 : decode cX6_gathered 24 = .ok (.iload_n 3, 1) := by decide +kernel
theorem dX6_gathered_25 : decode cX6_gathered 25 = .ok (.sipush 2000, 3) := by decide +kernel
theorem dX6_gathered_28 : decode cX6_gathered 28 = .ok (.if_icmp .le 5, 3) := by decide +kernel
theorem dX6_gathered_31 : decode cX6_gathered 31 = .ok (.iconst 0, 1) := by decide +kernel
theorem dX6_gathered_32 : decode cX6_gathered 32 = .ok (.ireturn, 1) := by decide +kernel
theorem dX6_gathered_33 : decode cX6_gathered 33 = .ok (.aload_n 0, 1) := by decide +kernel
theorem dX6_gathered_34 : decode cX6_gathered 34 = .ok (.getfield 55, 3) := by decide +kernel
theorem dX6_gathered_37 : decode cX6_gathered 37 = .ok (.aload_n 0, 1) := by decide +kernel
theorem dX6_gathered_38 : decode cX6_gathered 38 = .ok (.getfield 41, 3) := by decide +kernel
theorem dX6_gathered_41 : decode cX6_gathered 41 = .ok (.iload_n 3, 1) := by decide +kernel
theorem dX6_gathered_42 : decode cX6_gathered 42 = .ok (.invokevirtual 313, 3) := by decide +kernel
theorem dX6_gathered_45 : decode cX6_gathered 45 = .ok (.iconst 1, 1) := by decide +kernel
theorem dX6_gathered_46 : decode cX6_gathered 46 = .ok (.ireturn, 1) := by decide +kernel
noncomputable def f_X6_gathered (x0 : Nat) (x1 : Nat) (x2 : Nat) (σ : Hp) : Option (Int32 × Hp) := gO (getR shC 6 x0 7 σ) fun v1 => gO (getR shC 6 x0 0 σ) fun v2 => gO (getR shC 5 v2 1 σ) fun v3 => gO (chk shC v1 4) fun _ => bO (f_X4_byLists v1 x1 x2 v3 σ) fun _ σ5 => gO (getR shC 6 x0 7 σ5) fun v7 => gO (chk shC v7 4) fun _ => bO (f_X4_howMany v7 σ5) fun r8 σ9 => if r8 ≤ 2000 then (gO (getR shC 6 x0 9 σ9) fun v11 => gO (getR shC 6 x0 7 σ9) fun v12 => gO (chk shC v11 0) fun _ => bO (f_X0_gatherAll v11 v12 r8 σ9) fun _ σ14 => some (1, σ14)) else (some (0, σ9))
set_option maxRecDepth 100000 in
set_option maxHeartbeats 4000000 in
theorem t_X6_gathered {l : Launch} {γ : Gm} {ad : Nat → Nat} {K : Option Value → Hp → Prop} (hc : Cx l γ 35 4 ad shC RX6 cX6_gathered (some .boolean) K) {x0 : Nat} {x1 : Nat} {x2 : Nat} {σ : Hp} (h : wpO (f_X6_gathered x0 x1 x2 σ) (KI K)) : WW l γ 35 4 ad shC 0 [(0, .ref (ad x0)), (1, .ref (ad x1)), (2, .ref (ad x2))] [] σ := by
  unfold f_X6_gathered at h
  refine r_aload_n hc 0 rfl rfl dX6_gathered_0 ?_
  obtain ⟨v1, ev1, h⟩ := wp_g h
  refine r_getR hc ev1 fl_X6_41 rfl dX6_gathered_1 ?_
  refine r_aload_n hc 1 rfl rfl dX6_gathered_4 ?_
  refine r_aload_n hc 2 rfl rfl dX6_gathered_5 ?_
  refine r_aload_n hc 0 rfl rfl dX6_gathered_6 ?_
  obtain ⟨v2, ev2, h⟩ := wp_g h
  refine r_getR hc ev2 fl_X6_10 rfl dX6_gathered_7 ?_
  obtain ⟨v3, ev3, h⟩ := wp_g h
  refine r_getR hc ev3 fl_X6_213 rfl dX6_gathered_10 ?_
  obtain ⟨_, ek6, h⟩ := wp_g h
  obtain ⟨_, σ5, er4, h⟩ := wp_b h
  refine r_callV hc (k0 := v1) mv_X4_byLists ml_X6_220 (c_X4_byLists er4) (chk_of ek6) cls_4.1 rfl rfl rfl (by decide) rfl (Nat.le_of_ble_eq_true rfl) dX6_gathered_13 ?_
  refine r_aload_n hc 0 rfl rfl dX6_gathered_16 ?_
  obtain ⟨v7, ev7, h⟩ := wp_g h
  refine r_getR hc ev7 fl_X6_41 rfl dX6_gathered_17 ?_
  obtain ⟨_, ek10, h⟩ := wp_g h
  obtain ⟨r8, σ9, er8, h⟩ := wp_b h
  refine r_callV hc (k0 := v7) mv_X4_howMany ml_X6_230 (c_X4_howMany er8) (chk_of ek10) cls_4.1 rfl rfl rfl (by decide) rfl (Nat.le_of_ble_eq_true rfl) dX6_gathered_20 ?_
  refine r_istore_nE hc (i := 3) (lv' := [(3, .int r8), (0, .ref (ad x0)), (1, .ref (ad x1)), (2, .ref (ad x2))]) rfl rfl (by decide) rfl dX6_gathered_23 ?_
  refine r_iload_n hc 0 rfl rfl dX6_gathered_24 ?_
  refine r_sipush hc (v := 2000) (by decide) dX6_gathered_25 ?_
  refine r_icmp_le hc (tgt := 33) dX6_gathered_28 (by decide) (fun c => ?_) (fun c => ?_)
  · have h := wp_t c h
    refine r_aload_n hc 1 rfl rfl dX6_gathered_33 ?_
    obtain ⟨v11, ev11, h⟩ := wp_g h
    refine r_getR hc ev11 fl_X6_55 rfl dX6_gathered_34 ?_
    refine r_aload_n hc 1 rfl rfl dX6_gathered_37 ?_
    obtain ⟨v12, ev12, h⟩ := wp_g h
    refine r_getR hc ev12 fl_X6_41 rfl dX6_gathered_38 ?_
    refine r_iload_n hc 0 rfl rfl dX6_gathered_41 ?_
    obtain ⟨_, ek15, h⟩ := wp_g h
    obtain ⟨_, σ14, er13, h⟩ := wp_b h
    refine r_callV hc (k0 := v11) mv_X0_gatherAll ml_X6_313 (c_X0_gatherAll er13) (chk_of ek15) cls_0.1 rfl rfl rfl (by decide) rfl (Nat.le_of_ble_eq_true rfl) dX6_gathered_42 ?_
    refine r_iconst hc (v := 1) (by decide) dX6_gathered_45 ?_
    have h := wp_v h
    exact r_zret hc h (by decide) dX6_gathered_46
  · have h := wp_f c h
    refine r_iconst hc (v := 0) (by decide) dX6_gathered_31 ?_
    have h := wp_v h
    exact r_zret hc h (by decide) dX6_gathered_32
theorem c_X6_gathered {l : Launch} {x0 : Nat} {x1 : Nat} {x2 : Nat} {σ σ' : Hp} {r : Int32} (h : f_X6_gathered x0 x1 x2 σ = some (r, σ')) : Mt l yX6_gathered cX6_gathered 4 (some .boolean) 35 shC (fun ad => [.ref (ad x0), .ref (ad x1), .ref (ad x2)]) σ (fun ad => some (.int r)) σ' := mt_i (own := RX6) (by decide) rfl (fun _ => Nat.le_of_ble_eq_true rfl) (fun γ ad K hc hk => t_X6_gathered hc ⟨_, _, h, hk⟩)

-- NetMaps$Crowd.indexOf(I)I
theorem dX0_indexOf_0 : decode cX0_indexOf 0 = .ok (.iconst (-1), 1) := by decide +kernel
theorem dX0_indexOf_1 : decode cX0_indexOf 1 = .ok (.istore_n 2, 1) := by decide +kernel
theorem dX0_indexOf_2 : decode cX0_indexOf 2 = .ok (.sipush 1024, 3) := by decide +kernel
theorem dX0_indexOf_5 : decode cX0_indexOf 5 = .ok (.istore_n 3, 1) := by decide +kernel
theorem dX0_indexOf_6 : decode cX0_indexOf 6 = .ok (.iload_n 3, 1) := by decide +kernel
theorem dX0_indexOf_7 : decode cX0_indexOf 7 = .ok (.ifCond .le 36, 3) := by decide +kernel
theorem dX0_indexOf_10 : decode cX0_indexOf 10 = .ok (.iload_n 2, 1) := by decide +kernel
theorem dX0_indexOf_11 : decode cX0_indexOf 11 = .ok (.iload_n 3, 1) := by decide +kernel
theorem dX0_indexOf_12 : decode cX0_indexOf 12 = .ok (.iadd, 1) := by decide +kernel
theorem dX0_indexOf_13 : decode cX0_indexOf 13 = .ok (.aload_n 0, 1) := by decide +kernel
theorem dX0_indexOf_14 : decode cX0_indexOf 14 = .ok (.getfield 21, 3) := by decide +kernel
theorem dX0_indexOf_17 : decode cX0_indexOf 17 = .ok (.if_icmp .ge 19, 3) := by decide +kernel
theorem dX0_indexOf_20 : decode cX0_indexOf 20 = .ok (.aload_n 0, 1) := by decide +kernel
theorem dX0_indexOf_21 : decode cX0_indexOf 21 = .ok (.getfield 9, 3) := by decide +kernel
theorem dX0_indexOf_24 : decode cX0_indexOf 24 = .ok (.iload_n 2, 1) := by decide +kernel
theorem dX0_indexOf_25 : decode cX0_indexOf 25 = .ok (.iload_n 3, 1) := by decide +kernel
theorem dX0_indexOf_26 : decode cX0_indexOf 26 = .ok (.iadd, 1) := by decide +kernel
theorem dX0_indexOf_27 : decode cX0_indexOf 27 = .ok (.iaload, 1) := by decide +kernel
theorem dX0_indexOf_28 : decode cX0_indexOf 28 = .ok (.iload_n 1, 1) := by decide +kernel
theorem dX0_indexOf_29 : decode cX0_indexOf 29 = .ok (.if_icmp .gt 7, 3) := by decide +kernel
theorem dX0_indexOf_32 : decode cX0_indexOf 32 = .ok (.iload_n 2, 1) := by decide +kernel
theorem dX0_indexOf_33 : decode cX0_indexOf 33 = .ok (.iload_n 3, 1) := by decide +kernel
theorem dX0_indexOf_34 : decode cX0_indexOf 34 = .ok (.iadd, 1) := by decide +kernel
theorem dX0_indexOf_35 : decode cX0_indexOf 35 = .ok (.istore_n 2, 1) := by decide +kernel
theorem dX0_indexOf_36 : decode cX0_indexOf 36 = .ok (.iload_n 3, 1) := by decide +kernel
theorem dX0_indexOf_37 : decode cX0_indexOf 37 = .ok (.iconst 1, 1) := by decide +kernel
theorem dX0_indexOf_38 : decode cX0_indexOf 38 = .ok (.ishr, 1) := by decide +kernel
theorem dX0_indexOf_39 : decode cX0_indexOf 39 = .ok (.istore_n 3, 1) := by decide +kernel
theorem dX0_indexOf_40 : decode cX0_indexOf 40 = .ok (.goto (-34), 3) := by decide +kernel
theorem dX0_indexOf_43 : decode cX0_indexOf 43 = .ok (.iload_n 2, 1) := by decide +kernel
theorem dX0_indexOf_44 : decode cX0_indexOf 44 = .ok (.ifCond .lt 17, 3) := by decide +kernel
theorem dX0_indexOf_47 : decode cX0_indexOf 47 = .ok (.aload_n 0, 1) := by decide +kernel
theorem dX0_indexOf_48 : decode cX0_indexOf 48 = .ok (.getfield 9, 3) := by decide +kernel
theorem dX0_indexOf_51 : decode cX0_indexOf 51 = .ok (.iload_n 2, 1) := by decide +kernel
theorem dX0_indexOf_52 : decode cX0_indexOf 52 = .ok (.iaload, 1) := by decide +kernel
theorem dX0_indexOf_53 : decode cX0_indexOf 53 = .ok (.iload_n 1, 1) := by decide +kernel
theorem dX0_indexOf_54 : decode cX0_indexOf 54 = .ok (.if_icmp .ne 7, 3) := by decide +kernel
theorem dX0_indexOf_57 : decode cX0_indexOf 57 = .ok (.iload_n 2, 1) := by decide +kernel
theorem dX0_indexOf_58 : decode cX0_indexOf 58 = .ok (.goto 4, 3) := by decide +kernel
theorem dX0_indexOf_61 : decode cX0_indexOf 61 = .ok (.iconst (-1), 1) := by decide +kernel
theorem dX0_indexOf_62 : decode cX0_indexOf 62 = .ok (.ireturn, 1) := by decide +kernel
noncomputable def f_X0_indexOf_b36 (x0 : Nat) (x1 : Int32) (x2 : Int32) (x3 : Int32) (σ : Hp) : Option (((Int32 × Int32) ⊕ (Int32)) × Hp) := some (Sum.inl (x2, (x3 >>> (1 &&& 31))), σ)
set_option maxRecDepth 100000 in
set_option maxHeartbeats 4000000 in
theorem t_X0_indexOf_b36 {l : Launch} {γ : Gm} {ad : Nat → Nat} {K : Option Value → Hp → Prop} (hc : Cx l γ 1 4 ad shC RX0 cX0_indexOf (some .int) K) {x0 : Nat} {x1 : Int32} {x2 : Int32} {x3 : Int32}  {σ : Hp} {KL : ((Int32 × Int32) ⊕ (Int32)) → Hp → Prop} (h : wpO (f_X0_indexOf_b36 x0 x1 x2 x3 σ) KL) (kn : ∀ (v : (Int32 × Int32)) (σ : Hp), KL (Sum.inl v) σ → WW l γ 1 4 ad shC 6 [(0, .ref (ad x0)), (1, .int x1), (2, .int v.1), (3, .int v.2)] [] σ) (kx43 : ∀ (v : Int32) (σ : Hp), KL (Sum.inr v) σ → WW l γ 1 4 ad shC 43 [(0, .ref (ad x0)), (1, .int x1), (2, .int v)] [] σ) : WW l γ 1 4 ad shC 36 [(0, .ref (ad x0)), (1, .int x1), (2, .int x2), (3, .int x3)] [] σ := by
  unfold f_X0_indexOf_b36 at h
  refine r_iload_n hc 3 rfl rfl dX0_indexOf_36 ?_
  refine r_iconst hc (v := 1) (by decide) dX0_indexOf_37 ?_
  refine r_ishr hc dX0_indexOf_38 ?_
  refine r_istore_nE hc (i := 3) (lv' := [(3, .int (x3 >>> (1 &&& 31))), (0, .ref (ad x0)), (1, .int x1), (2, .int x2)]) rfl rfl (by decide) rfl dX0_indexOf_39 ?_
  refine r_goto hc (tgt := 6) dX0_indexOf_40 (by decide) ?_
  refine r_sub [1, 2, 3, 0] (lv' := [(0, .ref (ad x0)), (1, .int x1), (2, .int x2), (3, .int (x3 >>> (1 &&& 31)))]) rfl ?_
  have h := wp_v h
  exact kn (x2, (x3 >>> (1 &&& 31))) _ h
noncomputable def f_X0_indexOf_L6 (x0 : Nat) (x1 : Int32) (v : (Int32 × Int32)) (σ : Hp) : Option (((Int32 × Int32) ⊕ (Int32)) × Hp) := if v.2 ≤ 0 then (some (Sum.inr v.1, σ)) else (gO (getI shC 0 x0 0 σ) fun v1 => if v1 ≤ (v.1 + v.2) then (f_X0_indexOf_b36 x0 x1 v.1 v.2 σ) else (gO (getR shC 0 x0 3 σ) fun v2 => gO (aldI shC 0 v2 (v.1 + v.2) σ) fun v3 => if x1 < v3 then (f_X0_indexOf_b36 x0 x1 v.1 v.2 σ) else (f_X0_indexOf_b36 x0 x1 (v.1 + v.2) v.2 σ)))
set_option maxRecDepth 100000 in
set_option maxHeartbeats 4000000 in
theorem t_X0_indexOf_L6 {l : Launch} {γ : Gm} {ad : Nat → Nat} {K : Option Value → Hp → Prop}  (hc : Cx l γ 1 4 ad shC RX0 cX0_indexOf (some .int) K) {x0 : Nat} {x1 : Int32} {v : (Int32 × Int32)} {σ : Hp} {KX : (Int32) → Hp → Prop} (h : wpO (wh (f_X0_indexOf_L6 x0 x1) v σ) KX) (kx43 : ∀ (v : Int32) (σ : Hp), KX v σ → WW l γ 1 4 ad shC 43 [(0, .ref (ad x0)), (1, .int x1), (2, .int v)] [] σ) : WW l γ 1 4 ad shC 6 [(0, .ref (ad x0)), (1, .int x1), (2, .int v.1), (3, .int v.2)] [] σ := by
  refine wh_W (P := fun v σ => WW l γ 1 4 ad shC 6 [(0, .ref (ad x0)), (1, .int x1), (2, .int v.1), (3, .int v.2)] [] σ) (fun v σ h => ?_) h
  have kn : ∀ (v : (Int32 × Int32)) (σ : Hp), WW l γ 1 4 ad shC 6 [(0, .ref (ad x0)), (1, .int x1), (2, .int v.1), (3, .int v.2)] [] σ → WW l γ 1 4 ad shC 6 [(0, .ref (ad x0)), (1, .int x1), (2, .int v.1), (3, .int v.2)] [] σ := fun _ _ h => h
  · unfold f_X0_indexOf_L6 at h
    refine r_iload_n hc 3 rfl rfl dX0_indexOf_6 ?_
    refine r_if_le hc (tgt := 43) dX0_indexOf_7 (by decide) (fun c => ?_) (fun c => ?_)
    · have h := wp_t c h
      refine r_sub [0, 1, 2] (lv' := [(0, .ref (ad x0)), (1, .int x1), (2, .int v.1)]) rfl ?_
      have h := wp_v h
      exact kx43 v.1 _ h
    · have h := wp_f c h
      refine r_iload_n hc 2 rfl rfl dX0_indexOf_10 ?_
      refine r_iload_n hc 3 rfl rfl dX0_indexOf_11 ?_
      refine r_iadd hc dX0_indexOf_12 ?_
      refine r_aload_n hc 0 rfl rfl dX0_indexOf_13 ?_
      obtain ⟨v1, ev1, h⟩ := wp_g h
      refine r_getI hc ev1 fl_X0_21 rfl dX0_indexOf_14 ?_
      refine r_icmp_ge hc (tgt := 36) dX0_indexOf_17 (by decide) (fun c => ?_) (fun c => ?_)
      · have h := wp_t c h
        exact t_X0_indexOf_b36 hc h kn kx43
      · have h := wp_f c h
        refine r_aload_n hc 0 rfl rfl dX0_indexOf_20 ?_
        obtain ⟨v2, ev2, h⟩ := wp_g h
        refine r_getR hc ev2 fl_X0_9 rfl dX0_indexOf_21 ?_
        refine r_iload_n hc 2 rfl rfl dX0_indexOf_24 ?_
        refine r_iload_n hc 3 rfl rfl dX0_indexOf_25 ?_
        refine r_iadd hc dX0_indexOf_26 ?_
        obtain ⟨v3, ev3, h⟩ := wp_g h
        refine r_iald hc ev3 dX0_indexOf_27 ?_
        refine r_iload_n hc 1 rfl rfl dX0_indexOf_28 ?_
        refine r_icmp_gt hc (tgt := 36) dX0_indexOf_29 (by decide) (fun c => ?_) (fun c => ?_)
        · have h := wp_t c h
          exact t_X0_indexOf_b36 hc h kn kx43
        · have h := wp_f c h
          refine r_iload_n hc 2 rfl rfl dX0_indexOf_32 ?_
          refine r_iload_n hc 3 rfl rfl dX0_indexOf_33 ?_
          refine r_iadd hc dX0_indexOf_34 ?_
          refine r_istore_nE hc (i := 2) (lv' := [(2, .int (v.1 + v.2)), (0, .ref (ad x0)), (1, .int x1), (3, .int v.2)]) rfl rfl (by decide) rfl dX0_indexOf_35 ?_
          refine r_sub [1, 2, 0, 3] (lv' := [(0, .ref (ad x0)), (1, .int x1), (2, .int (v.1 + v.2)), (3, .int v.2)]) rfl ?_
          exact t_X0_indexOf_b36 hc h kn kx43
noncomputable def f_X0_indexOf_b62 (s0 : Int32) (σ : Hp) : Option (Int32 × Hp) := some (s0, σ)
set_option maxRecDepth 100000 in
set_option maxHeartbeats 4000000 in
theorem t_X0_indexOf_b62 {l : Launch} {γ : Gm} {ad : Nat → Nat} {K : Option Value → Hp → Prop} (hc : Cx l γ 1 4 ad shC RX0 cX0_indexOf (some .int) K) {s0 : Int32} {σ : Hp} (h : wpO (f_X0_indexOf_b62 s0 σ) (KI K)) : WW l γ 1 4 ad shC 62 [] [.int s0] σ := by
  unfold f_X0_indexOf_b62 at h
  have h := wp_v h
  exact r_iret hc h dX0_indexOf_62
noncomputable def f_X0_indexOf_b61  (σ : Hp) : Option (Int32 × Hp) := f_X0_indexOf_b62 (-1) σ
set_option maxRecDepth 100000 in
set_option maxHeartbeats 4000000 in
theorem t_X0_indexOf_b61 {l : Launch} {γ : Gm} {ad : Nat → Nat} {K : Option Value → Hp → Prop} (hc : Cx l γ 1 4 ad shC RX0 cX0_indexOf (some .int) K)  {σ : Hp} (h : wpO (f_X0_indexOf_b61  σ) (KI K)) : WW l γ 1 4 ad shC 61 [] [] σ := by
  unfold f_X0_indexOf_b61 at h
  refine r_iconst hc (v := (-1)) (by decide) dX0_indexOf_61 ?_
  exact t_X0_indexOf_b62 hc h
noncomputable def f_X0_indexOf (x0 : Nat) (x1 : Int32) (σ : Hp) : Option (Int32 × Hp) := bO (wh (f_X0_indexOf_L6 x0 x1) ((-1), 1024) σ) fun y1 σ2 => (if y1 < 0 then (f_X0_indexOf_b61  σ2) else (gO (getR shC 0 x0 3 σ2) fun v3 => gO (aldI shC 0 v3 y1 σ2) fun v4 => if v4 = x1 then (f_X0_indexOf_b62 y1 σ2) else (f_X0_indexOf_b61  σ2)))
set_option maxRecDepth 100000 in
set_option maxHeartbeats 4000000 in
theorem t_X0_indexOf {l : Launch} {γ : Gm} {ad : Nat → Nat} {K : Option Value → Hp → Prop} (hc : Cx l γ 1 4 ad shC RX0 cX0_indexOf (some .int) K) {x0 : Nat} {x1 : Int32} {σ : Hp} (h : wpO (f_X0_indexOf x0 x1 σ) (KI K)) : WW l γ 1 4 ad shC 0 [(0, .ref (ad x0)), (1, .int x1)] [] σ := by
  unfold f_X0_indexOf at h
  refine r_iconst hc (v := (-1)) (by decide) dX0_indexOf_0 ?_
  refine r_istore_nE hc (i := 2) (lv' := [(2, .int (-1)), (0, .ref (ad x0)), (1, .int x1)]) rfl rfl (by decide) rfl dX0_indexOf_1 ?_
  refine r_sipush hc (v := 1024) (by decide) dX0_indexOf_2 ?_
  refine r_istore_nE hc (i := 3) (lv' := [(3, .int 1024), (2, .int (-1)), (0, .ref (ad x0)), (1, .int x1)]) rfl rfl (by decide) rfl dX0_indexOf_5 ?_
  refine r_sub [2, 3, 1, 0] (lv' := [(0, .ref (ad x0)), (1, .int x1), (2, .int (-1)), (3, .int 1024)]) rfl ?_
  refine t_X0_indexOf_L6 hc (wp_bb h) ?_
  · intro y1 σ2 h
    refine r_iload_n hc 2 rfl rfl dX0_indexOf_43 ?_
    refine r_if_lt hc (tgt := 61) dX0_indexOf_44 (by decide) (fun c => ?_) (fun c => ?_)
    · have h := wp_t c h
      refine r_sub [] (lv' := []) rfl ?_
      exact t_X0_indexOf_b61 hc h
    · have h := wp_f c h
      refine r_aload_n hc 0 rfl rfl dX0_indexOf_47 ?_
      obtain ⟨v3, ev3, h⟩ := wp_g h
      refine r_getR hc ev3 fl_X0_9 rfl dX0_indexOf_48 ?_
      refine r_iload_n hc 2 rfl rfl dX0_indexOf_51 ?_
      obtain ⟨v4, ev4, h⟩ := wp_g h
      refine r_iald hc ev4 dX0_indexOf_52 ?_
      refine r_iload_n hc 1 rfl rfl dX0_indexOf_53 ?_
      refine r_icmp_ne hc (tgt := 61) dX0_indexOf_54 (by decide) (fun c => ?_) (fun c => ?_)
      · have h := wp_f c h
        refine r_sub [] (lv' := []) rfl ?_
        exact t_X0_indexOf_b61 hc h
      · have h := wp_t c h
        refine r_iload_n hc 2 rfl rfl dX0_indexOf_57 ?_
        refine r_goto hc (tgt := 62) dX0_indexOf_58 (by decide) ?_
        refine r_sub [] (lv' := []) rfl ?_
        exact t_X0_indexOf_b62 hc h
theorem c_X0_indexOf {l : Launch} {x0 : Nat} {x1 : Int32} {σ σ' : Hp} {r : Int32} (h : f_X0_indexOf x0 x1 σ = some (r, σ')) : Mt l yX0_indexOf cX0_indexOf 4 (some .int) 1 shC (fun ad => [.ref (ad x0), .int x1]) σ (fun ad => some (.int r)) σ' := mt_i (own := RX0) (by decide) rfl (fun _ => Nat.le_of_ble_eq_true rfl) (fun γ ad K hc hk => t_X0_indexOf hc ⟨_, _, h, hk⟩)

-- NetMaps$Crowd.beside(III)I
theorem dX0_beside_0 : decode cX0_beside 0 = .ok (.iconst 3, 1) := by decide +kernel
theorem dX0_beside_1 : decode cX0_beside 1 = .ok (.iload_n 2, 1) := by decide +kernel
theorem dX0_beside_2 : decode cX0_beside 2 = .ok (.imul, 1) := by decide +kernel
theorem dX0_beside_3 : decode cX0_beside 3 = .ok (.istore 4, 2) := by decide +kernel
theorem dX0_beside_5 : decode cX0_beside 5 = .ok (.aload_n 0, 1) := by decide +kernel
theorem dX0_beside_6 : decode cX0_beside 6 = .ok (.getfield 9, 3) := by decide +kernel
theorem dX0_beside_9 : decode cX0_beside 9 = .ok (.iload_n 1, 1) := by decide +kernel
theorem dX0_beside_10 : decode cX0_beside 10 = .ok (.iaload, 1) := by decide +kernel
theorem dX0_beside_11 : decode cX0_beside 11 = .ok (.iload 4, 2) := by decide +kernel
theorem dX0_beside_13 : decode cX0_beside 13 = .ok (.ishr, 1) := by decide +kernel
theorem dX0_beside_14 : decode cX0_beside 14 = .ok (.bipush 7, 2) := by decide +kernel
theorem dX0_beside_16 : decode cX0_beside 16 = .ok (.iand, 1) := by decide +kernel
theorem dX0_beside_17 : decode cX0_beside 17 = .ok (.istore 5, 2) := by decide +kernel
theorem dX0_beside_19 : decode cX0_beside 19 = .ok (.iload 5, 2) := by decide +kernel
theorem dX0_beside_21 : decode cX0_beside 21 = .ok (.iload_n 3, 1) := by decide +kernel
theorem dX0_beside_22 : decode cX0_beside 22 = .ok (.if_icmp .ne 7, 3) := by decide +kernel
theorem dX0_beside_25 : decode cX0_beside 25 = .ok (.iconst (-1), 1) := by decide +kernel
theorem dX0_beside_26 : decode cX0_beside 26 = .ok (.goto 21, 3) := by decide +kernel
theorem dX0_beside_29 : decode cX0_beside 29 = .ok (.aload_n 0, 1) := by decide +kernel
theorem dX0_beside_30 : decode cX0_beside 30 = .ok (.aload_n 0, 1) := by decide +kernel
theorem dX0_beside_31 : decode cX0_beside 31 = .ok (.getfield 9, 3) := by decide +kernel
theorem dX0_beside_34 : decode cX0_beside 34 = .ok (.iload_n 1, 1) := by decide +kernel
theorem dX0_beside_35 : decode cX0_beside 35 = .ok (.iaload, 1) := by decide +kernel
theorem dX0_beside_36 : decode cX0_beside 36 = .ok (.iload_n 3, 1) := by decide +kernel
theorem dX0_beside_37 : decode cX0_beside 37 = .ok (.iload 5, 2) := by decide +kernel
theorem dX0_beside_39 : decode cX0_beside 39 = .ok (.isub, 1) := by decide +kernel
theorem dX0_beside_40 : decode cX0_beside 40 = .ok (.iload 4, 2) := by decide +kernel
theorem dX0_beside_42 : decode cX0_beside 42 = .ok (.ishl, 1) := by decide +kernel
theorem dX0_beside_43 : decode cX0_beside 43 = .ok (.iadd, 1) := by decide +kernel
theorem dX0_beside_44 : decode cX0_beside 44 = .ok (.invokevirtual 58, 3) := by decide +kernel
theorem dX0_beside_47 : decode cX0_beside 47 = .ok (.ireturn, 1) := by decide +kernel
noncomputable def f_X0_beside_b47 (s0 : Int32) (σ : Hp) : Option (Int32 × Hp) := some (s0, σ)
set_option maxRecDepth 100000 in
set_option maxHeartbeats 4000000 in
theorem t_X0_beside_b47 {l : Launch} {γ : Gm} {ad : Nat → Nat} {K : Option Value → Hp → Prop} (hc : Cx l γ 2 6 ad shC RX0 cX0_beside (some .int) K) {s0 : Int32} {σ : Hp} (h : wpO (f_X0_beside_b47 s0 σ) (KI K)) : WW l γ 2 6 ad shC 47 [] [.int s0] σ := by
  unfold f_X0_beside_b47 at h
  have h := wp_v h
  exact r_iret hc h dX0_beside_47
noncomputable def f_X0_beside (x0 : Nat) (x1 : Int32) (x2 : Int32) (x3 : Int32) (σ : Hp) : Option (Int32 × Hp) := gO (getR shC 0 x0 3 σ) fun v1 => gO (aldI shC 0 v1 x1 σ) fun v2 => lt' (((v2 >>> ((3 * x2) &&& 31)) &&& 7)) fun t3 => if t3 = x3 then (f_X0_beside_b47 (-1) σ) else (gO (getR shC 0 x0 3 σ) fun v4 => gO (aldI shC 0 v4 x1 σ) fun v5 => gO (chk shC x0 0) fun _ => bO (f_X0_indexOf x0 (v5 + ((x3 - t3) <<< ((3 * x2) &&& 31))) σ) fun r6 σ7 => f_X0_beside_b47 r6 σ7)
set_option maxRecDepth 100000 in
set_option maxHeartbeats 4000000 in
theorem t_X0_beside {l : Launch} {γ : Gm} {ad : Nat → Nat} {K : Option Value → Hp → Prop} (hc : Cx l γ 2 6 ad shC RX0 cX0_beside (some .int) K) {x0 : Nat} {x1 : Int32} {x2 : Int32} {x3 : Int32} {σ : Hp} (h : wpO (f_X0_beside x0 x1 x2 x3 σ) (KI K)) : WW l γ 2 6 ad shC 0 [(0, .ref (ad x0)), (1, .int x1), (2, .int x2), (3, .int x3)] [] σ := by
  unfold f_X0_beside at h
  refine r_iconst hc (v := 3) (by decide) dX0_beside_0 ?_
  refine r_iload_n hc 2 rfl rfl dX0_beside_1 ?_
  refine r_imul hc dX0_beside_2 ?_
  refine r_istoreE hc (i := 4) (lv' := [(4, .int (3 * x2)), (0, .ref (ad x0)), (1, .int x1), (2, .int x2), (3, .int x3)]) rfl (by decide) rfl dX0_beside_3 ?_
  refine r_aload_n hc 1 rfl rfl dX0_beside_5 ?_
  obtain ⟨v1, ev1, h⟩ := wp_g h
  refine r_getR hc ev1 fl_X0_9 rfl dX0_beside_6 ?_
  refine r_iload_n hc 2 rfl rfl dX0_beside_9 ?_
  obtain ⟨v2, ev2, h⟩ := wp_g h
  refine r_iald hc ev2 dX0_beside_10 ?_
  refine r_iload hc 0 rfl dX0_beside_11 ?_
  refine r_ishr hc dX0_beside_13 ?_
  refine r_bipush hc (v := 7) (by decide) dX0_beside_14 ?_
  refine r_iand hc dX0_beside_16 ?_
  obtain ⟨t3, et3, h⟩ := wp_l h
  refine r_istoreE hc (i := 5) (lv' := [(5, .int t3), (4, .int (3 * x2)), (0, .ref (ad x0)), (1, .int x1), (2, .int x2), (3, .int x3)]) et3 (by decide) rfl dX0_beside_17 ?_
  refine r_iload hc 0 rfl dX0_beside_19 ?_
  refine r_iload_n hc 5 rfl rfl dX0_beside_21 ?_
  refine r_icmp_ne hc (tgt := 29) dX0_beside_22 (by decide) (fun c => ?_) (fun c => ?_)
  · have h := wp_f c h
    refine r_aload_n hc 2 rfl rfl dX0_beside_29 ?_
    refine r_aload_n hc 2 rfl rfl dX0_beside_30 ?_
    obtain ⟨v4, ev4, h⟩ := wp_g h
    refine r_getR hc ev4 fl_X0_9 rfl dX0_beside_31 ?_
    refine r_iload_n hc 3 rfl rfl dX0_beside_34 ?_
    obtain ⟨v5, ev5, h⟩ := wp_g h
    refine r_iald hc ev5 dX0_beside_35 ?_
    refine r_iload_n hc 5 rfl rfl dX0_beside_36 ?_
    refine r_iload hc 0 rfl dX0_beside_37 ?_
    refine r_isub hc dX0_beside_39 ?_
    refine r_iload hc 1 rfl dX0_beside_40 ?_
    refine r_ishl hc dX0_beside_42 ?_
    refine r_iadd hc dX0_beside_43 ?_
    obtain ⟨_, ek8, h⟩ := wp_g h
    obtain ⟨r6, σ7, er6, h⟩ := wp_b h
    refine r_callV hc (k0 := x0) mv_X0_indexOf ml_X0_58 (c_X0_indexOf er6) (chk_of ek8) cls_0.1 rfl rfl rfl (by decide) rfl (Nat.le_of_ble_eq_true rfl) dX0_beside_44 ?_
    refine r_sub [] (lv' := []) rfl ?_
    exact t_X0_beside_b47 hc h
  · have h := wp_t c h
    refine r_iconst hc (v := (-1)) (by decide) dX0_beside_25 ?_
    refine r_goto hc (tgt := 47) dX0_beside_26 (by decide) ?_
    refine r_sub [] (lv' := []) rfl ?_
    exact t_X0_beside_b47 hc h
theorem c_X0_beside {l : Launch} {x0 : Nat} {x1 : Int32} {x2 : Int32} {x3 : Int32} {σ σ' : Hp} {r : Int32} (h : f_X0_beside x0 x1 x2 x3 σ = some (r, σ')) : Mt l yX0_beside cX0_beside 6 (some .int) 2 shC (fun ad => [.ref (ad x0), .int x1, .int x2, .int x3]) σ (fun ad => some (.int r)) σ' := mt_i (own := RX0) (by decide) rfl (fun _ => Nat.le_of_ble_eq_true rfl) (fun γ ad K hc hk => t_X0_beside hc ⟨_, _, h, hk⟩)

-- NetMaps$Crowd.enqueue(II)V
theorem dX0_enqueue_0 : decode cX0_enqueue 0 = .ok (.iload_n 1, 1) := by decide +kernel
theorem dX0_enqueue_1 : decode cX0_enqueue 1 = .ok (.ifCond .lt 57, 3) := by decide +kernel
theorem dX0_enqueue_4 : decode cX0_enqueue 4 = .ok (.iload_n 1, 1) := by decide +kernel
theorem dX0_enqueue_5 : decode cX0_enqueue 5 = .ok (.aload_n 0, 1) := by decide +kernel
theorem dX0_enqueue_6 : decode cX0_enqueue 6 = .ok (.getfield 21, 3) := by decide +kernel
theorem dX0_enqueue_9 : decode cX0_enqueue 9 = .ok (.if_icmp .ge 49, 3) := by decide +kernel
theorem dX0_enqueue_12 : decode cX0_enqueue 12 = .ok (.aload_n 0, 1) := by decide +kernel
theorem dX0_enqueue_13 : decode cX0_enqueue 13 = .ok (.getfield 15, 3) := by decide +kernel
theorem dX0_enqueue_16 : decode cX0_enqueue 16 = .ok (.iload_n 1, 1) := by decide +kernel
theorem dX0_enqueue_17 : decode cX0_enqueue 17 = .ok (.iaload, 1) := by decide +kernel
theorem dX0_enqueue_18 : decode cX0_enqueue 18 = .ok (.ifCond .ge 40, 3) := by decide +kernel
theorem dX0_enqueue_21 : decode cX0_enqueue 21 = .ok (.aload_n 0, 1) := by decide +kernel
theorem dX0_enqueue_22 : decode cX0_enqueue 22 = .ok (.getfield 77, 3) := by decide +kernel
theorem dX0_enqueue_25 : decode cX0_enqueue 25 = .ok (.sipush 2000, 3) := by decide +kernel
theorem dX0_enqueue_28 : decode cX0_enqueue 28 = .ok (.if_icmp .ge 30, 3) := by decide +kernel
theorem dX0_enqueue_31 : decode cX0_enqueue 31 = .ok (.aload_n 0, 1) := by decide +kernel
theorem dX0_enqueue_32 : decode cX0_enqueue 32 = .ok (.getfield 15, 3) := by decide +kernel
theorem dX0_enqueue_35 : decode cX0_enqueue 35 = .ok (.iload_n 1, 1) := by decide +kernel
theorem dX0_enqueue_36 : decode cX0_enqueue 36 = .ok (.iload_n 2, 1) := by decide +kernel
theorem dX0_enqueue_37 : decode cX0_enqueue 37 = .ok (.iastore, 1) := by decide +kernel
theorem dX0_enqueue_38 : decode cX0_enqueue 38 = .ok (.aload_n 0, 1) := by decide +kernel
theorem dX0_enqueue_39 : decode cX0_enqueue 39 = .ok (.getfield 18, 3) := by decide +kernel
theorem dX0_enqueue_42 : decode cX0_enqueue 42 = .ok (.aload_n 0, 1) := by decide +kernel
theorem dX0_enqueue_43 : decode cX0_enqueue 43 = .ok (.getfield 77, 3) := by decide +kernel
theorem dX0_enqueue_46 : decode cX0_enqueue 46 = .ok (.iload_n 1, 1) := by decide +kernel
theorem dX0_enqueue_47 : decode cX0_enqueue 47 = .ok (.iastore, 1) := by decide +kernel
theorem dX0_enqueue_48 : decode cX0_enqueue 48 = .ok (.aload_n 0, 1) := by decide +kernel
theorem dX0_enqueue_49 : decode cX0_enqueue 49 = .ok (.dup, 1) := by decide +kernel
theorem dX0_enqueue_50 : decode cX0_enqueue 50 = .ok (.getfield 77, 3) := by decide +kernel
theorem dX0_enqueue_53 : decode cX0_enqueue 53 = .ok (.iconst 1, 1) := by decide +kernel
theorem dX0_enqueue_54 : decode cX0_enqueue 54 = .ok (.iadd, 1) := by decide +kernel
theorem dX0_enqueue_55 : decode cX0_enqueue 55 = .ok (.putfield 77, 3) := by decide +kernel
theorem dX0_enqueue_58 : decode cX0_enqueue 58 = .ok (.return_, 1) := by decide +kernel
noncomputable def f_X0_enqueue_b58  (σ : Hp) : Option (Unit × Hp) := some ((), σ)
set_option maxRecDepth 100000 in
set_option maxHeartbeats 4000000 in
theorem t_X0_enqueue_b58 {l : Launch} {γ : Gm} {ad : Nat → Nat} {K : Option Value → Hp → Prop} (hc : Cx l γ 1 3 ad shC RX0 cX0_enqueue none K)  {σ : Hp} (h : wpO (f_X0_enqueue_b58  σ) (KU K)) : WW l γ 1 3 ad shC 58 [] [] σ := by
  unfold f_X0_enqueue_b58 at h
  have h := wp_v h
  exact r_vret hc h dX0_enqueue_58
noncomputable def f_X0_enqueue (x0 : Nat) (x1 : Int32) (x2 : Int32) (σ : Hp) : Option (Unit × Hp) := if x1 < 0 then (f_X0_enqueue_b58  σ) else (gO (getI shC 0 x0 0 σ) fun v1 => if v1 ≤ x1 then (f_X0_enqueue_b58  σ) else (gO (getR shC 0 x0 4 σ) fun v2 => gO (aldI shC 0 v2 x1 σ) fun v3 => if 0 ≤ v3 then (f_X0_enqueue_b58  σ) else (gO (getI shC 0 x0 6 σ) fun v4 => if 2000 ≤ v4 then (f_X0_enqueue_b58  σ) else (gO (getR shC 0 x0 4 σ) fun v5 => gO (astI shC 0 v5 x1 x2 σ) fun σ6 => gO (getR shC 0 x0 5 σ6) fun v7 => gO (getI shC 0 x0 6 σ6) fun v8 => gO (astI shC 0 v7 v8 x1 σ6) fun σ9 => gO (getI shC 0 x0 6 σ9) fun v10 => gO (putI shC 0 x0 6 (v10 + 1) σ9) fun σ11 => f_X0_enqueue_b58  σ11))))
set_option maxRecDepth 100000 in
set_option maxHeartbeats 4000000 in
theorem t_X0_enqueue {l : Launch} {γ : Gm} {ad : Nat → Nat} {K : Option Value → Hp → Prop} (hc : Cx l γ 1 3 ad shC RX0 cX0_enqueue none K) {x0 : Nat} {x1 : Int32} {x2 : Int32} {σ : Hp} (h : wpO (f_X0_enqueue x0 x1 x2 σ) (KU K)) : WW l γ 1 3 ad shC 0 [(0, .ref (ad x0)), (1, .int x1), (2, .int x2)] [] σ := by
  unfold f_X0_enqueue at h
  refine r_iload_n hc 1 rfl rfl dX0_enqueue_0 ?_
  refine r_if_lt hc (tgt := 58) dX0_enqueue_1 (by decide) (fun c => ?_) (fun c => ?_)
  · have h := wp_t c h
    refine r_sub [] (lv' := []) rfl ?_
    exact t_X0_enqueue_b58 hc h
  · have h := wp_f c h
    refine r_iload_n hc 1 rfl rfl dX0_enqueue_4 ?_
    refine r_aload_n hc 0 rfl rfl dX0_enqueue_5 ?_
    obtain ⟨v1, ev1, h⟩ := wp_g h
    refine r_getI hc ev1 fl_X0_21 rfl dX0_enqueue_6 ?_
    refine r_icmp_ge hc (tgt := 58) dX0_enqueue_9 (by decide) (fun c => ?_) (fun c => ?_)
    · have h := wp_t c h
      refine r_sub [] (lv' := []) rfl ?_
      exact t_X0_enqueue_b58 hc h
    · have h := wp_f c h
      refine r_aload_n hc 0 rfl rfl dX0_enqueue_12 ?_
      obtain ⟨v2, ev2, h⟩ := wp_g h
      refine r_getR hc ev2 fl_X0_15 rfl dX0_enqueue_13 ?_
      refine r_iload_n hc 1 rfl rfl dX0_enqueue_16 ?_
      obtain ⟨v3, ev3, h⟩ := wp_g h
      refine r_iald hc ev3 dX0_enqueue_17 ?_
      refine r_if_ge hc (tgt := 58) dX0_enqueue_18 (by decide) (fun c => ?_) (fun c => ?_)
      · have h := wp_t c h
        refine r_sub [] (lv' := []) rfl ?_
        exact t_X0_enqueue_b58 hc h
      · have h := wp_f c h
        refine r_aload_n hc 0 rfl rfl dX0_enqueue_21 ?_
        obtain ⟨v4, ev4, h⟩ := wp_g h
        refine r_getI hc ev4 fl_X0_77 rfl dX0_enqueue_22 ?_
        refine r_sipush hc (v := 2000) (by decide) dX0_enqueue_25 ?_
        refine r_icmp_ge hc (tgt := 58) dX0_enqueue_28 (by decide) (fun c => ?_) (fun c => ?_)
        · have h := wp_t c h
          refine r_sub [] (lv' := []) rfl ?_
          exact t_X0_enqueue_b58 hc h
        · have h := wp_f c h
          refine r_aload_n hc 0 rfl rfl dX0_enqueue_31 ?_
          obtain ⟨v5, ev5, h⟩ := wp_g h
          refine r_getR hc ev5 fl_X0_15 rfl dX0_enqueue_32 ?_
          refine r_iload_n hc 1 rfl rfl dX0_enqueue_35 ?_
          refine r_iload_n hc 2 rfl rfl dX0_enqueue_36 ?_
          obtain ⟨σ6, eσ6, h⟩ := wp_g h
          refine r_iast hc eσ6 dX0_enqueue_37 ?_
          refine r_aload_n hc 0 rfl rfl dX0_enqueue_38 ?_
          obtain ⟨v7, ev7, h⟩ := wp_g h
          refine r_getR hc ev7 fl_X0_18 rfl dX0_enqueue_39 ?_
          refine r_aload_n hc 0 rfl rfl dX0_enqueue_42 ?_
          obtain ⟨v8, ev8, h⟩ := wp_g h
          refine r_getI hc ev8 fl_X0_77 rfl dX0_enqueue_43 ?_
          refine r_iload_n hc 1 rfl rfl dX0_enqueue_46 ?_
          obtain ⟨σ9, eσ9, h⟩ := wp_g h
          refine r_iast hc eσ9 dX0_enqueue_47 ?_
          refine r_aload_n hc 0 rfl rfl dX0_enqueue_48 ?_
          refine r_dup hc rfl dX0_enqueue_49 ?_
          obtain ⟨v10, ev10, h⟩ := wp_g h
          refine r_getI hc ev10 fl_X0_77 rfl dX0_enqueue_50 ?_
          refine r_iconst hc (v := 1) (by decide) dX0_enqueue_53 ?_
          refine r_iadd hc dX0_enqueue_54 ?_
          obtain ⟨σ11, eσ11, h⟩ := wp_g h
          refine r_putI hc eσ11 fp_X0_77 rfl dX0_enqueue_55 ?_
          refine r_sub [] (lv' := []) rfl ?_
          exact t_X0_enqueue_b58 hc h
theorem c_X0_enqueue {l : Launch} {x0 : Nat} {x1 : Int32} {x2 : Int32} {σ σ' : Hp} {r : Unit} (h : f_X0_enqueue x0 x1 x2 σ = some (r, σ')) : Mt l yX0_enqueue cX0_enqueue 3 none 1 shC (fun ad => [.ref (ad x0), .int x1, .int x2]) σ (fun ad => none) σ' := mt_i (own := RX0) (by decide) rfl (fun _ => Nat.le_of_ble_eq_true rfl) (fun γ ad K hc hk => t_X0_enqueue hc ⟨_, _, h, hk⟩)

-- NetMaps$Crowd.spread(I)I
theorem dX0_spread_0 : decode cX0_spread 0 = .ok (.aload_n 0, 1) := by decide +kernel
theorem dX0_spread_1 : decode cX0_spread 1 = .ok (.iconst 0, 1) := by decide +kernel
theorem dX0_spread_2 : decode cX0_spread 2 = .ok (.putfield 77, 3) := by decide +kernel
theorem dX0_spread_5 : decode cX0_spread 5 = .ok (.aload_n 0, 1) := by decide +kernel
theorem dX0_spread_6 : decode cX0_spread 6 = .ok (.iload_n 1, 1) := by decide +kernel
theorem dX0_spread_7 : decode cX0_spread 7 = .ok (.iconst 0, 1) := by decide +kernel
theorem dX0_spread_8 : decode cX0_spread 8 = .ok (.invokevirtual 80, 3) := by decide +kernel
theorem dX0_spread_11 : decode cX0_spread 11 = .ok (.iconst 0, 1) := by decide +kernel
theorem dX0_spread_12 : decode cX0_spread 12 = .ok (.istore_n 2, 1) := by decide +kernel
theorem dX0_spread_13 : decode cX0_spread 13 = .ok (.iload_n 2, 1) := by decide +kernel
theorem dX0_spread_14 : decode cX0_spread 14 = .ok (.aload_n 0, 1) := by decide +kernel
theorem dX0_spread_15 : decode cX0_spread 15 = .ok (.getfield 21, 3) := by decide +kernel
theorem dX0_spread_18 : decode cX0_spread 18 = .ok (.if_icmp .ge 81, 3) := by decide +kernel
theorem dX0_spread_21 : decode cX0_spread 21 = .ok (.iload_n 2, 1) := by decide +kernel
theorem dX0_spread_22 : decode cX0_spread 22 = .ok (.aload_n 0, 1) := by decide +kernel
theorem dX0_spread_23 : decode cX0_spread 23 = .ok (.getfield 77, 3) := by decide +kernel
theorem dX0_spread_26 : decode cX0_spread 26 = .ok (.if_icmp .ge 73, 3) := by decide +kernel
theorem dX0_spread_29 : decode cX0_spread 29 = .ok (.aload_n 0, 1) := by decide +kernel
theorem dX0_spread_30 : decode cX0_spread 30 = .ok (.getfield 18, 3) := by decide +kernel
theorem dX0_spread_33 : decode cX0_spread 33 = .ok (.iload_n 2, 1) := by decide +kernel
theorem dX0_spread_34 : decode cX0_spread 34 = .ok (.iaload, 1) := by decide +kernel
theorem dX0_spread_35 : decode cX0_spread 35 = .ok (.istore_n 3, 1) := by decide +kernel
theorem dX0_spread_36 : decode cX0_spread 36 = .ok (.iconst 0, 1) := by decide +kernel
theorem dX0_spread_37 : decode cX0_spread 37 = .ok (.istore 4, 2) := by decide +kernel
theorem dX0_spread_39 : decode cX0_spread 39 = .ok (.iload 4, 2) := by decide +kernel
theorem dX0_spread_41 : decode cX0_spread 41 = .ok (.aload_n 0, 1) := by decide +kernel
theorem dX0_spread_42 : decode cX0_spread 42 = .ok (.getfield 36, 3) := by decide +kernel
theorem dX0_spread_45 : decode cX0_spread 45 = .ok (.if_icmp .ge 48, 3) := by decide +kernel
theorem dX0_spread_48 : decode cX0_spread 48 = .ok (.iconst 0, 1) := by decide +kernel
theorem dX0_spread_49 : decode cX0_spread 49 = .ok (.istore 5, 2) := by decide +kernel
theorem dX0_spread_51 : decode cX0_spread 51 = .ok (.iload 5, 2) := by decide +kernel
theorem dX0_spread_53 : decode cX0_spread 53 = .ok (.aload_n 0, 1) := by decide +kernel
theorem dX0_spread_54 : decode cX0_spread 54 = .ok (.getfield 40, 3) := by decide +kernel
theorem dX0_spread_57 : decode cX0_spread 57 = .ok (.if_icmp .ge 30, 3) := by decide +kernel
theorem dX0_spread_60 : decode cX0_spread 60 = .ok (.aload_n 0, 1) := by decide +kernel
theorem dX0_spread_61 : decode cX0_spread 61 = .ok (.aload_n 0, 1) := by decide +kernel
theorem dX0_spread_62 : decode cX0_spread 62 = .ok (.iload_n 3, 1) := by decide +kernel
theorem dX0_spread_63 : decode cX0_spread 63 = .ok (.iload 4, 2) := by decide +kernel
theorem dX0_spread_65 : decode cX0_spread 65 = .ok (.iload 5, 2) := by decide +kernel
theorem dX0_spread_67 : decode cX0_spread 67 = .ok (.invokevirtual 62, 3) := by decide +kernel
theorem dX0_spread_70 : decode cX0_spread 70 = .ok (.aload_n 0, 1) := by decide +kernel
theorem dX0_spread_71 : decode cX0_spread 71 = .ok (.getfield 15, 3) := by decide +kernel
theorem dX0_spread_74 : decode cX0_spread 74 = .ok (.iload_n 3, 1) := by decide +kernel
theorem dX0_spread_75 : decode cX0_spread 75 = .ok (.iaload, 1) := by decide +kernel
theorem dX0_spread_76 : decode cX0_spread 76 = .ok (.iconst 1, 1) := by decide +kernel
theorem dX0_spread_77 : decode cX0_spread 77 = .ok (.iadd, 1) := by decide +kernel
theorem dX0_spread_78 : decode cX0_spread 78 = .ok (.invokevirtual 80, 3) := by decide +kernel
theorem dX0_spread_81 : decode cX0_spread 81 = .ok (.iinc 5 1, 3) := by decide +kernel
theorem dX0_spread_84 : decode cX0_spread 84 = .ok (.goto (-33), 3) := by decide +kernel
theorem dX0_spread_87 : decode cX0_spread 87 = .ok (.iinc 4 1, 3) := by decide +kernel
theorem dX0_spread_90 : decode cX0_spread 90 = .ok (.goto (-51), 3) := by decide +kernel
theorem dX0_spread_93 : decode cX0_spread 93 = .ok (.iinc 2 1, 3) := by decide +kernel
theorem dX0_spread_96 : decode cX0_spread 96 = .ok (.goto (-83), 3) := by decide +kernel
theorem dX0_spread_99 : decode cX0_spread 99 = .ok (.aload_n 0, 1) := by decide +kernel
theorem dX0_spread_100 : decode cX0_spread 100 = .ok (.getfield 77, 3) := by decide +kernel
theorem dX0_spread_103 : decode cX0_spread 103 = .ok (.ireturn, 1) := by decide +kernel
noncomputable def f_X0_spread_L51 (x0 : Nat) (x2 : Int32) (x3 : Int32) (x4 : Int32) (v : (Int32)) (σ : Hp) : Option (((Int32) ⊕ (Unit)) × Hp) := gO (getI shC 0 x0 2 σ) fun v1 => if v1 ≤ v then (some (Sum.inr (), σ)) else (gO (chk shC x0 0) fun _ => bO (f_X0_beside x0 x3 x4 v σ) fun r2 σ3 => gO (getR shC 0 x0 4 σ3) fun v5 => gO (aldI shC 0 v5 x3 σ3) fun v6 => gO (chk shC x0 0) fun _ => bO (f_X0_enqueue x0 r2 (v6 + 1) σ3) fun _ σ8 => some (Sum.inl (v + 1), σ8))
set_option maxRecDepth 100000 in
set_option maxHeartbeats 4000000 in
theorem t_X0_spread_L51 {l : Launch} {γ : Gm} {ad : Nat → Nat} {K : Option Value → Hp → Prop}  (hc : Cx l γ 3 6 ad shC RX0 cX0_spread (some .int) K) {x0 : Nat} {x2 : Int32} {x3 : Int32} {x4 : Int32} {v : (Int32)} {σ : Hp} {KX : (Unit) → Hp → Prop} (h : wpO (wh (f_X0_spread_L51 x0 x2 x3 x4) v σ) KX) (kx87 : ∀ (v : Unit) (σ : Hp), KX v σ → WW l γ 3 6 ad shC 87 [(0, .ref (ad x0)), (2, .int x2), (3, .int x3), (4, .int x4)] [] σ) : WW l γ 3 6 ad shC 51 [(0, .ref (ad x0)), (2, .int x2), (3, .int x3), (4, .int x4), (5, .int v)] [] σ := by
  refine wh_W (P := fun v σ => WW l γ 3 6 ad shC 51 [(0, .ref (ad x0)), (2, .int x2), (3, .int x3), (4, .int x4), (5, .int v)] [] σ) (fun v σ h => ?_) h
  have kn : ∀ (v : (Int32)) (σ : Hp), WW l γ 3 6 ad shC 51 [(0, .ref (ad x0)), (2, .int x2), (3, .int x3), (4, .int x4), (5, .int v)] [] σ → WW l γ 3 6 ad shC 51 [(0, .ref (ad x0)), (2, .int x2), (3, .int x3), (4, .int x4), (5, .int v)] [] σ := fun _ _ h => h
  · unfold f_X0_spread_L51 at h
    refine r_iload hc 4 rfl dX0_spread_51 ?_
    refine r_aload_n hc 0 rfl rfl dX0_spread_53 ?_
    obtain ⟨v1, ev1, h⟩ := wp_g h
    refine r_getI hc ev1 fl_X0_40 rfl dX0_spread_54 ?_
    refine r_icmp_ge hc (tgt := 87) dX0_spread_57 (by decide) (fun c => ?_) (fun c => ?_)
    · have h := wp_t c h
      refine r_sub [0, 1, 2, 3] (lv' := [(0, .ref (ad x0)), (2, .int x2), (3, .int x3), (4, .int x4)]) rfl ?_
      have h := wp_v h
      exact kx87 () _ h
    · have h := wp_f c h
      refine r_aload_n hc 0 rfl rfl dX0_spread_60 ?_
      refine r_aload_n hc 0 rfl rfl dX0_spread_61 ?_
      refine r_iload_n hc 2 rfl rfl dX0_spread_62 ?_
      refine r_iload hc 3 rfl dX0_spread_63 ?_
      refine r_iload hc 4 rfl dX0_spread_65 ?_
      obtain ⟨_, ek4, h⟩ := wp_g h
      obtain ⟨r2, σ3, er2, h⟩ := wp_b h
      refine r_callV hc (k0 := x0) mv_X0_beside ml_X0_62 (c_X0_beside er2) (chk_of ek4) cls_0.1 rfl rfl rfl (by decide) rfl (Nat.le_of_ble_eq_true rfl) dX0_spread_67 ?_
      refine r_aload_n hc 0 rfl rfl dX0_spread_70 ?_
      obtain ⟨v5, ev5, h⟩ := wp_g h
      refine r_getR hc ev5 fl_X0_15 rfl dX0_spread_71 ?_
      refine r_iload_n hc 2 rfl rfl dX0_spread_74 ?_
      obtain ⟨v6, ev6, h⟩ := wp_g h
      refine r_iald hc ev6 dX0_spread_75 ?_
      refine r_iconst hc (v := 1) (by decide) dX0_spread_76 ?_
      refine r_iadd hc dX0_spread_77 ?_
      obtain ⟨_, ek9, h⟩ := wp_g h
      obtain ⟨_, σ8, er7, h⟩ := wp_b h
      refine r_callV hc (k0 := x0) mv_X0_enqueue ml_X0_80 (c_X0_enqueue er7) (chk_of ek9) cls_0.1 rfl rfl rfl (by decide) rfl (Nat.le_of_ble_eq_true rfl) dX0_spread_78 ?_
      refine r_iincE hc (j := 4) (w := 1) (lv' := [(5, .int (v + 1)), (0, .ref (ad x0)), (2, .int x2), (3, .int x3), (4, .int x4)]) rfl (by decide) rfl (by decide) rfl dX0_spread_81 ?_
      refine r_goto hc (tgt := 51) dX0_spread_84 (by decide) ?_
      refine r_sub [1, 2, 3, 4, 0] (lv' := [(0, .ref (ad x0)), (2, .int x2), (3, .int x3), (4, .int x4), (5, .int (v + 1))]) rfl ?_
      have h := wp_v h
      exact kn (v + 1) _ h
noncomputable def f_X0_spread_L39 (x0 : Nat) (x2 : Int32) (x3 : Int32) (v : (Int32)) (σ : Hp) : Option (((Int32) ⊕ (Unit)) × Hp) := gO (getI shC 0 x0 1 σ) fun v1 => if v1 ≤ v then (some (Sum.inr (), σ)) else (bO (wh (f_X0_spread_L51 x0 x2 x3 v) 0 σ) fun y2 σ3 => (some (Sum.inl (v + 1), σ3)))
set_option maxRecDepth 100000 in
set_option maxHeartbeats 4000000 in
theorem t_X0_spread_L39 {l : Launch} {γ : Gm} {ad : Nat → Nat} {K : Option Value → Hp → Prop}  (hc : Cx l γ 3 6 ad shC RX0 cX0_spread (some .int) K) {x0 : Nat} {x2 : Int32} {x3 : Int32} {v : (Int32)} {σ : Hp} {KX : (Unit) → Hp → Prop} (h : wpO (wh (f_X0_spread_L39 x0 x2 x3) v σ) KX) (kx93 : ∀ (v : Unit) (σ : Hp), KX v σ → WW l γ 3 6 ad shC 93 [(0, .ref (ad x0)), (2, .int x2)] [] σ) : WW l γ 3 6 ad shC 39 [(0, .ref (ad x0)), (2, .int x2), (3, .int x3), (4, .int v)] [] σ := by
  refine wh_W (P := fun v σ => WW l γ 3 6 ad shC 39 [(0, .ref (ad x0)), (2, .int x2), (3, .int x3), (4, .int v)] [] σ) (fun v σ h => ?_) h
  have kn : ∀ (v : (Int32)) (σ : Hp), WW l γ 3 6 ad shC 39 [(0, .ref (ad x0)), (2, .int x2), (3, .int x3), (4, .int v)] [] σ → WW l γ 3 6 ad shC 39 [(0, .ref (ad x0)), (2, .int x2), (3, .int x3), (4, .int v)] [] σ := fun _ _ h => h
  · unfold f_X0_spread_L39 at h
    refine r_iload hc 3 rfl dX0_spread_39 ?_
    refine r_aload_n hc 0 rfl rfl dX0_spread_41 ?_
    obtain ⟨v1, ev1, h⟩ := wp_g h
    refine r_getI hc ev1 fl_X0_36 rfl dX0_spread_42 ?_
    refine r_icmp_ge hc (tgt := 93) dX0_spread_45 (by decide) (fun c => ?_) (fun c => ?_)
    · have h := wp_t c h
      refine r_sub [0, 1] (lv' := [(0, .ref (ad x0)), (2, .int x2)]) rfl ?_
      have h := wp_v h
      exact kx93 () _ h
    · have h := wp_f c h
      refine r_iconst hc (v := 0) (by decide) dX0_spread_48 ?_
      refine r_istoreE hc (i := 5) (lv' := [(5, .int 0), (0, .ref (ad x0)), (2, .int x2), (3, .int x3), (4, .int v)]) rfl (by decide) rfl dX0_spread_49 ?_
      refine r_sub [1, 2, 3, 4, 0] (lv' := [(0, .ref (ad x0)), (2, .int x2), (3, .int x3), (4, .int v), (5, .int 0)]) rfl ?_
      refine t_X0_spread_L51 hc (wp_bb h) ?_
      · intro y2 σ3 h
        refine r_iincE hc (j := 3) (w := 1) (lv' := [(4, .int (v + 1)), (0, .ref (ad x0)), (2, .int x2), (3, .int x3)]) rfl (by decide) rfl (by decide) rfl dX0_spread_87 ?_
        refine r_goto hc (tgt := 39) dX0_spread_90 (by decide) ?_
        refine r_sub [1, 2, 3, 0] (lv' := [(0, .ref (ad x0)), (2, .int x2), (3, .int x3), (4, .int (v + 1))]) rfl ?_
        have h := wp_v h
        exact kn (v + 1) _ h
noncomputable def f_X0_spread_L13 (x0 : Nat) (v : (Int32)) (σ : Hp) : Option (((Int32) ⊕ (Unit)) × Hp) := gO (getI shC 0 x0 0 σ) fun v1 => if v1 ≤ v then (some (Sum.inr (), σ)) else (gO (getI shC 0 x0 6 σ) fun v2 => if v2 ≤ v then (some (Sum.inr (), σ)) else (gO (getR shC 0 x0 5 σ) fun v3 => gO (aldI shC 0 v3 v σ) fun v4 => bO (wh (f_X0_spread_L39 x0 v v4) 0 σ) fun y5 σ6 => (some (Sum.inl (v + 1), σ6))))
set_option maxRecDepth 100000 in
set_option maxHeartbeats 4000000 in
theorem t_X0_spread_L13 {l : Launch} {γ : Gm} {ad : Nat → Nat} {K : Option Value → Hp → Prop}  (hc : Cx l γ 3 6 ad shC RX0 cX0_spread (some .int) K) {x0 : Nat} {v : (Int32)} {σ : Hp} {KX : (Unit) → Hp → Prop} (h : wpO (wh (f_X0_spread_L13 x0) v σ) KX) (kx99 : ∀ (v : Unit) (σ : Hp), KX v σ → WW l γ 3 6 ad shC 99 [(0, .ref (ad x0))] [] σ) : WW l γ 3 6 ad shC 13 [(0, .ref (ad x0)), (2, .int v)] [] σ := by
  refine wh_W (P := fun v σ => WW l γ 3 6 ad shC 13 [(0, .ref (ad x0)), (2, .int v)] [] σ) (fun v σ h => ?_) h
  have kn : ∀ (v : (Int32)) (σ : Hp), WW l γ 3 6 ad shC 13 [(0, .ref (ad x0)), (2, .int v)] [] σ → WW l γ 3 6 ad shC 13 [(0, .ref (ad x0)), (2, .int v)] [] σ := fun _ _ h => h
  · unfold f_X0_spread_L13 at h
    refine r_iload_n hc 1 rfl rfl dX0_spread_13 ?_
    refine r_aload_n hc 0 rfl rfl dX0_spread_14 ?_
    obtain ⟨v1, ev1, h⟩ := wp_g h
    refine r_getI hc ev1 fl_X0_21 rfl dX0_spread_15 ?_
    refine r_icmp_ge hc (tgt := 99) dX0_spread_18 (by decide) (fun c => ?_) (fun c => ?_)
    · have h := wp_t c h
      refine r_sub [0] (lv' := [(0, .ref (ad x0))]) rfl ?_
      have h := wp_v h
      exact kx99 () _ h
    · have h := wp_f c h
      refine r_iload_n hc 1 rfl rfl dX0_spread_21 ?_
      refine r_aload_n hc 0 rfl rfl dX0_spread_22 ?_
      obtain ⟨v2, ev2, h⟩ := wp_g h
      refine r_getI hc ev2 fl_X0_77 rfl dX0_spread_23 ?_
      refine r_icmp_ge hc (tgt := 99) dX0_spread_26 (by decide) (fun c => ?_) (fun c => ?_)
      · have h := wp_t c h
        refine r_sub [0] (lv' := [(0, .ref (ad x0))]) rfl ?_
        have h := wp_v h
        exact kx99 () _ h
      · have h := wp_f c h
        refine r_aload_n hc 0 rfl rfl dX0_spread_29 ?_
        obtain ⟨v3, ev3, h⟩ := wp_g h
        refine r_getR hc ev3 fl_X0_18 rfl dX0_spread_30 ?_
        refine r_iload_n hc 1 rfl rfl dX0_spread_33 ?_
        obtain ⟨v4, ev4, h⟩ := wp_g h
        refine r_iald hc ev4 dX0_spread_34 ?_
        refine r_istore_nE hc (i := 3) (lv' := [(3, .int v4), (0, .ref (ad x0)), (2, .int v)]) rfl rfl (by decide) rfl dX0_spread_35 ?_
        refine r_iconst hc (v := 0) (by decide) dX0_spread_36 ?_
        refine r_istoreE hc (i := 4) (lv' := [(4, .int 0), (3, .int v4), (0, .ref (ad x0)), (2, .int v)]) rfl (by decide) rfl dX0_spread_37 ?_
        refine r_sub [2, 3, 1, 0] (lv' := [(0, .ref (ad x0)), (2, .int v), (3, .int v4), (4, .int 0)]) rfl ?_
        refine t_X0_spread_L39 hc (wp_bb h) ?_
        · intro y5 σ6 h
          refine r_iincE hc (j := 1) (w := 1) (lv' := [(2, .int (v + 1)), (0, .ref (ad x0))]) rfl (by decide) rfl (by decide) rfl dX0_spread_93 ?_
          refine r_goto hc (tgt := 13) dX0_spread_96 (by decide) ?_
          refine r_sub [1, 0] (lv' := [(0, .ref (ad x0)), (2, .int (v + 1))]) rfl ?_
          have h := wp_v h
          exact kn (v + 1) _ h
noncomputable def f_X0_spread_b99 (x0 : Nat) (σ : Hp) : Option (Int32 × Hp) := gO (getI shC 0 x0 6 σ) fun v1 => some (v1, σ)
set_option maxRecDepth 100000 in
set_option maxHeartbeats 4000000 in
theorem t_X0_spread_b99 {l : Launch} {γ : Gm} {ad : Nat → Nat} {K : Option Value → Hp → Prop} (hc : Cx l γ 3 6 ad shC RX0 cX0_spread (some .int) K) {x0 : Nat} {σ : Hp} (h : wpO (f_X0_spread_b99 x0 σ) (KI K)) : WW l γ 3 6 ad shC 99 [(0, .ref (ad x0))] [] σ := by
  unfold f_X0_spread_b99 at h
  refine r_aload_n hc 0 rfl rfl dX0_spread_99 ?_
  obtain ⟨v1, ev1, h⟩ := wp_g h
  refine r_getI hc ev1 fl_X0_77 rfl dX0_spread_100 ?_
  have h := wp_v h
  exact r_iret hc h dX0_spread_103
noncomputable def f_X0_spread (x0 : Nat) (x1 : Int32) (σ : Hp) : Option (Int32 × Hp) := gO (putI shC 0 x0 6 0 σ) fun σ1 => gO (chk shC x0 0) fun _ => bO (f_X0_enqueue x0 x1 0 σ1) fun _ σ3 => bO (wh (f_X0_spread_L13 x0) 0 σ3) fun y5 σ6 => (f_X0_spread_b99 x0 σ6)
set_option maxRecDepth 100000 in
set_option maxHeartbeats 4000000 in
theorem t_X0_spread {l : Launch} {γ : Gm} {ad : Nat → Nat} {K : Option Value → Hp → Prop} (hc : Cx l γ 3 6 ad shC RX0 cX0_spread (some .int) K) {x0 : Nat} {x1 : Int32} {σ : Hp} (h : wpO (f_X0_spread x0 x1 σ) (KI K)) : WW l γ 3 6 ad shC 0 [(0, .ref (ad x0)), (1, .int x1)] [] σ := by
  unfold f_X0_spread at h
  refine r_aload_n hc 0 rfl rfl dX0_spread_0 ?_
  refine r_iconst hc (v := 0) (by decide) dX0_spread_1 ?_
  obtain ⟨σ1, eσ1, h⟩ := wp_g h
  refine r_putI hc eσ1 fp_X0_77 rfl dX0_spread_2 ?_
  refine r_aload_n hc 0 rfl rfl dX0_spread_5 ?_
  refine r_iload_n hc 1 rfl rfl dX0_spread_6 ?_
  refine r_iconst hc (v := 0) (by decide) dX0_spread_7 ?_
  obtain ⟨_, ek4, h⟩ := wp_g h
  obtain ⟨_, σ3, er2, h⟩ := wp_b h
  refine r_callV hc (k0 := x0) mv_X0_enqueue ml_X0_80 (c_X0_enqueue er2) (chk_of ek4) cls_0.1 rfl rfl rfl (by decide) rfl (Nat.le_of_ble_eq_true rfl) dX0_spread_8 ?_
  refine r_iconst hc (v := 0) (by decide) dX0_spread_11 ?_
  refine r_istore_nE hc (i := 2) (lv' := [(2, .int 0), (0, .ref (ad x0)), (1, .int x1)]) rfl rfl (by decide) rfl dX0_spread_12 ?_
  refine r_sub [1, 0] (lv' := [(0, .ref (ad x0)), (2, .int 0)]) rfl ?_
  refine t_X0_spread_L13 hc (wp_bb h) ?_
  · intro y5 σ6 h
    exact t_X0_spread_b99 hc h
theorem c_X0_spread {l : Launch} {x0 : Nat} {x1 : Int32} {σ σ' : Hp} {r : Int32} (h : f_X0_spread x0 x1 σ = some (r, σ')) : Mt l yX0_spread cX0_spread 6 (some .int) 3 shC (fun ad => [.ref (ad x0), .int x1]) σ (fun ad => some (.int r)) σ' := mt_i (own := RX0) (by decide) rfl (fun _ => Nat.le_of_ble_eq_true rfl) (fun γ ad K hc hk => t_X0_spread hc ⟨_, _, h, hk⟩)

-- NetMaps.steps(IIII)I
theorem dX6_steps_0 : decode cX6_steps 0 = .ok (.iload_n 1, 1) := by decide +kernel
theorem dX6_steps_1 : decode cX6_steps 1 = .ok (.invokestatic 76, 3) := by decide +kernel
theorem dX6_steps_4 : decode cX6_steps 4 = .ok (.ifCond .ne 19, 3) := by decide +kernel
theorem dX6_steps_7 : decode cX6_steps 7 = .ok (.iload_n 2, 1) := by decide +kernel
theorem dX6_steps_8 : decode cX6_steps 8 = .ok (.invokestatic 76, 3) := by decide +kernel
theorem dX6_steps_11 : decode cX6_steps 11 = .ok (.ifCond .ne 12, 3) := by decide +kernel
theorem dX6_steps_14 : decode cX6_steps 14 = .ok (.iload_n 3, 1) := by decide +kernel
theorem dX6_steps_15 : decode cX6_steps 15 = .ok (.ifCond .lt 8, 3) := by decide +kernel
theorem dX6_steps_18 : decode cX6_steps 18 = .ok (.iload 4, 2) := by decide +kernel
theorem dX6_steps_20 : decode cX6_steps 20 = .ok (.ifCond .ge 5, 3) := by decide +kernel
theorem dX6_steps_23 : decode cX6_steps 23 = .ok (.iconst (-1), 1) := by decide +kernel
theorem dX6_steps_24 : decode cX6_steps 24 = .ok (.ireturn, 1) := by decide +kernel
theorem dX6_steps_25 : decode cX6_steps 25 = .ok (.aload_n 0, 1) := by decide +kernel
theorem dX6_steps_26 : decode cX6_steps 26 = .ok (.iload_n 1, 1) := by decide +kernel
theorem dX6_steps_27 : decode cX6_steps 27 = .ok (.invokevirtual 91, 3) := by decide +kernel
theorem dX6_steps_30 : decode cX6_steps 30 = .ok (.invokevirtual 109, 3) := by decide +kernel
theorem dX6_steps_33 : decode cX6_steps 33 = .ok (.ifCond .ne 14, 3) := by decide +kernel
theorem dX6_steps_36 : decode cX6_steps 36 = .ok (.aload_n 0, 1) := by decide +kernel
theorem dX6_steps_37 : decode cX6_steps 37 = .ok (.iload_n 2, 1) := by decide +kernel
theorem dX6_steps_38 : decode cX6_steps 38 = .ok (.invokevirtual 91, 3) := by decide +kernel
theorem dX6_steps_41 : decode cX6_steps 41 = .ok (.invokevirtual 109, 3) := by decide +kernel
theorem dX6_steps_44 : decode cX6_steps 44 = .ok (.ifCond .eq 6, 3) := by decide +kernel
theorem dX6_steps_47 : decode cX6_steps 47 = .ok (.bipush (-2), 2) := by decide +kernel
theorem dX6_steps_49 : decode cX6_steps 49 = .ok (.ireturn, 1) := by decide +kernel
theorem dX6_steps_50 : decode cX6_steps 50 = .ok (.aload_n 0, 1) := by decide +kernel
theorem dX6_steps_51 : decode cX6_steps 51 = .ok (.aload_n 0, 1) := by decide +kernel
theorem dX6_steps_52 : decode cX6_steps 52 = .ok (.iload_n 1, 1) := by decide +kernel
theorem dX6_steps_53 : decode cX6_steps 53 = .ok (.invokevirtual 91, 3) := by decide +kernel
theorem dX6_steps_56 : decode cX6_steps 56 = .ok (.aload_n 0, 1) := by decide +kernel
theorem dX6_steps_57 : decode cX6_steps 57 = .ok (.iload_n 2, 1) := by decide +kernel
theorem dX6_steps_58 : decode cX6_steps 58 = .ok (.invokevirtual 91, 3) := by decide +kernel
theorem dX6_steps_61 : decode cX6_steps 61 = .ok (.invokevirtual 292, 3) := by decide +kernel
theorem dX6_steps_64 : decode cX6_steps 64 = .ok (.ifCond .eq 26, 3) := by decide +kernel
theorem dX6_steps_67 : decode cX6_steps 67 = .ok (.iload_n 3, 1) := by decide +kernel
theorem dX6_steps_68 : decode cX6_steps 68 = .ok (.aload_n 0, 1) := by decide +kernel
theorem dX6_steps_69 : decode cX6_steps 69 = .ok (.getfield 55, 3) := by decide +kernel
theorem dX6_steps_72 : decode cX6_steps 72 = .ok (.getfield 295, 3) := by decide +kernel
theorem dX6_steps_75 : decode cX6_steps 75 = .ok (.if_icmp .ge 15, 3) := by decide +kernel
theorem dX6_steps_78 : decode cX6_steps 78 = .ok (.iload 4, 2) := by decide +kernel
theorem dX6_steps_80 : decode cX6_steps 80 = .ok (.aload_n 0, 1) := by decide +kernel
theorem dX6_steps_81 : decode cX6_steps 81 = .ok (.getfield 55, 3) := by decide +kernel
theorem dX6_steps_84 : decode cX6_steps 84 = .ok (.getfield 295, 3) := by decide +kernel
theorem dX6_steps_87 : decode cX6_steps 87 = .ok (.if_icmp .lt 6, 3) := by decide +kernel
theorem dX6_steps_90 : decode cX6_steps 90 = .ok (.bipush (-3), 2) := by decide +kernel
theorem dX6_steps_92 : decode cX6_steps 92 = .ok (.ireturn, 1) := by decide +kernel
theorem dX6_steps_93 : decode cX6_steps 93 = .ok (.aload_n 0, 1) := by decide +kernel
theorem dX6_steps_94 : decode cX6_steps 94 = .ok (.getfield 55, 3) := by decide +kernel
theorem dX6_steps_97 : decode cX6_steps 97 = .ok (.iload_n 3, 1) := by decide +kernel
theorem dX6_steps_98 : decode cX6_steps 98 = .ok (.invokevirtual 298, 3) := by decide +kernel
theorem dX6_steps_101 : decode cX6_steps 101 = .ok (.pop, 1) := by decide +kernel
theorem dX6_steps_102 : decode cX6_steps 102 = .ok (.aload_n 0, 1) := by decide +kernel
theorem dX6_steps_103 : decode cX6_steps 103 = .ok (.getfield 55, 3) := by decide +kernel
theorem dX6_steps_106 : decode cX6_steps 106 = .ok (.getfield 301, 3) := by decide +kernel
theorem dX6_steps_109 : decode cX6_steps 109 = .ok (.iload 4, 2) := by decide +kernel
theorem dX6_steps_111 : decode cX6_steps 111 = .ok (.iaload, 1) := by decide +kernel
theorem dX6_steps_112 : decode cX6_steps 112 = .ok (.ifCond .ge 8, 3) := by decide +kernel
theorem dX6_steps_115 : decode cX6_steps 115 = .ok (.bipush (-4), 2) := by decide +kernel
theorem dX6_steps_117 : decode cX6_steps 117 = .ok (.goto 13, 3) := by decide +kernel
theorem dX6_steps_120 : decode cX6_steps 120 = .ok (.aload_n 0, 1) := by decide +kernel
theorem dX6_steps_121 : decode cX6_steps 121 = .ok (.getfield 55, 3) := by decide +kernel
theorem dX6_steps_124 : decode cX6_steps 124 = .ok (.getfield 301, 3) := by decide +kernel
theorem dX6_steps_127 : decode cX6_steps 127 = .ok (.iload 4, 2) := by decide +kernel
theorem dX6_steps_129 : decode cX6_steps 129 = .ok (.iaload, 1) := by decide +kernel
theorem dX6_steps_130 : decode cX6_steps 130 = .ok (.ireturn, 1) := by decide +kernel
noncomputable def f_X6_steps_b23  (σ : Hp) : Option (Int32 × Hp) := some ((-1), σ)
set_option maxRecDepth 100000 in
set_option maxHeartbeats 4000000 in
theorem t_X6_steps_b23 {l : Launch} {γ : Gm} {ad : Nat → Nat} {K : Option Value → Hp → Prop} (hc : Cx l γ 36 5 ad shC RX6 cX6_steps (some .int) K)  {σ : Hp} (h : wpO (f_X6_steps_b23  σ) (KI K)) : WW l γ 36 5 ad shC 23 [] [] σ := by
  unfold f_X6_steps_b23 at h
  refine r_iconst hc (v := (-1)) (by decide) dX6_steps_23 ?_
  have h := wp_v h
  exact r_iret hc h dX6_steps_24
noncomputable def f_X6_steps_b47  (σ : Hp) : Option (Int32 × Hp) := some ((-2), σ)
set_option maxRecDepth 100000 in
set_option maxHeartbeats 4000000 in
theorem t_X6_steps_b47 {l : Launch} {γ : Gm} {ad : Nat → Nat} {K : Option Value → Hp → Prop} (hc : Cx l γ 36 5 ad shC RX6 cX6_steps (some .int) K)  {σ : Hp} (h : wpO (f_X6_steps_b47  σ) (KI K)) : WW l γ 36 5 ad shC 47 [] [] σ := by
  unfold f_X6_steps_b47 at h
  refine r_bipush hc (v := (-2)) (by decide) dX6_steps_47 ?_
  have h := wp_v h
  exact r_iret hc h dX6_steps_49
noncomputable def f_X6_steps_b90  (σ : Hp) : Option (Int32 × Hp) := some ((-3), σ)
set_option maxRecDepth 100000 in
set_option maxHeartbeats 4000000 in
theorem t_X6_steps_b90 {l : Launch} {γ : Gm} {ad : Nat → Nat} {K : Option Value → Hp → Prop} (hc : Cx l γ 36 5 ad shC RX6 cX6_steps (some .int) K)  {σ : Hp} (h : wpO (f_X6_steps_b90  σ) (KI K)) : WW l γ 36 5 ad shC 90 [] [] σ := by
  unfold f_X6_steps_b90 at h
  refine r_bipush hc (v := (-3)) (by decide) dX6_steps_90 ?_
  have h := wp_v h
  exact r_iret hc h dX6_steps_92
noncomputable def f_X6_steps_b130 (s0 : Int32) (σ : Hp) : Option (Int32 × Hp) := some (s0, σ)
set_option maxRecDepth 100000 in
set_option maxHeartbeats 4000000 in
theorem t_X6_steps_b130 {l : Launch} {γ : Gm} {ad : Nat → Nat} {K : Option Value → Hp → Prop} (hc : Cx l γ 36 5 ad shC RX6 cX6_steps (some .int) K) {s0 : Int32} {σ : Hp} (h : wpO (f_X6_steps_b130 s0 σ) (KI K)) : WW l γ 36 5 ad shC 130 [] [.int s0] σ := by
  unfold f_X6_steps_b130 at h
  have h := wp_v h
  exact r_iret hc h dX6_steps_130
noncomputable def f_X6_steps (x0 : Nat) (x1 : Int32) (x2 : Int32) (x3 : Int32) (x4 : Int32) (σ : Hp) : Option (Int32 × Hp) := bO (f_X6_noDrawer x1 σ) fun r1 σ2 => if r1 = 0 then (bO (f_X6_noDrawer x2 σ2) fun r3 σ4 => if r3 = 0 then (if x3 < 0 then (f_X6_steps_b23  σ4) else (if 0 ≤ x4 then (gO (chk shC x0 6) fun _ => bO (f_X6_in x0 x1 σ4) fun r5 σ6 => gO (chk shC r5 1) fun _ => bO (f_X1_isEmpty r5 σ6) fun r8 σ9 => if r8 = 0 then (gO (chk shC x0 6) fun _ => bO (f_X6_in x0 x2 σ9) fun r11 σ12 => gO (chk shC r11 1) fun _ => bO (f_X1_isEmpty r11 σ12) fun r14 σ15 => if r14 = 0 then (gO (chk shC x0 6) fun _ => bO (f_X6_in x0 x1 σ15) fun r17 σ18 => gO (chk shC x0 6) fun _ => bO (f_X6_in x0 x2 σ18) fun r20 σ21 => gO (chk shC x0 6) fun _ => bO (f_X6_gathered x0 r17 r20 σ21) fun r23 σ24 => if r23 = 0 then (f_X6_steps_b90  σ24) else (gO (getR shC 6 x0 9 σ24) fun v26 => gO (getI shC 0 v26 0 σ24) fun v27 => if v27 ≤ x3 then (f_X6_steps_b90  σ24) else (gO (getR shC 6 x0 9 σ24) fun v28 => gO (getI shC 0 v28 0 σ24) fun v29 => if x4 < v29 then (gO (getR shC 6 x0 9 σ24) fun v30 => gO (chk shC v30 0) fun _ => bO (f_X0_spread v30 x3 σ24) fun r31 σ32 => gO (getR shC 6 x0 9 σ32) fun v34 => gO (getR shC 0 v34 4 σ32) fun v35 => gO (aldI shC 0 v35 x4 σ32) fun v36 => if 0 ≤ v36 then (gO (getR shC 6 x0 9 σ32) fun v37 => gO (getR shC 0 v37 4 σ32) fun v38 => gO (aldI shC 0 v38 x4 σ32) fun v39 => f_X6_steps_b130 v39 σ32) else (f_X6_steps_b130 (-4) σ32)) else (f_X6_steps_b90  σ24)))) else (f_X6_steps_b47  σ15)) else (f_X6_steps_b47  σ9)) else (f_X6_steps_b23  σ4))) else (f_X6_steps_b23  σ4)) else (f_X6_steps_b23  σ2)
set_option maxRecDepth 100000 in
set_option maxHeartbeats 4000000 in
theorem t_X6_steps {l : Launch} {γ : Gm} {ad : Nat → Nat} {K : Option Value → Hp → Prop} (hc : Cx l γ 36 5 ad shC RX6 cX6_steps (some .int) K) {x0 : Nat} {x1 : Int32} {x2 : Int32} {x3 : Int32} {x4 : Int32} {σ : Hp} (h : wpO (f_X6_steps x0 x1 x2 x3 x4 σ) (KI K)) : WW l γ 36 5 ad shC 0 [(0, .ref (ad x0)), (1, .int x1), (2, .int x2), (3, .int x3), (4, .int x4)] [] σ := by
  unfold f_X6_steps at h
  refine r_iload_n hc 1 rfl rfl dX6_steps_0 ?_
  obtain ⟨r1, σ2, er1, h⟩ := wp_b h
  refine r_callS hc ms_X6_noDrawer ml_X6_76 (c_X6_noDrawer er1) rfl rfl (by decide) rfl (Nat.le_of_ble_eq_true rfl) dX6_steps_1 ?_
  refine r_if_ne hc (tgt := 23) dX6_steps_4 (by decide) (fun c => ?_) (fun c => ?_)
  · have h := wp_f c h
    refine r_sub [] (lv' := []) rfl ?_
    exact t_X6_steps_b23 hc h
  · have h := wp_t c h
    refine r_iload_n hc 2 rfl rfl dX6_steps_7 ?_
    obtain ⟨r3, σ4, er3, h⟩ := wp_b h
    refine r_callS hc ms_X6_noDrawer ml_X6_76 (c_X6_noDrawer er3) rfl rfl (by decide) rfl (Nat.le_of_ble_eq_true rfl) dX6_steps_8 ?_
    refine r_if_ne hc (tgt := 23) dX6_steps_11 (by decide) (fun c => ?_) (fun c => ?_)
    · have h := wp_f c h
      refine r_sub [] (lv' := []) rfl ?_
      exact t_X6_steps_b23 hc h
    · have h := wp_t c h
      refine r_iload_n hc 3 rfl rfl dX6_steps_14 ?_
      refine r_if_lt hc (tgt := 23) dX6_steps_15 (by decide) (fun c => ?_) (fun c => ?_)
      · have h := wp_t c h
        refine r_sub [] (lv' := []) rfl ?_
        exact t_X6_steps_b23 hc h
      · have h := wp_f c h
        refine r_iload hc 4 rfl dX6_steps_18 ?_
        refine r_if_ge hc (tgt := 25) dX6_steps_20 (by decide) (fun c => ?_) (fun c => ?_)
        · have h := wp_t c h
          refine r_aload_n hc 0 rfl rfl dX6_steps_25 ?_
          refine r_iload_n hc 1 rfl rfl dX6_steps_26 ?_
          obtain ⟨_, ek7, h⟩ := wp_g h
          obtain ⟨r5, σ6, er5, h⟩ := wp_b h
          refine r_callV hc (k0 := x0) mv_X6_in ml_X6_91 (c_X6_in er5) (chk_of ek7) cls_6.1 rfl rfl rfl (by decide) rfl (Nat.le_of_ble_eq_true rfl) dX6_steps_27 ?_
          obtain ⟨_, ek10, h⟩ := wp_g h
          obtain ⟨r8, σ9, er8, h⟩ := wp_b h
          refine r_callV hc (k0 := r5) mv_X1_isEmpty ml_X6_109 (c_X1_isEmpty er8) (chk_of ek10) cls_1.1 rfl rfl rfl (by decide) rfl (Nat.le_of_ble_eq_true rfl) dX6_steps_30 ?_
          refine r_if_ne hc (tgt := 47) dX6_steps_33 (by decide) (fun c => ?_) (fun c => ?_)
          · have h := wp_f c h
            refine r_sub [] (lv' := []) rfl ?_
            exact t_X6_steps_b47 hc h
          · have h := wp_t c h
            refine r_aload_n hc 0 rfl rfl dX6_steps_36 ?_
            refine r_iload_n hc 2 rfl rfl dX6_steps_37 ?_
            obtain ⟨_, ek13, h⟩ := wp_g h
            obtain ⟨r11, σ12, er11, h⟩ := wp_b h
            refine r_callV hc (k0 := x0) mv_X6_in ml_X6_91 (c_X6_in er11) (chk_of ek13) cls_6.1 rfl rfl rfl (by decide) rfl (Nat.le_of_ble_eq_true rfl) dX6_steps_38 ?_
            obtain ⟨_, ek16, h⟩ := wp_g h
            obtain ⟨r14, σ15, er14, h⟩ := wp_b h
            refine r_callV hc (k0 := r11) mv_X1_isEmpty ml_X6_109 (c_X1_isEmpty er14) (chk_of ek16) cls_1.1 rfl rfl rfl (by decide) rfl (Nat.le_of_ble_eq_true rfl) dX6_steps_41 ?_
            refine r_if_eq hc (tgt := 50) dX6_steps_44 (by decide) (fun c => ?_) (fun c => ?_)
            · have h := wp_t c h
              refine r_aload_n hc 0 rfl rfl dX6_steps_50 ?_
              refine r_aload_n hc 0 rfl rfl dX6_steps_51 ?_
              refine r_iload_n hc 1 rfl rfl dX6_steps_52 ?_
              obtain ⟨_, ek19, h⟩ := wp_g h
              obtain ⟨r17, σ18, er17, h⟩ := wp_b h
              refine r_callV hc (k0 := x0) mv_X6_in ml_X6_91 (c_X6_in er17) (chk_of ek19) cls_6.1 rfl rfl rfl (by decide) rfl (Nat.le_of_ble_eq_true rfl) dX6_steps_53 ?_
              refine r_aload_n hc 0 rfl rfl dX6_steps_56 ?_
              refine r_iload_n hc 2 rfl rfl dX6_steps_57 ?_
              obtain ⟨_, ek22, h⟩ := wp_g h
              obtain ⟨r20, σ21, er20, h⟩ := wp_b h
              refine r_callV hc (k0 := x0) mv_X6_in ml_X6_91 (c_X6_in er20) (chk_of ek22) cls_6.1 rfl rfl rfl (by decide) rfl (Nat.le_of_ble_eq_true rfl) dX6_steps_58 ?_
              obtain ⟨_, ek25, h⟩ := wp_g h
              obtain ⟨r23, σ24, er23, h⟩ := wp_b h
              refine r_callV hc (k0 := x0) mv_X6_gathered ml_X6_292 (c_X6_gathered er23) (chk_of ek25) cls_6.1 rfl rfl rfl (by decide) rfl (Nat.le_of_ble_eq_true rfl) dX6_steps_61 ?_
              refine r_if_eq hc (tgt := 90) dX6_steps_64 (by decide) (fun c => ?_) (fun c => ?_)
              · have h := wp_t c h
                refine r_sub [] (lv' := []) rfl ?_
                exact t_X6_steps_b90 hc h
              · have h := wp_f c h
                refine r_iload_n hc 3 rfl rfl dX6_steps_67 ?_
                refine r_aload_n hc 0 rfl rfl dX6_steps_68 ?_
                obtain ⟨v26, ev26, h⟩ := wp_g h
                refine r_getR hc ev26 fl_X6_55 rfl dX6_steps_69 ?_
                obtain ⟨v27, ev27, h⟩ := wp_g h
                refine r_getI hc ev27 fl_X6_295 rfl dX6_steps_72 ?_
                refine r_icmp_ge hc (tgt := 90) dX6_steps_75 (by decide) (fun c => ?_) (fun c => ?_)
                · have h := wp_t c h
                  refine r_sub [] (lv' := []) rfl ?_
                  exact t_X6_steps_b90 hc h
                · have h := wp_f c h
                  refine r_iload hc 4 rfl dX6_steps_78 ?_
                  refine r_aload_n hc 0 rfl rfl dX6_steps_80 ?_
                  obtain ⟨v28, ev28, h⟩ := wp_g h
                  refine r_getR hc ev28 fl_X6_55 rfl dX6_steps_81 ?_
                  obtain ⟨v29, ev29, h⟩ := wp_g h
                  refine r_getI hc ev29 fl_X6_295 rfl dX6_steps_84 ?_
                  refine r_icmp_lt hc (tgt := 93) dX6_steps_87 (by decide) (fun c => ?_) (fun c => ?_)
                  · have h := wp_t c h
                    refine r_aload_n hc 0 rfl rfl dX6_steps_93 ?_
                    obtain ⟨v30, ev30, h⟩ := wp_g h
                    refine r_getR hc ev30 fl_X6_55 rfl dX6_steps_94 ?_
                    refine r_iload_n hc 3 rfl rfl dX6_steps_97 ?_
                    obtain ⟨_, ek33, h⟩ := wp_g h
                    obtain ⟨r31, σ32, er31, h⟩ := wp_b h
                    refine r_callV hc (k0 := v30) mv_X0_spread ml_X6_298 (c_X0_spread er31) (chk_of ek33) cls_0.1 rfl rfl rfl (by decide) rfl (Nat.le_of_ble_eq_true rfl) dX6_steps_98 ?_
                    refine r_pop hc rfl dX6_steps_101 ?_
                    refine r_aload_n hc 0 rfl rfl dX6_steps_102 ?_
                    obtain ⟨v34, ev34, h⟩ := wp_g h
                    refine r_getR hc ev34 fl_X6_55 rfl dX6_steps_103 ?_
                    obtain ⟨v35, ev35, h⟩ := wp_g h
                    refine r_getR hc ev35 fl_X6_301 rfl dX6_steps_106 ?_
                    refine r_iload hc 4 rfl dX6_steps_109 ?_
                    obtain ⟨v36, ev36, h⟩ := wp_g h
                    refine r_iald hc ev36 dX6_steps_111 ?_
                    refine r_if_ge hc (tgt := 120) dX6_steps_112 (by decide) (fun c => ?_) (fun c => ?_)
                    · have h := wp_t c h
                      refine r_aload_n hc 0 rfl rfl dX6_steps_120 ?_
                      obtain ⟨v37, ev37, h⟩ := wp_g h
                      refine r_getR hc ev37 fl_X6_55 rfl dX6_steps_121 ?_
                      obtain ⟨v38, ev38, h⟩ := wp_g h
                      refine r_getR hc ev38 fl_X6_301 rfl dX6_steps_124 ?_
                      refine r_iload hc 4 rfl dX6_steps_127 ?_
                      obtain ⟨v39, ev39, h⟩ := wp_g h
                      refine r_iald hc ev39 dX6_steps_129 ?_
                      refine r_sub [] (lv' := []) rfl ?_
                      exact t_X6_steps_b130 hc h
                    · have h := wp_f c h
                      refine r_bipush hc (v := (-4)) (by decide) dX6_steps_115 ?_
                      refine r_goto hc (tgt := 130) dX6_steps_117 (by decide) ?_
                      refine r_sub [] (lv' := []) rfl ?_
                      exact t_X6_steps_b130 hc h
                  · have h := wp_f c h
                    refine r_sub [] (lv' := []) rfl ?_
                    exact t_X6_steps_b90 hc h
            · have h := wp_f c h
              refine r_sub [] (lv' := []) rfl ?_
              exact t_X6_steps_b47 hc h
        · have h := wp_f c h
          refine r_sub [] (lv' := []) rfl ?_
          exact t_X6_steps_b23 hc h
theorem c_X6_steps {l : Launch} {x0 : Nat} {x1 : Int32} {x2 : Int32} {x3 : Int32} {x4 : Int32} {σ σ' : Hp} {r : Int32} (h : f_X6_steps x0 x1 x2 x3 x4 σ = some (r, σ')) : Mt l yX6_steps cX6_steps 5 (some .int) 36 shC (fun ad => [.ref (ad x0), .int x1, .int x2, .int x3, .int x4]) σ (fun ad => some (.int r)) σ' := mt_i (own := RX6) (by decide) rfl (fun _ => Nat.le_of_ble_eq_true rfl) (fun γ ad K hc hk => t_X6_steps hc ⟨_, _, h, hk⟩)

-- NetMaps$Crowd.besides(I)I
theorem dX0_besides_0 : decode cX0_besides 0 = .ok (.iconst 0, 1) := by decide +kernel
theorem dX0_besides_1 : decode cX0_besides 1 = .ok (.istore_n 2, 1) := by decide +kernel
theorem dX0_besides_2 : decode cX0_besides 2 = .ok (.iconst 0, 1) := by decide +kernel
theorem dX0_besides_3 : decode cX0_besides 3 = .ok (.istore_n 3, 1) := by decide +kernel
theorem dX0_besides_4 : decode cX0_besides 4 = .ok (.iload_n 3, 1) := by decide +kernel
theorem dX0_besides_5 : decode cX0_besides 5 = .ok (.aload_n 0, 1) := by decide +kernel
theorem dX0_besides_6 : decode cX0_besides 6 = .ok (.getfield 36, 3) := by decide +kernel
theorem dX0_besides_9 : decode cX0_besides 9 = .ok (.if_icmp .ge 41, 3) := by decide +kernel
theorem dX0_besides_12 : decode cX0_besides 12 = .ok (.iconst 0, 1) := by decide +kernel
theorem dX0_besides_13 : decode cX0_besides 13 = .ok (.istore 4, 2) := by decide +kernel
theorem dX0_besides_15 : decode cX0_besides 15 = .ok (.iload 4, 2) := by decide +kernel
theorem dX0_besides_17 : decode cX0_besides 17 = .ok (.aload_n 0, 1) := by decide +kernel
theorem dX0_besides_18 : decode cX0_besides 18 = .ok (.getfield 40, 3) := by decide +kernel
theorem dX0_besides_21 : decode cX0_besides 21 = .ok (.if_icmp .ge 23, 3) := by decide +kernel
theorem dX0_besides_24 : decode cX0_besides 24 = .ok (.aload_n 0, 1) := by decide +kernel
theorem dX0_besides_25 : decode cX0_besides 25 = .ok (.iload_n 1, 1) := by decide +kernel
theorem dX0_besides_26 : decode cX0_besides 26 = .ok (.iload_n 3, 1) := by decide +kernel
theorem dX0_besides_27 : decode cX0_besides 27 = .ok (.iload 4, 2) := by decide +kernel
theorem dX0_besides_29 : decode cX0_besides 29 = .ok (.invokevirtual 62, 3) := by decide +kernel
theorem dX0_besides_32 : decode cX0_besides 32 = .ok (.ifCond .lt 6, 3) := by decide +kernel
theorem dX0_besides_35 : decode cX0_besides 35 = .ok (.iinc 2 1, 3) := by decide +kernel
theorem dX0_besides_38 : decode cX0_besides 38 = .ok (.iinc 4 1, 3) := by decide +kernel
theorem dX0_besides_41 : decode cX0_besides 41 = .ok (.goto (-26), 3) := by decide +kernel
theorem dX0_besides_44 : decode cX0_besides 44 = .ok (.iinc 3 1, 3) := by decide +kernel
theorem dX0_besides_47 : decode cX0_besides 47 = .ok (.goto (-43), 3) := by decide +kernel
theorem dX0_besides_50 : decode cX0_besides 50 = .ok (.iload_n 2, 1) := by decide +kernel
theorem dX0_besides_51 : decode cX0_besides 51 = .ok (.ireturn, 1) := by decide +kernel
noncomputable def f_X0_besides_b38 (x0 : Nat) (x1 : Int32) (x2 : Int32) (x3 : Int32) (x4 : Int32) (σ : Hp) : Option (((Int32 × Int32) ⊕ (Int32)) × Hp) := some (Sum.inl (x2, (x4 + 1)), σ)
set_option maxRecDepth 100000 in
set_option maxHeartbeats 4000000 in
theorem t_X0_besides_b38 {l : Launch} {γ : Gm} {ad : Nat → Nat} {K : Option Value → Hp → Prop} (hc : Cx l γ 3 5 ad shC RX0 cX0_besides (some .int) K) {x0 : Nat} {x1 : Int32} {x2 : Int32} {x3 : Int32} {x4 : Int32}  {σ : Hp} {KL : ((Int32 × Int32) ⊕ (Int32)) → Hp → Prop} (h : wpO (f_X0_besides_b38 x0 x1 x2 x3 x4 σ) KL) (kn : ∀ (v : (Int32 × Int32)) (σ : Hp), KL (Sum.inl v) σ → WW l γ 3 5 ad shC 15 [(0, .ref (ad x0)), (1, .int x1), (2, .int v.1), (3, .int x3), (4, .int v.2)] [] σ) (kx44 : ∀ (v : Int32) (σ : Hp), KL (Sum.inr v) σ → WW l γ 3 5 ad shC 44 [(0, .ref (ad x0)), (1, .int x1), (2, .int v), (3, .int x3)] [] σ) : WW l γ 3 5 ad shC 38 [(0, .ref (ad x0)), (1, .int x1), (2, .int x2), (3, .int x3), (4, .int x4)] [] σ := by
  unfold f_X0_besides_b38 at h
  refine r_iincE hc (j := 4) (w := 1) (lv' := [(4, .int (x4 + 1)), (0, .ref (ad x0)), (1, .int x1), (2, .int x2), (3, .int x3)]) rfl (by decide) rfl (by decide) rfl dX0_besides_38 ?_
  refine r_goto hc (tgt := 15) dX0_besides_41 (by decide) ?_
  refine r_sub [1, 2, 3, 4, 0] (lv' := [(0, .ref (ad x0)), (1, .int x1), (2, .int x2), (3, .int x3), (4, .int (x4 + 1))]) rfl ?_
  have h := wp_v h
  exact kn (x2, (x4 + 1)) _ h
noncomputable def f_X0_besides_L15 (x0 : Nat) (x1 : Int32) (x3 : Int32) (v : (Int32 × Int32)) (σ : Hp) : Option (((Int32 × Int32) ⊕ (Int32)) × Hp) := gO (getI shC 0 x0 2 σ) fun v1 => if v1 ≤ v.2 then (some (Sum.inr v.1, σ)) else (gO (chk shC x0 0) fun _ => bO (f_X0_beside x0 x1 x3 v.2 σ) fun r2 σ3 => if r2 < 0 then (f_X0_besides_b38 x0 x1 v.1 x3 v.2 σ3) else (f_X0_besides_b38 x0 x1 (v.1 + 1) x3 v.2 σ3))
set_option maxRecDepth 100000 in
set_option maxHeartbeats 4000000 in
theorem t_X0_besides_L15 {l : Launch} {γ : Gm} {ad : Nat → Nat} {K : Option Value → Hp → Prop}  (hc : Cx l γ 3 5 ad shC RX0 cX0_besides (some .int) K) {x0 : Nat} {x1 : Int32} {x3 : Int32} {v : (Int32 × Int32)} {σ : Hp} {KX : (Int32) → Hp → Prop} (h : wpO (wh (f_X0_besides_L15 x0 x1 x3) v σ) KX) (kx44 : ∀ (v : Int32) (σ : Hp), KX v σ → WW l γ 3 5 ad shC 44 [(0, .ref (ad x0)), (1, .int x1), (2, .int v), (3, .int x3)] [] σ) : WW l γ 3 5 ad shC 15 [(0, .ref (ad x0)), (1, .int x1), (2, .int v.1), (3, .int x3), (4, .int v.2)] [] σ := by
  refine wh_W (P := fun v σ => WW l γ 3 5 ad shC 15 [(0, .ref (ad x0)), (1, .int x1), (2, .int v.1), (3, .int x3), (4, .int v.2)] [] σ) (fun v σ h => ?_) h
  have kn : ∀ (v : (Int32 × Int32)) (σ : Hp), WW l γ 3 5 ad shC 15 [(0, .ref (ad x0)), (1, .int x1), (2, .int v.1), (3, .int x3), (4, .int v.2)] [] σ → WW l γ 3 5 ad shC 15 [(0, .ref (ad x0)), (1, .int x1), (2, .int v.1), (3, .int x3), (4, .int v.2)] [] σ := fun _ _ h => h
  · unfold f_X0_besides_L15 at h
    refine r_iload hc 4 rfl dX0_besides_15 ?_
    refine r_aload_n hc 0 rfl rfl dX0_besides_17 ?_
    obtain ⟨v1, ev1, h⟩ := wp_g h
    refine r_getI hc ev1 fl_X0_40 rfl dX0_besides_18 ?_
    refine r_icmp_ge hc (tgt := 44) dX0_besides_21 (by decide) (fun c => ?_) (fun c => ?_)
    · have h := wp_t c h
      refine r_sub [0, 1, 2, 3] (lv' := [(0, .ref (ad x0)), (1, .int x1), (2, .int v.1), (3, .int x3)]) rfl ?_
      have h := wp_v h
      exact kx44 v.1 _ h
    · have h := wp_f c h
      refine r_aload_n hc 0 rfl rfl dX0_besides_24 ?_
      refine r_iload_n hc 1 rfl rfl dX0_besides_25 ?_
      refine r_iload_n hc 3 rfl rfl dX0_besides_26 ?_
      refine r_iload hc 4 rfl dX0_besides_27 ?_
      obtain ⟨_, ek4, h⟩ := wp_g h
      obtain ⟨r2, σ3, er2, h⟩ := wp_b h
      refine r_callV hc (k0 := x0) mv_X0_beside ml_X0_62 (c_X0_beside er2) (chk_of ek4) cls_0.1 rfl rfl rfl (by decide) rfl (Nat.le_of_ble_eq_true rfl) dX0_besides_29 ?_
      refine r_if_lt hc (tgt := 38) dX0_besides_32 (by decide) (fun c => ?_) (fun c => ?_)
      · have h := wp_t c h
        exact t_X0_besides_b38 hc h kn kx44
      · have h := wp_f c h
        refine r_iincE hc (j := 2) (w := 1) (lv' := [(2, .int (v.1 + 1)), (0, .ref (ad x0)), (1, .int x1), (3, .int x3), (4, .int v.2)]) rfl (by decide) rfl (by decide) rfl dX0_besides_35 ?_
        refine r_sub [1, 2, 0, 3, 4] (lv' := [(0, .ref (ad x0)), (1, .int x1), (2, .int (v.1 + 1)), (3, .int x3), (4, .int v.2)]) rfl ?_
        exact t_X0_besides_b38 hc h kn kx44
noncomputable def f_X0_besides_L4 (x0 : Nat) (x1 : Int32) (v : (Int32 × Int32)) (σ : Hp) : Option (((Int32 × Int32) ⊕ (Int32)) × Hp) := gO (getI shC 0 x0 1 σ) fun v1 => if v1 ≤ v.2 then (some (Sum.inr v.1, σ)) else (bO (wh (f_X0_besides_L15 x0 x1 v.2) (v.1, 0) σ) fun y2 σ3 => (some (Sum.inl (y2, (v.2 + 1)), σ3)))
set_option maxRecDepth 100000 in
set_option maxHeartbeats 4000000 in
theorem t_X0_besides_L4 {l : Launch} {γ : Gm} {ad : Nat → Nat} {K : Option Value → Hp → Prop}  (hc : Cx l γ 3 5 ad shC RX0 cX0_besides (some .int) K) {x0 : Nat} {x1 : Int32} {v : (Int32 × Int32)} {σ : Hp} {KX : (Int32) → Hp → Prop} (h : wpO (wh (f_X0_besides_L4 x0 x1) v σ) KX) (kx50 : ∀ (v : Int32) (σ : Hp), KX v σ → WW l γ 3 5 ad shC 50 [(2, .int v)] [] σ) : WW l γ 3 5 ad shC 4 [(0, .ref (ad x0)), (1, .int x1), (2, .int v.1), (3, .int v.2)] [] σ := by
  refine wh_W (P := fun v σ => WW l γ 3 5 ad shC 4 [(0, .ref (ad x0)), (1, .int x1), (2, .int v.1), (3, .int v.2)] [] σ) (fun v σ h => ?_) h
  have kn : ∀ (v : (Int32 × Int32)) (σ : Hp), WW l γ 3 5 ad shC 4 [(0, .ref (ad x0)), (1, .int x1), (2, .int v.1), (3, .int v.2)] [] σ → WW l γ 3 5 ad shC 4 [(0, .ref (ad x0)), (1, .int x1), (2, .int v.1), (3, .int v.2)] [] σ := fun _ _ h => h
  · unfold f_X0_besides_L4 at h
    refine r_iload_n hc 3 rfl rfl dX0_besides_4 ?_
    refine r_aload_n hc 0 rfl rfl dX0_besides_5 ?_
    obtain ⟨v1, ev1, h⟩ := wp_g h
    refine r_getI hc ev1 fl_X0_36 rfl dX0_besides_6 ?_
    refine r_icmp_ge hc (tgt := 50) dX0_besides_9 (by decide) (fun c => ?_) (fun c => ?_)
    · have h := wp_t c h
      refine r_sub [2] (lv' := [(2, .int v.1)]) rfl ?_
      have h := wp_v h
      exact kx50 v.1 _ h
    · have h := wp_f c h
      refine r_iconst hc (v := 0) (by decide) dX0_besides_12 ?_
      refine r_istoreE hc (i := 4) (lv' := [(4, .int 0), (0, .ref (ad x0)), (1, .int x1), (2, .int v.1), (3, .int v.2)]) rfl (by decide) rfl dX0_besides_13 ?_
      refine r_sub [1, 2, 3, 4, 0] (lv' := [(0, .ref (ad x0)), (1, .int x1), (2, .int v.1), (3, .int v.2), (4, .int 0)]) rfl ?_
      refine t_X0_besides_L15 hc (wp_bb h) ?_
      · intro y2 σ3 h
        refine r_iincE hc (j := 3) (w := 1) (lv' := [(3, .int (v.2 + 1)), (0, .ref (ad x0)), (1, .int x1), (2, .int y2)]) rfl (by decide) rfl (by decide) rfl dX0_besides_44 ?_
        refine r_goto hc (tgt := 4) dX0_besides_47 (by decide) ?_
        refine r_sub [1, 2, 3, 0] (lv' := [(0, .ref (ad x0)), (1, .int x1), (2, .int y2), (3, .int (v.2 + 1))]) rfl ?_
        have h := wp_v h
        exact kn (y2, (v.2 + 1)) _ h
noncomputable def f_X0_besides (x0 : Nat) (x1 : Int32) (σ : Hp) : Option (Int32 × Hp) := bO (wh (f_X0_besides_L4 x0 x1) (0, 0) σ) fun y1 σ2 => (some (y1, σ2))
set_option maxRecDepth 100000 in
set_option maxHeartbeats 4000000 in
theorem t_X0_besides {l : Launch} {γ : Gm} {ad : Nat → Nat} {K : Option Value → Hp → Prop} (hc : Cx l γ 3 5 ad shC RX0 cX0_besides (some .int) K) {x0 : Nat} {x1 : Int32} {σ : Hp} (h : wpO (f_X0_besides x0 x1 σ) (KI K)) : WW l γ 3 5 ad shC 0 [(0, .ref (ad x0)), (1, .int x1)] [] σ := by
  unfold f_X0_besides at h
  refine r_iconst hc (v := 0) (by decide) dX0_besides_0 ?_
  refine r_istore_nE hc (i := 2) (lv' := [(2, .int 0), (0, .ref (ad x0)), (1, .int x1)]) rfl rfl (by decide) rfl dX0_besides_1 ?_
  refine r_iconst hc (v := 0) (by decide) dX0_besides_2 ?_
  refine r_istore_nE hc (i := 3) (lv' := [(3, .int 0), (2, .int 0), (0, .ref (ad x0)), (1, .int x1)]) rfl rfl (by decide) rfl dX0_besides_3 ?_
  refine r_sub [2, 3, 1, 0] (lv' := [(0, .ref (ad x0)), (1, .int x1), (2, .int 0), (3, .int 0)]) rfl ?_
  refine t_X0_besides_L4 hc (wp_bb h) ?_
  · intro y1 σ2 h
    refine r_iload_n hc 0 rfl rfl dX0_besides_50 ?_
    have h := wp_v h
    exact r_iret hc h dX0_besides_51
theorem c_X0_besides {l : Launch} {x0 : Nat} {x1 : Int32} {σ σ' : Hp} {r : Int32} (h : f_X0_besides x0 x1 σ = some (r, σ')) : Mt l yX0_besides cX0_besides 5 (some .int) 3 shC (fun ad => [.ref (ad x0), .int x1]) σ (fun ad => some (.int r)) σ' := mt_i (own := RX0) (by decide) rfl (fun _ => Nat.le_of_ble_eq_true rfl) (fun γ ad K hc hk => t_X0_besides hc ⟨_, _, h, hk⟩)

-- NetMaps$Crowd.frozen()I
theorem dX0_frozen_0 : decode cX0_frozen 0 = .ok (.iconst 0, 1) := by decide +kernel
theorem dX0_frozen_1 : decode cX0_frozen 1 = .ok (.istore_n 1, 1) := by decide +kernel
theorem dX0_frozen_2 : decode cX0_frozen 2 = .ok (.iconst 0, 1) := by decide +kernel
theorem dX0_frozen_3 : decode cX0_frozen 3 = .ok (.istore_n 2, 1) := by decide +kernel
theorem dX0_frozen_4 : decode cX0_frozen 4 = .ok (.iload_n 2, 1) := by decide +kernel
theorem dX0_frozen_5 : decode cX0_frozen 5 = .ok (.aload_n 0, 1) := by decide +kernel
theorem dX0_frozen_6 : decode cX0_frozen 6 = .ok (.getfield 21, 3) := by decide +kernel
theorem dX0_frozen_9 : decode cX0_frozen 9 = .ok (.if_icmp .ge 20, 3) := by decide +kernel
theorem dX0_frozen_12 : decode cX0_frozen 12 = .ok (.aload_n 0, 1) := by decide +kernel
theorem dX0_frozen_13 : decode cX0_frozen 13 = .ok (.iload_n 2, 1) := by decide +kernel
theorem dX0_frozen_14 : decode cX0_frozen 14 = .ok (.invokevirtual 66, 3) := by decide +kernel
theorem dX0_frozen_17 : decode cX0_frozen 17 = .ok (.ifCond .ne 6, 3) := by decide +kernel
theorem dX0_frozen_20 : decode cX0_frozen 20 = .ok (.iinc 1 1, 3) := by decide +kernel
theorem dX0_frozen_23 : decode cX0_frozen 23 = .ok (.iinc 2 1, 3) := by decide +kernel
theorem dX0_frozen_26 : decode cX0_frozen 26 = .ok (.goto (-22), 3) := by decide +kernel
theorem dX0_frozen_29 : decode cX0_frozen 29 = .ok (.iload_n 1, 1) := by decide +kernel
theorem dX0_frozen_30 : decode cX0_frozen 30 = .ok (.ireturn, 1) := by decide +kernel
noncomputable def f_X0_frozen_b23 (x0 : Nat) (x1 : Int32) (x2 : Int32) (σ : Hp) : Option (((Int32 × Int32) ⊕ (Int32)) × Hp) := some (Sum.inl (x1, (x2 + 1)), σ)
set_option maxRecDepth 100000 in
set_option maxHeartbeats 4000000 in
theorem t_X0_frozen_b23 {l : Launch} {γ : Gm} {ad : Nat → Nat} {K : Option Value → Hp → Prop} (hc : Cx l γ 4 3 ad shC RX0 cX0_frozen (some .int) K) {x0 : Nat} {x1 : Int32} {x2 : Int32}  {σ : Hp} {KL : ((Int32 × Int32) ⊕ (Int32)) → Hp → Prop} (h : wpO (f_X0_frozen_b23 x0 x1 x2 σ) KL) (kn : ∀ (v : (Int32 × Int32)) (σ : Hp), KL (Sum.inl v) σ → WW l γ 4 3 ad shC 4 [(0, .ref (ad x0)), (1, .int v.1), (2, .int v.2)] [] σ) (kx29 : ∀ (v : Int32) (σ : Hp), KL (Sum.inr v) σ → WW l γ 4 3 ad shC 29 [(1, .int v)] [] σ) : WW l γ 4 3 ad shC 23 [(0, .ref (ad x0)), (1, .int x1), (2, .int x2)] [] σ := by
  unfold f_X0_frozen_b23 at h
  refine r_iincE hc (j := 2) (w := 1) (lv' := [(2, .int (x2 + 1)), (0, .ref (ad x0)), (1, .int x1)]) rfl (by decide) rfl (by decide) rfl dX0_frozen_23 ?_
  refine r_goto hc (tgt := 4) dX0_frozen_26 (by decide) ?_
  refine r_sub [1, 2, 0] (lv' := [(0, .ref (ad x0)), (1, .int x1), (2, .int (x2 + 1))]) rfl ?_
  have h := wp_v h
  exact kn (x1, (x2 + 1)) _ h
noncomputable def f_X0_frozen_L4 (x0 : Nat) (v : (Int32 × Int32)) (σ : Hp) : Option (((Int32 × Int32) ⊕ (Int32)) × Hp) := gO (getI shC 0 x0 0 σ) fun v1 => if v1 ≤ v.2 then (some (Sum.inr v.1, σ)) else (gO (chk shC x0 0) fun _ => bO (f_X0_besides x0 v.2 σ) fun r2 σ3 => if r2 = 0 then (f_X0_frozen_b23 x0 (v.1 + 1) v.2 σ3) else (f_X0_frozen_b23 x0 v.1 v.2 σ3))
set_option maxRecDepth 100000 in
set_option maxHeartbeats 4000000 in
theorem t_X0_frozen_L4 {l : Launch} {γ : Gm} {ad : Nat → Nat} {K : Option Value → Hp → Prop}  (hc : Cx l γ 4 3 ad shC RX0 cX0_frozen (some .int) K) {x0 : Nat} {v : (Int32 × Int32)} {σ : Hp} {KX : (Int32) → Hp → Prop} (h : wpO (wh (f_X0_frozen_L4 x0) v σ) KX) (kx29 : ∀ (v : Int32) (σ : Hp), KX v σ → WW l γ 4 3 ad shC 29 [(1, .int v)] [] σ) : WW l γ 4 3 ad shC 4 [(0, .ref (ad x0)), (1, .int v.1), (2, .int v.2)] [] σ := by
  refine wh_W (P := fun v σ => WW l γ 4 3 ad shC 4 [(0, .ref (ad x0)), (1, .int v.1), (2, .int v.2)] [] σ) (fun v σ h => ?_) h
  have kn : ∀ (v : (Int32 × Int32)) (σ : Hp), WW l γ 4 3 ad shC 4 [(0, .ref (ad x0)), (1, .int v.1), (2, .int v.2)] [] σ → WW l γ 4 3 ad shC 4 [(0, .ref (ad x0)), (1, .int v.1), (2, .int v.2)] [] σ := fun _ _ h => h
  · unfold f_X0_frozen_L4 at h
    refine r_iload_n hc 2 rfl rfl dX0_frozen_4 ?_
    refine r_aload_n hc 0 rfl rfl dX0_frozen_5 ?_
    obtain ⟨v1, ev1, h⟩ := wp_g h
    refine r_getI hc ev1 fl_X0_21 rfl dX0_frozen_6 ?_
    refine r_icmp_ge hc (tgt := 29) dX0_frozen_9 (by decide) (fun c => ?_) (fun c => ?_)
    · have h := wp_t c h
      refine r_sub [1] (lv' := [(1, .int v.1)]) rfl ?_
      have h := wp_v h
      exact kx29 v.1 _ h
    · have h := wp_f c h
      refine r_aload_n hc 0 rfl rfl dX0_frozen_12 ?_
      refine r_iload_n hc 2 rfl rfl dX0_frozen_13 ?_
      obtain ⟨_, ek4, h⟩ := wp_g h
      obtain ⟨r2, σ3, er2, h⟩ := wp_b h
      refine r_callV hc (k0 := x0) mv_X0_besides ml_X0_66 (c_X0_besides er2) (chk_of ek4) cls_0.1 rfl rfl rfl (by decide) rfl (Nat.le_of_ble_eq_true rfl) dX0_frozen_14 ?_
      refine r_if_ne hc (tgt := 23) dX0_frozen_17 (by decide) (fun c => ?_) (fun c => ?_)
      · have h := wp_f c h
        exact t_X0_frozen_b23 hc h kn kx29
      · have h := wp_t c h
        refine r_iincE hc (j := 1) (w := 1) (lv' := [(1, .int (v.1 + 1)), (0, .ref (ad x0)), (2, .int v.2)]) rfl (by decide) rfl (by decide) rfl dX0_frozen_20 ?_
        refine r_sub [1, 0, 2] (lv' := [(0, .ref (ad x0)), (1, .int (v.1 + 1)), (2, .int v.2)]) rfl ?_
        exact t_X0_frozen_b23 hc h kn kx29
noncomputable def f_X0_frozen (x0 : Nat) (σ : Hp) : Option (Int32 × Hp) := bO (wh (f_X0_frozen_L4 x0) (0, 0) σ) fun y1 σ2 => (some (y1, σ2))
set_option maxRecDepth 100000 in
set_option maxHeartbeats 4000000 in
theorem t_X0_frozen {l : Launch} {γ : Gm} {ad : Nat → Nat} {K : Option Value → Hp → Prop} (hc : Cx l γ 4 3 ad shC RX0 cX0_frozen (some .int) K) {x0 : Nat} {σ : Hp} (h : wpO (f_X0_frozen x0 σ) (KI K)) : WW l γ 4 3 ad shC 0 [(0, .ref (ad x0))] [] σ := by
  unfold f_X0_frozen at h
  refine r_iconst hc (v := 0) (by decide) dX0_frozen_0 ?_
  refine r_istore_nE hc (i := 1) (lv' := [(1, .int 0), (0, .ref (ad x0))]) rfl rfl (by decide) rfl dX0_frozen_1 ?_
  refine r_iconst hc (v := 0) (by decide) dX0_frozen_2 ?_
  refine r_istore_nE hc (i := 2) (lv' := [(2, .int 0), (1, .int 0), (0, .ref (ad x0))]) rfl rfl (by decide) rfl dX0_frozen_3 ?_
  refine r_sub [2, 1, 0] (lv' := [(0, .ref (ad x0)), (1, .int 0), (2, .int 0)]) rfl ?_
  refine t_X0_frozen_L4 hc (wp_bb h) ?_
  · intro y1 σ2 h
    refine r_iload_n hc 0 rfl rfl dX0_frozen_29 ?_
    have h := wp_v h
    exact r_iret hc h dX0_frozen_30
theorem c_X0_frozen {l : Launch} {x0 : Nat} {σ σ' : Hp} {r : Int32} (h : f_X0_frozen x0 σ = some (r, σ')) : Mt l yX0_frozen cX0_frozen 3 (some .int) 4 shC (fun ad => [.ref (ad x0)]) σ (fun ad => some (.int r)) σ' := mt_i (own := RX0) (by decide) rfl (fun _ => Nat.le_of_ble_eq_true rfl) (fun γ ad K hc hk => t_X0_frozen hc ⟨_, _, h, hk⟩)

-- NetMaps$Crowd.parts(Z)I
theorem dX0_parts_0 : decode cX0_parts 0 = .ok (.iconst 0, 1) := by decide +kernel
theorem dX0_parts_1 : decode cX0_parts 1 = .ok (.istore_n 2, 1) := by decide +kernel
theorem dX0_parts_2 : decode cX0_parts 2 = .ok (.iconst 0, 1) := by decide +kernel
theorem dX0_parts_3 : decode cX0_parts 3 = .ok (.istore_n 3, 1) := by decide +kernel
theorem dX0_parts_4 : decode cX0_parts 4 = .ok (.iconst 0, 1) := by decide +kernel
theorem dX0_parts_5 : decode cX0_parts 5 = .ok (.istore 4, 2) := by decide +kernel
theorem dX0_parts_7 : decode cX0_parts 7 = .ok (.iload 4, 2) := by decide +kernel
theorem dX0_parts_9 : decode cX0_parts 9 = .ok (.aload_n 0, 1) := by decide +kernel
theorem dX0_parts_10 : decode cX0_parts 10 = .ok (.getfield 21, 3) := by decide +kernel
theorem dX0_parts_13 : decode cX0_parts 13 = .ok (.if_icmp .ge 33, 3) := by decide +kernel
theorem dX0_parts_16 : decode cX0_parts 16 = .ok (.aload_n 0, 1) := by decide +kernel
theorem dX0_parts_17 : decode cX0_parts 17 = .ok (.getfield 15, 3) := by decide +kernel
theorem dX0_parts_20 : decode cX0_parts 20 = .ok (.iload 4, 2) := by decide +kernel
theorem dX0_parts_22 : decode cX0_parts 22 = .ok (.iaload, 1) := by decide +kernel
theorem dX0_parts_23 : decode cX0_parts 23 = .ok (.ifCond .ge 17, 3) := by decide +kernel
theorem dX0_parts_26 : decode cX0_parts 26 = .ok (.iinc 2 1, 3) := by decide +kernel
theorem dX0_parts_29 : decode cX0_parts 29 = .ok (.iload_n 3, 1) := by decide +kernel
theorem dX0_parts_30 : decode cX0_parts 30 = .ok (.aload_n 0, 1) := by decide +kernel
theorem dX0_parts_31 : decode cX0_parts 31 = .ok (.iload 4, 2) := by decide +kernel
theorem dX0_parts_33 : decode cX0_parts 33 = .ok (.invokevirtual 69, 3) := by decide +kernel
theorem dX0_parts_36 : decode cX0_parts 36 = .ok (.invokestatic 72, 3) := by decide +kernel
theorem dX0_parts_39 : decode cX0_parts 39 = .ok (.istore_n 3, 1) := by decide +kernel
theorem dX0_parts_40 : decode cX0_parts 40 = .ok (.iinc 4 1, 3) := by decide +kernel
theorem dX0_parts_43 : decode cX0_parts 43 = .ok (.goto (-36), 3) := by decide +kernel
theorem dX0_parts_46 : decode cX0_parts 46 = .ok (.iload_n 1, 1) := by decide +kernel
theorem dX0_parts_47 : decode cX0_parts 47 = .ok (.ifCond .eq 7, 3) := by decide +kernel
theorem dX0_parts_50 : decode cX0_parts 50 = .ok (.iload_n 3, 1) := by decide +kernel
theorem dX0_parts_51 : decode cX0_parts 51 = .ok (.goto 4, 3) := by decide +kernel
theorem dX0_parts_54 : decode cX0_parts 54 = .ok (.iload_n 2, 1) := by decide +kernel
theorem dX0_parts_55 : decode cX0_parts 55 = .ok (.ireturn, 1) := by decide +kernel
noncomputable def f_X0_parts_b40 (x0 : Nat) (x1 : Int32) (x2 : Int32) (x3 : Int32) (x4 : Int32) (σ : Hp) : Option (((Int32 × Int32 × Int32) ⊕ (Int32 × Int32)) × Hp) := some (Sum.inl (x2, x3, (x4 + 1)), σ)
set_option maxRecDepth 100000 in
set_option maxHeartbeats 4000000 in
theorem t_X0_parts_b40 {l : Launch} {γ : Gm} {ad : Nat → Nat} {K : Option Value → Hp → Prop} (hc : Cx l γ 4 5 ad shC RX0 cX0_parts (some .int) K) {x0 : Nat} {x1 : Int32} {x2 : Int32} {x3 : Int32} {x4 : Int32}  {σ : Hp} {KL : ((Int32 × Int32 × Int32) ⊕ (Int32 × Int32)) → Hp → Prop} (h : wpO (f_X0_parts_b40 x0 x1 x2 x3 x4 σ) KL) (kn : ∀ (v : (Int32 × Int32 × Int32)) (σ : Hp), KL (Sum.inl v) σ → WW l γ 4 5 ad shC 7 [(0, .ref (ad x0)), (1, .int x1), (2, .int v.1), (3, .int v.2.1), (4, .int v.2.2)] [] σ) (kx46 : ∀ (v : Int32 × Int32) (σ : Hp), KL (Sum.inr v) σ → WW l γ 4 5 ad shC 46 [(1, .int x1), (2, .int v.1), (3, .int v.2)] [] σ) : WW l γ 4 5 ad shC 40 [(0, .ref (ad x0)), (1, .int x1), (2, .int x2), (3, .int x3), (4, .int x4)] [] σ := by
  unfold f_X0_parts_b40 at h
  refine r_iincE hc (j := 4) (w := 1) (lv' := [(4, .int (x4 + 1)), (0, .ref (ad x0)), (1, .int x1), (2, .int x2), (3, .int x3)]) rfl (by decide) rfl (by decide) rfl dX0_parts_40 ?_
  refine r_goto hc (tgt := 7) dX0_parts_43 (by decide) ?_
  refine r_sub [1, 2, 3, 4, 0] (lv' := [(0, .ref (ad x0)), (1, .int x1), (2, .int x2), (3, .int x3), (4, .int (x4 + 1))]) rfl ?_
  have h := wp_v h
  exact kn (x2, x3, (x4 + 1)) _ h
noncomputable def f_X0_parts_L7 (x0 : Nat) (x1 : Int32) (v : (Int32 × Int32 × Int32)) (σ : Hp) : Option (((Int32 × Int32 × Int32) ⊕ (Int32 × Int32)) × Hp) := gO (getI shC 0 x0 0 σ) fun v1 => if v1 ≤ v.2.2 then (some (Sum.inr (v.1, v.2.1), σ)) else (gO (getR shC 0 x0 4 σ) fun v2 => gO (aldI shC 0 v2 v.2.2 σ) fun v3 => if 0 ≤ v3 then (f_X0_parts_b40 x0 x1 v.1 v.2.1 v.2.2 σ) else (gO (chk shC x0 0) fun _ => bO (f_X0_spread x0 v.2.2 σ) fun r4 σ5 => f_X0_parts_b40 x0 x1 (v.1 + 1) (imax v.2.1 r4) v.2.2 σ5))
set_option maxRecDepth 100000 in
set_option maxHeartbeats 4000000 in
theorem t_X0_parts_L7 {l : Launch} {γ : Gm} {ad : Nat → Nat} {K : Option Value → Hp → Prop}  (hc : Cx l γ 4 5 ad shC RX0 cX0_parts (some .int) K) {x0 : Nat} {x1 : Int32} {v : (Int32 × Int32 × Int32)} {σ : Hp} {KX : (Int32 × Int32) → Hp → Prop} (h : wpO (wh (f_X0_parts_L7 x0 x1) v σ) KX) (kx46 : ∀ (v : Int32 × Int32) (σ : Hp), KX v σ → WW l γ 4 5 ad shC 46 [(1, .int x1), (2, .int v.1), (3, .int v.2)] [] σ) : WW l γ 4 5 ad shC 7 [(0, .ref (ad x0)), (1, .int x1), (2, .int v.1), (3, .int v.2.1), (4, .int v.2.2)] [] σ := by
  refine wh_W (P := fun v σ => WW l γ 4 5 ad shC 7 [(0, .ref (ad x0)), (1, .int x1), (2, .int v.1), (3, .int v.2.1), (4, .int v.2.2)] [] σ) (fun v σ h => ?_) h
  have kn : ∀ (v : (Int32 × Int32 × Int32)) (σ : Hp), WW l γ 4 5 ad shC 7 [(0, .ref (ad x0)), (1, .int x1), (2, .int v.1), (3, .int v.2.1), (4, .int v.2.2)] [] σ → WW l γ 4 5 ad shC 7 [(0, .ref (ad x0)), (1, .int x1), (2, .int v.1), (3, .int v.2.1), (4, .int v.2.2)] [] σ := fun _ _ h => h
  · unfold f_X0_parts_L7 at h
    refine r_iload hc 4 rfl dX0_parts_7 ?_
    refine r_aload_n hc 0 rfl rfl dX0_parts_9 ?_
    obtain ⟨v1, ev1, h⟩ := wp_g h
    refine r_getI hc ev1 fl_X0_21 rfl dX0_parts_10 ?_
    refine r_icmp_ge hc (tgt := 46) dX0_parts_13 (by decide) (fun c => ?_) (fun c => ?_)
    · have h := wp_t c h
      refine r_sub [1, 2, 3] (lv' := [(1, .int x1), (2, .int v.1), (3, .int v.2.1)]) rfl ?_
      have h := wp_v h
      exact kx46 (v.1, v.2.1) _ h
    · have h := wp_f c h
      refine r_aload_n hc 0 rfl rfl dX0_parts_16 ?_
      obtain ⟨v2, ev2, h⟩ := wp_g h
      refine r_getR hc ev2 fl_X0_15 rfl dX0_parts_17 ?_
      refine r_iload hc 4 rfl dX0_parts_20 ?_
      obtain ⟨v3, ev3, h⟩ := wp_g h
      refine r_iald hc ev3 dX0_parts_22 ?_
      refine r_if_ge hc (tgt := 40) dX0_parts_23 (by decide) (fun c => ?_) (fun c => ?_)
      · have h := wp_t c h
        exact t_X0_parts_b40 hc h kn kx46
      · have h := wp_f c h
        refine r_iincE hc (j := 2) (w := 1) (lv' := [(2, .int (v.1 + 1)), (0, .ref (ad x0)), (1, .int x1), (3, .int v.2.1), (4, .int v.2.2)]) rfl (by decide) rfl (by decide) rfl dX0_parts_26 ?_
        refine r_iload_n hc 3 rfl rfl dX0_parts_29 ?_
        refine r_aload_n hc 1 rfl rfl dX0_parts_30 ?_
        refine r_iload hc 4 rfl dX0_parts_31 ?_
        obtain ⟨_, ek6, h⟩ := wp_g h
        obtain ⟨r4, σ5, er4, h⟩ := wp_b h
        refine r_callV hc (k0 := x0) mv_X0_spread ml_X0_69 (c_X0_spread er4) (chk_of ek6) cls_0.1 rfl rfl rfl (by decide) rfl (Nat.le_of_ble_eq_true rfl) dX0_parts_33 ?_
        refine r_mmax hc ml_X0_72 (by decide) (Nat.le_of_ble_eq_true rfl) dX0_parts_36 ?_
        refine r_istore_nE hc (i := 3) (lv' := [(3, .int (imax v.2.1 r4)), (2, .int (v.1 + 1)), (0, .ref (ad x0)), (1, .int x1), (4, .int v.2.2)]) rfl rfl (by decide) rfl dX0_parts_39 ?_
        refine r_sub [2, 3, 1, 0, 4] (lv' := [(0, .ref (ad x0)), (1, .int x1), (2, .int (v.1 + 1)), (3, .int (imax v.2.1 r4)), (4, .int v.2.2)]) rfl ?_
        exact t_X0_parts_b40 hc h kn kx46
noncomputable def f_X0_parts_b55 (s0 : Int32) (σ : Hp) : Option (Int32 × Hp) := some (s0, σ)
set_option maxRecDepth 100000 in
set_option maxHeartbeats 4000000 in
theorem t_X0_parts_b55 {l : Launch} {γ : Gm} {ad : Nat → Nat} {K : Option Value → Hp → Prop} (hc : Cx l γ 4 5 ad shC RX0 cX0_parts (some .int) K) {s0 : Int32} {σ : Hp} (h : wpO (f_X0_parts_b55 s0 σ) (KI K)) : WW l γ 4 5 ad shC 55 [] [.int s0] σ := by
  unfold f_X0_parts_b55 at h
  have h := wp_v h
  exact r_iret hc h dX0_parts_55
noncomputable def f_X0_parts (x0 : Nat) (x1 : Int32) (σ : Hp) : Option (Int32 × Hp) := bO (wh (f_X0_parts_L7 x0 x1) (0, 0, 0) σ) fun y1 σ2 => (if x1 = 0 then (f_X0_parts_b55 y1.1 σ2) else (f_X0_parts_b55 y1.2 σ2))
set_option maxRecDepth 100000 in
set_option maxHeartbeats 4000000 in
theorem t_X0_parts {l : Launch} {γ : Gm} {ad : Nat → Nat} {K : Option Value → Hp → Prop} (hc : Cx l γ 4 5 ad shC RX0 cX0_parts (some .int) K) {x0 : Nat} {x1 : Int32} {σ : Hp} (h : wpO (f_X0_parts x0 x1 σ) (KI K)) : WW l γ 4 5 ad shC 0 [(0, .ref (ad x0)), (1, .int x1)] [] σ := by
  unfold f_X0_parts at h
  refine r_iconst hc (v := 0) (by decide) dX0_parts_0 ?_
  refine r_istore_nE hc (i := 2) (lv' := [(2, .int 0), (0, .ref (ad x0)), (1, .int x1)]) rfl rfl (by decide) rfl dX0_parts_1 ?_
  refine r_iconst hc (v := 0) (by decide) dX0_parts_2 ?_
  refine r_istore_nE hc (i := 3) (lv' := [(3, .int 0), (2, .int 0), (0, .ref (ad x0)), (1, .int x1)]) rfl rfl (by decide) rfl dX0_parts_3 ?_
  refine r_iconst hc (v := 0) (by decide) dX0_parts_4 ?_
  refine r_istoreE hc (i := 4) (lv' := [(4, .int 0), (3, .int 0), (2, .int 0), (0, .ref (ad x0)), (1, .int x1)]) rfl (by decide) rfl dX0_parts_5 ?_
  refine r_sub [3, 4, 2, 1, 0] (lv' := [(0, .ref (ad x0)), (1, .int x1), (2, .int 0), (3, .int 0), (4, .int 0)]) rfl ?_
  refine t_X0_parts_L7 hc (wp_bb h) ?_
  · intro y1 σ2 h
    refine r_iload_n hc 0 rfl rfl dX0_parts_46 ?_
    refine r_if_eq hc (tgt := 54) dX0_parts_47 (by decide) (fun c => ?_) (fun c => ?_)
    · have h := wp_t c h
      refine r_iload_n hc 1 rfl rfl dX0_parts_54 ?_
      refine r_sub [] (lv' := []) rfl ?_
      exact t_X0_parts_b55 hc h
    · have h := wp_f c h
      refine r_iload_n hc 2 rfl rfl dX0_parts_50 ?_
      refine r_goto hc (tgt := 55) dX0_parts_51 (by decide) ?_
      refine r_sub [] (lv' := []) rfl ?_
      exact t_X0_parts_b55 hc h
theorem c_X0_parts {l : Launch} {x0 : Nat} {x1 : Int32} {σ σ' : Hp} {r : Int32} (h : f_X0_parts x0 x1 σ = some (r, σ')) : Mt l yX0_parts cX0_parts 5 (some .int) 4 shC (fun ad => [.ref (ad x0), .int x1]) σ (fun ad => some (.int r)) σ' := mt_i (own := RX0) (by decide) rfl (fun _ => Nat.le_of_ble_eq_true rfl) (fun γ ad K hc hk => t_X0_parts hc ⟨_, _, h, hk⟩)

-- NetMaps$Crowd.twos()I
theorem dX0_twos_0 : decode cX0_twos 0 = .ok (.iconst 0, 1) := by decide +kernel
theorem dX0_twos_1 : decode cX0_twos 1 = .ok (.istore_n 1, 1) := by decide +kernel
theorem dX0_twos_2 : decode cX0_twos 2 = .ok (.iconst 0, 1) := by decide +kernel
theorem dX0_twos_3 : decode cX0_twos 3 = .ok (.istore_n 2, 1) := by decide +kernel
theorem dX0_twos_4 : decode cX0_twos 4 = .ok (.iload_n 2, 1) := by decide +kernel
theorem dX0_twos_5 : decode cX0_twos 5 = .ok (.aload_n 0, 1) := by decide +kernel
theorem dX0_twos_6 : decode cX0_twos 6 = .ok (.getfield 21, 3) := by decide +kernel
theorem dX0_twos_9 : decode cX0_twos 9 = .ok (.if_icmp .ge 17, 3) := by decide +kernel
theorem dX0_twos_12 : decode cX0_twos 12 = .ok (.iload_n 1, 1) := by decide +kernel
theorem dX0_twos_13 : decode cX0_twos 13 = .ok (.aload_n 0, 1) := by decide +kernel
theorem dX0_twos_14 : decode cX0_twos 14 = .ok (.iload_n 2, 1) := by decide +kernel
theorem dX0_twos_15 : decode cX0_twos 15 = .ok (.invokevirtual 66, 3) := by decide +kernel
theorem dX0_twos_18 : decode cX0_twos 18 = .ok (.iadd, 1) := by decide +kernel
theorem dX0_twos_19 : decode cX0_twos 19 = .ok (.istore_n 1, 1) := by decide +kernel
theorem dX0_twos_20 : decode cX0_twos 20 = .ok (.iinc 2 1, 3) := by decide +kernel
theorem dX0_twos_23 : decode cX0_twos 23 = .ok (.goto (-19), 3) := by decide +kernel
theorem dX0_twos_26 : decode cX0_twos 26 = .ok (.iload_n 1, 1) := by decide +kernel
theorem dX0_twos_27 : decode cX0_twos 27 = .ok (.iconst 2, 1) := by decide +kernel
theorem dX0_twos_28 : decode cX0_twos 28 = .ok (.idiv, 1) := by decide +kernel
theorem dX0_twos_29 : decode cX0_twos 29 = .ok (.ireturn, 1) := by decide +kernel
noncomputable def f_X0_twos_L4 (x0 : Nat) (v : (Int32 × Int32)) (σ : Hp) : Option (((Int32 × Int32) ⊕ (Int32)) × Hp) := gO (getI shC 0 x0 0 σ) fun v1 => if v1 ≤ v.2 then (some (Sum.inr v.1, σ)) else (gO (chk shC x0 0) fun _ => bO (f_X0_besides x0 v.2 σ) fun r2 σ3 => some (Sum.inl ((v.1 + r2), (v.2 + 1)), σ3))
set_option maxRecDepth 100000 in
set_option maxHeartbeats 4000000 in
theorem t_X0_twos_L4 {l : Launch} {γ : Gm} {ad : Nat → Nat} {K : Option Value → Hp → Prop}  (hc : Cx l γ 4 3 ad shC RX0 cX0_twos (some .int) K) {x0 : Nat} {v : (Int32 × Int32)} {σ : Hp} {KX : (Int32) → Hp → Prop} (h : wpO (wh (f_X0_twos_L4 x0) v σ) KX) (kx26 : ∀ (v : Int32) (σ : Hp), KX v σ → WW l γ 4 3 ad shC 26 [(1, .int v)] [] σ) : WW l γ 4 3 ad shC 4 [(0, .ref (ad x0)), (1, .int v.1), (2, .int v.2)] [] σ := by
  refine wh_W (P := fun v σ => WW l γ 4 3 ad shC 4 [(0, .ref (ad x0)), (1, .int v.1), (2, .int v.2)] [] σ) (fun v σ h => ?_) h
  have kn : ∀ (v : (Int32 × Int32)) (σ : Hp), WW l γ 4 3 ad shC 4 [(0, .ref (ad x0)), (1, .int v.1), (2, .int v.2)] [] σ → WW l γ 4 3 ad shC 4 [(0, .ref (ad x0)), (1, .int v.1), (2, .int v.2)] [] σ := fun _ _ h => h
  · unfold f_X0_twos_L4 at h
    refine r_iload_n hc 2 rfl rfl dX0_twos_4 ?_
    refine r_aload_n hc 0 rfl rfl dX0_twos_5 ?_
    obtain ⟨v1, ev1, h⟩ := wp_g h
    refine r_getI hc ev1 fl_X0_21 rfl dX0_twos_6 ?_
    refine r_icmp_ge hc (tgt := 26) dX0_twos_9 (by decide) (fun c => ?_) (fun c => ?_)
    · have h := wp_t c h
      refine r_sub [1] (lv' := [(1, .int v.1)]) rfl ?_
      have h := wp_v h
      exact kx26 v.1 _ h
    · have h := wp_f c h
      refine r_iload_n hc 1 rfl rfl dX0_twos_12 ?_
      refine r_aload_n hc 0 rfl rfl dX0_twos_13 ?_
      refine r_iload_n hc 2 rfl rfl dX0_twos_14 ?_
      obtain ⟨_, ek4, h⟩ := wp_g h
      obtain ⟨r2, σ3, er2, h⟩ := wp_b h
      refine r_callV hc (k0 := x0) mv_X0_besides ml_X0_66 (c_X0_besides er2) (chk_of ek4) cls_0.1 rfl rfl rfl (by decide) rfl (Nat.le_of_ble_eq_true rfl) dX0_twos_15 ?_
      refine r_iadd hc dX0_twos_18 ?_
      refine r_istore_nE hc (i := 1) (lv' := [(1, .int (v.1 + r2)), (0, .ref (ad x0)), (2, .int v.2)]) rfl rfl (by decide) rfl dX0_twos_19 ?_
      refine r_iincE hc (j := 2) (w := 1) (lv' := [(2, .int (v.2 + 1)), (1, .int (v.1 + r2)), (0, .ref (ad x0))]) rfl (by decide) rfl (by decide) rfl dX0_twos_20 ?_
      refine r_goto hc (tgt := 4) dX0_twos_23 (by decide) ?_
      refine r_sub [2, 1, 0] (lv' := [(0, .ref (ad x0)), (1, .int (v.1 + r2)), (2, .int (v.2 + 1))]) rfl ?_
      have h := wp_v h
      exact kn ((v.1 + r2), (v.2 + 1)) _ h
noncomputable def f_X0_twos (x0 : Nat) (σ : Hp) : Option (Int32 × Hp) := bO (wh (f_X0_twos_L4 x0) (0, 0) σ) fun y1 σ2 => (gO (nz 2) fun z3 => some ((y1 / 2), σ2))
set_option maxRecDepth 100000 in
set_option maxHeartbeats 4000000 in
theorem t_X0_twos {l : Launch} {γ : Gm} {ad : Nat → Nat} {K : Option Value → Hp → Prop} (hc : Cx l γ 4 3 ad shC RX0 cX0_twos (some .int) K) {x0 : Nat} {σ : Hp} (h : wpO (f_X0_twos x0 σ) (KI K)) : WW l γ 4 3 ad shC 0 [(0, .ref (ad x0))] [] σ := by
  unfold f_X0_twos at h
  refine r_iconst hc (v := 0) (by decide) dX0_twos_0 ?_
  refine r_istore_nE hc (i := 1) (lv' := [(1, .int 0), (0, .ref (ad x0))]) rfl rfl (by decide) rfl dX0_twos_1 ?_
  refine r_iconst hc (v := 0) (by decide) dX0_twos_2 ?_
  refine r_istore_nE hc (i := 2) (lv' := [(2, .int 0), (1, .int 0), (0, .ref (ad x0))]) rfl rfl (by decide) rfl dX0_twos_3 ?_
  refine r_sub [2, 1, 0] (lv' := [(0, .ref (ad x0)), (1, .int 0), (2, .int 0)]) rfl ?_
  refine t_X0_twos_L4 hc (wp_bb h) ?_
  · intro y1 σ2 h
    refine r_iload_n hc 0 rfl rfl dX0_twos_26 ?_
    refine r_iconst hc (v := 2) (by decide) dX0_twos_27 ?_
    obtain ⟨z3, ez3, h⟩ := wp_g h
    refine r_idiv hc ez3 dX0_twos_28 ?_
    have h := wp_v h
    exact r_iret hc h dX0_twos_29
theorem c_X0_twos {l : Launch} {x0 : Nat} {σ σ' : Hp} {r : Int32} (h : f_X0_twos x0 σ = some (r, σ')) : Mt l yX0_twos cX0_twos 3 (some .int) 4 shC (fun ad => [.ref (ad x0)]) σ (fun ad => some (.int r)) σ' := mt_i (own := RX0) (by decide) rfl (fun _ => Nat.le_of_ble_eq_true rfl) (fun γ ad K hc hk => t_X0_twos hc ⟨_, _, h, hk⟩)

-- NetMaps.crowds(III)I
theorem dX6_crowds_0 : decode cX6_crowds 0 = .ok (.iload_n 1, 1) := by decide +kernel
theorem dX6_crowds_1 : decode cX6_crowds 1 = .ok (.invokestatic 76, 3) := by decide +kernel
theorem dX6_crowds_4 : decode cX6_crowds 4 = .ok (.ifCond .ne 19, 3) := by decide +kernel
theorem dX6_crowds_7 : decode cX6_crowds 7 = .ok (.iload_n 2, 1) := by decide +kernel
theorem dX6_crowds_8 : decode cX6_crowds 8 = .ok (.invokestatic 76, 3) := by decide +kernel
theorem dX6_crowds_11 : decode cX6_crowds 11 = .ok (.ifCond .ne 12, 3) := by decide +kernel
theorem dX6_crowds_14 : decode cX6_crowds 14 = .ok (.iload_n 3, 1) := by decide +kernel
theorem dX6_crowds_15 : decode cX6_crowds 15 = .ok (.ifCond .lt 8, 3) := by decide +kernel
theorem dX6_crowds_18 : decode cX6_crowds 18 = .ok (.iload_n 3, 1) := by decide +kernel
theorem dX6_crowds_19 : decode cX6_crowds 19 = .ok (.iconst 3, 1) := by decide +kernel
theorem dX6_crowds_20 : decode cX6_crowds 20 = .ok (.if_icmp .le 5, 3) := by decide +kernel
theorem dX6_crowds_23 : decode cX6_crowds 23 = .ok (.iconst (-1), 1) := by decide +kernel
theorem dX6_crowds_24 : decode cX6_crowds 24 = .ok (.ireturn, 1) := by decide +kernel
theorem dX6_crowds_25 : decode cX6_crowds 25 = .ok (.aload_n 0, 1) := by decide +kernel
theorem dX6_crowds_26 : decode cX6_crowds 26 = .ok (.iload_n 1, 1) := by decide +kernel
theorem dX6_crowds_27 : decode cX6_crowds 27 = .ok (.invokevirtual 91, 3) := by decide +kernel
theorem dX6_crowds_30 : decode cX6_crowds 30 = .ok (.invokevirtual 109, 3) := by decide +kernel
theorem dX6_crowds_33 : decode cX6_crowds 33 = .ok (.ifCond .ne 14, 3) := by decide +kernel
theorem dX6_crowds_36 : decode cX6_crowds 36 = .ok (.aload_n 0, 1) := by decide +kernel
theorem dX6_crowds_37 : decode cX6_crowds 37 = .ok (.iload_n 2, 1) := by decide +kernel
theorem dX6_crowds_38 : decode cX6_crowds 38 = .ok (.invokevirtual 91, 3) := by decide +kernel
theorem dX6_crowds_41 : decode cX6_crowds 41 = .ok (.invokevirtual 109, 3) := by decide +kernel
theorem dX6_crowds_44 : decode cX6_crowds 44 = .ok (.ifCond .eq 6, 3) := by decide +kernel
theorem dX6_crowds_47 : decode cX6_crowds 47 = .ok (.bipush (-2), 2) := by decide +kernel
theorem dX6_crowds_49 : decode cX6_crowds 49 = .ok (.ireturn, 1) := by decide +kernel
theorem dX6_crowds_50 : decode cX6_crowds 50 = .ok (.aload_n 0, 1) := by decide +kernel
theorem dX6_crowds_51 : decode cX6_crowds 51 = .ok (.aload_n 0, 1) := by decide +kernel
theorem dX6_crowds_52 : decode cX6_crowds 52 = .ok (.iload_n 1, 1) := by decide +kernel
theorem dX6_crowds_53 : decode cX6_crowds 53 = .ok (.invokevirtual 91, 3) := by decide +kernel
theorem dX6_crowds_56 : decode cX6_crowds 56 = .ok (.aload_n 0, 1) := by decide +kernel
theorem dX6_crowds_57 : decode cX6_crowds 57 = .ok (.iload_n 2, 1) := by decide +kernel
theorem dX6_crowds_58 : decode cX6_crowds 58 = .ok (.invokevirtual 91, 3) := by decide +kernel
theorem dX6_crowds_61 : decode cX6_crowds 61 = .ok (.invokevirtual 292, 3) := by decide +kernel
theorem dX6_crowds_64 : decode cX6_crowds 64 = .ok (.ifCond .ne 6, 3) := by decide +kernel
theorem dX6_crowds_67 : decode cX6_crowds 67 = .ok (.bipush (-3), 2) := by decide +kernel
theorem dX6_crowds_69 : decode cX6_crowds 69 = .ok (.ireturn, 1) := by decide +kernel
theorem dX6_crowds_70 : decode cX6_crowds 70 = .ok (.iload_n 3, 1) := by decide +kernel
theorem dX6_crowds_71 : decode cX6_crowds 71 = .ok (.tableswitch 51 0 2 #[25, 33, 42], 25) := by decide +kernel
theorem dX6_crowds_96 : decode cX6_crowds 96 = .ok (.aload_n 0, 1) := by decide +kernel
theorem dX6_crowds_97 : decode cX6_crowds 97 = .ok (.getfield 55, 3) := by decide +kernel
theorem dX6_crowds_100 : decode cX6_crowds 100 = .ok (.invokevirtual 304, 3) := by decide +kernel
theorem dX6_crowds_103 : decode cX6_crowds 103 = .ok (.ireturn, 1) := by decide +kernel
theorem dX6_crowds_104 : decode cX6_crowds 104 = .ok (.aload_n 0, 1) := by decide +kernel
theorem dX6_crowds_105 : decode cX6_crowds 105 = .ok (.getfield 55, 3) := by decide +kernel
theorem dX6_crowds_108 : decode cX6_crowds 108 = .ok (.iconst 0, 1) := by decide +kernel
theorem dX6_crowds_109 : decode cX6_crowds 109 = .ok (.invokevirtual 307, 3) := by decide +kernel
theorem dX6_crowds_112 : decode cX6_crowds 112 = .ok (.ireturn, 1) := by decide +kernel
theorem dX6_crowds_113 : decode cX6_crowds 113 = .ok (.aload_n 0, 1) := by decide +kernel
theorem dX6_crowds_114 : decode cX6_crowds 114 = .ok (.getfield 55, 3) := by decide +kernel
theorem dX6_crowds_117 : decode cX6_crowds 117 = .ok (.iconst 1, 1) := by decide +kernel
theorem dX6_crowds_118 : decode cX6_crowds 118 = .ok (.invokevirtual 307, 3) := by decide +kernel
theorem dX6_crowds_121 : decode cX6_crowds 121 = .ok (.ireturn, 1) := by decide +kernel
theorem dX6_crowds_122 : decode cX6_crowds 122 = .ok (.aload_n 0, 1) := by decide +kernel
theorem dX6_crowds_123 : decode cX6_crowds 123 = .ok (.getfield 55, 3) := by decide +kernel
theorem dX6_crowds_126 : decode cX6_crowds 126 = .ok (.invokevirtual 310, 3) := by decide +kernel
theorem dX6_crowds_129 : decode cX6_crowds 129 = .ok (.ireturn, 1) := by decide +kernel
noncomputable def f_X6_crowds_b23  (σ : Hp) : Option (Int32 × Hp) := some ((-1), σ)
set_option maxRecDepth 100000 in
set_option maxHeartbeats 4000000 in
theorem t_X6_crowds_b23 {l : Launch} {γ : Gm} {ad : Nat → Nat} {K : Option Value → Hp → Prop} (hc : Cx l γ 36 4 ad shC RX6 cX6_crowds (some .int) K)  {σ : Hp} (h : wpO (f_X6_crowds_b23  σ) (KI K)) : WW l γ 36 4 ad shC 23 [] [] σ := by
  unfold f_X6_crowds_b23 at h
  refine r_iconst hc (v := (-1)) (by decide) dX6_crowds_23 ?_
  have h := wp_v h
  exact r_iret hc h dX6_crowds_24
noncomputable def f_X6_crowds_b47  (σ : Hp) : Option (Int32 × Hp) := some ((-2), σ)
set_option maxRecDepth 100000 in
set_option maxHeartbeats 4000000 in
theorem t_X6_crowds_b47 {l : Launch} {γ : Gm} {ad : Nat → Nat} {K : Option Value → Hp → Prop} (hc : Cx l γ 36 4 ad shC RX6 cX6_crowds (some .int) K)  {σ : Hp} (h : wpO (f_X6_crowds_b47  σ) (KI K)) : WW l γ 36 4 ad shC 47 [] [] σ := by
  unfold f_X6_crowds_b47 at h
  refine r_bipush hc (v := (-2)) (by decide) dX6_crowds_47 ?_
  have h := wp_v h
  exact r_iret hc h dX6_crowds_49
noncomputable def f_X6_crowds (x0 : Nat) (x1 : Int32) (x2 : Int32) (x3 : Int32) (σ : Hp) : Option (Int32 × Hp) := bO (f_X6_noDrawer x1 σ) fun r1 σ2 => if r1 = 0 then (bO (f_X6_noDrawer x2 σ2) fun r3 σ4 => if r3 = 0 then (if x3 < 0 then (f_X6_crowds_b23  σ4) else (if x3 ≤ 3 then (gO (chk shC x0 6) fun _ => bO (f_X6_in x0 x1 σ4) fun r5 σ6 => gO (chk shC r5 1) fun _ => bO (f_X1_isEmpty r5 σ6) fun r8 σ9 => if r8 = 0 then (gO (chk shC x0 6) fun _ => bO (f_X6_in x0 x2 σ9) fun r11 σ12 => gO (chk shC r11 1) fun _ => bO (f_X1_isEmpty r11 σ12) fun r14 σ15 => if r14 = 0 then (gO (chk shC x0 6) fun _ => bO (f_X6_in x0 x1 σ15) fun r17 σ18 => gO (chk shC x0 6) fun _ => bO (f_X6_in x0 x2 σ18) fun r20 σ21 => gO (chk shC x0 6) fun _ => bO (f_X6_gathered x0 r17 r20 σ21) fun r23 σ24 => if r23 = 0 then (some ((-3), σ24)) else (if x3 = 0 then (gO (getR shC 6 x0 9 σ24) fun v26 => gO (chk shC v26 0) fun _ => bO (f_X0_frozen v26 σ24) fun r27 σ28 => some (r27, σ28)) else (if x3 = 1 then (gO (getR shC 6 x0 9 σ24) fun v30 => gO (chk shC v30 0) fun _ => bO (f_X0_parts v30 0 σ24) fun r31 σ32 => some (r31, σ32)) else (if x3 = 2 then (gO (getR shC 6 x0 9 σ24) fun v34 => gO (chk shC v34 0) fun _ => bO (f_X0_parts v34 1 σ24) fun r35 σ36 => some (r35, σ36)) else (gO (getR shC 6 x0 9 σ24) fun v38 => gO (chk shC v38 0) fun _ => bO (f_X0_twos v38 σ24) fun r39 σ40 => some (r39, σ40)))))) else (f_X6_crowds_b47  σ15)) else (f_X6_crowds_b47  σ9)) else (f_X6_crowds_b23  σ4))) else (f_X6_crowds_b23  σ4)) else (f_X6_crowds_b23  σ2)
set_option maxRecDepth 100000 in
set_option maxHeartbeats 4000000 in
theorem t_X6_crowds {l : Launch} {γ : Gm} {ad : Nat → Nat} {K : Option Value → Hp → Prop} (hc : Cx l γ 36 4 ad shC RX6 cX6_crowds (some .int) K) {x0 : Nat} {x1 : Int32} {x2 : Int32} {x3 : Int32} {σ : Hp} (h : wpO (f_X6_crowds x0 x1 x2 x3 σ) (KI K)) : WW l γ 36 4 ad shC 0 [(0, .ref (ad x0)), (1, .int x1), (2, .int x2), (3, .int x3)] [] σ := by
  unfold f_X6_crowds at h
  refine r_iload_n hc 1 rfl rfl dX6_crowds_0 ?_
  obtain ⟨r1, σ2, er1, h⟩ := wp_b h
  refine r_callS hc ms_X6_noDrawer ml_X6_76 (c_X6_noDrawer er1) rfl rfl (by decide) rfl (Nat.le_of_ble_eq_true rfl) dX6_crowds_1 ?_
  refine r_if_ne hc (tgt := 23) dX6_crowds_4 (by decide) (fun c => ?_) (fun c => ?_)
  · have h := wp_f c h
    refine r_sub [] (lv' := []) rfl ?_
    exact t_X6_crowds_b23 hc h
  · have h := wp_t c h
    refine r_iload_n hc 2 rfl rfl dX6_crowds_7 ?_
    obtain ⟨r3, σ4, er3, h⟩ := wp_b h
    refine r_callS hc ms_X6_noDrawer ml_X6_76 (c_X6_noDrawer er3) rfl rfl (by decide) rfl (Nat.le_of_ble_eq_true rfl) dX6_crowds_8 ?_
    refine r_if_ne hc (tgt := 23) dX6_crowds_11 (by decide) (fun c => ?_) (fun c => ?_)
    · have h := wp_f c h
      refine r_sub [] (lv' := []) rfl ?_
      exact t_X6_crowds_b23 hc h
    · have h := wp_t c h
      refine r_iload_n hc 3 rfl rfl dX6_crowds_14 ?_
      refine r_if_lt hc (tgt := 23) dX6_crowds_15 (by decide) (fun c => ?_) (fun c => ?_)
      · have h := wp_t c h
        refine r_sub [] (lv' := []) rfl ?_
        exact t_X6_crowds_b23 hc h
      · have h := wp_f c h
        refine r_iload_n hc 3 rfl rfl dX6_crowds_18 ?_
        refine r_iconst hc (v := 3) (by decide) dX6_crowds_19 ?_
        refine r_icmp_le hc (tgt := 25) dX6_crowds_20 (by decide) (fun c => ?_) (fun c => ?_)
        · have h := wp_t c h
          refine r_aload_n hc 0 rfl rfl dX6_crowds_25 ?_
          refine r_iload_n hc 1 rfl rfl dX6_crowds_26 ?_
          obtain ⟨_, ek7, h⟩ := wp_g h
          obtain ⟨r5, σ6, er5, h⟩ := wp_b h
          refine r_callV hc (k0 := x0) mv_X6_in ml_X6_91 (c_X6_in er5) (chk_of ek7) cls_6.1 rfl rfl rfl (by decide) rfl (Nat.le_of_ble_eq_true rfl) dX6_crowds_27 ?_
          obtain ⟨_, ek10, h⟩ := wp_g h
          obtain ⟨r8, σ9, er8, h⟩ := wp_b h
          refine r_callV hc (k0 := r5) mv_X1_isEmpty ml_X6_109 (c_X1_isEmpty er8) (chk_of ek10) cls_1.1 rfl rfl rfl (by decide) rfl (Nat.le_of_ble_eq_true rfl) dX6_crowds_30 ?_
          refine r_if_ne hc (tgt := 47) dX6_crowds_33 (by decide) (fun c => ?_) (fun c => ?_)
          · have h := wp_f c h
            refine r_sub [] (lv' := []) rfl ?_
            exact t_X6_crowds_b47 hc h
          · have h := wp_t c h
            refine r_aload_n hc 0 rfl rfl dX6_crowds_36 ?_
            refine r_iload_n hc 2 rfl rfl dX6_crowds_37 ?_
            obtain ⟨_, ek13, h⟩ := wp_g h
            obtain ⟨r11, σ12, er11, h⟩ := wp_b h
            refine r_callV hc (k0 := x0) mv_X6_in ml_X6_91 (c_X6_in er11) (chk_of ek13) cls_6.1 rfl rfl rfl (by decide) rfl (Nat.le_of_ble_eq_true rfl) dX6_crowds_38 ?_
            obtain ⟨_, ek16, h⟩ := wp_g h
            obtain ⟨r14, σ15, er14, h⟩ := wp_b h
            refine r_callV hc (k0 := r11) mv_X1_isEmpty ml_X6_109 (c_X1_isEmpty er14) (chk_of ek16) cls_1.1 rfl rfl rfl (by decide) rfl (Nat.le_of_ble_eq_true rfl) dX6_crowds_41 ?_
            refine r_if_eq hc (tgt := 50) dX6_crowds_44 (by decide) (fun c => ?_) (fun c => ?_)
            · have h := wp_t c h
              refine r_aload_n hc 0 rfl rfl dX6_crowds_50 ?_
              refine r_aload_n hc 0 rfl rfl dX6_crowds_51 ?_
              refine r_iload_n hc 1 rfl rfl dX6_crowds_52 ?_
              obtain ⟨_, ek19, h⟩ := wp_g h
              obtain ⟨r17, σ18, er17, h⟩ := wp_b h
              refine r_callV hc (k0 := x0) mv_X6_in ml_X6_91 (c_X6_in er17) (chk_of ek19) cls_6.1 rfl rfl rfl (by decide) rfl (Nat.le_of_ble_eq_true rfl) dX6_crowds_53 ?_
              refine r_aload_n hc 0 rfl rfl dX6_crowds_56 ?_
              refine r_iload_n hc 2 rfl rfl dX6_crowds_57 ?_
              obtain ⟨_, ek22, h⟩ := wp_g h
              obtain ⟨r20, σ21, er20, h⟩ := wp_b h
              refine r_callV hc (k0 := x0) mv_X6_in ml_X6_91 (c_X6_in er20) (chk_of ek22) cls_6.1 rfl rfl rfl (by decide) rfl (Nat.le_of_ble_eq_true rfl) dX6_crowds_58 ?_
              obtain ⟨_, ek25, h⟩ := wp_g h
              obtain ⟨r23, σ24, er23, h⟩ := wp_b h
              refine r_callV hc (k0 := x0) mv_X6_gathered ml_X6_292 (c_X6_gathered er23) (chk_of ek25) cls_6.1 rfl rfl rfl (by decide) rfl (Nat.le_of_ble_eq_true rfl) dX6_crowds_61 ?_
              refine r_if_ne hc (tgt := 70) dX6_crowds_64 (by decide) (fun c => ?_) (fun c => ?_)
              · have h := wp_f c h
                refine r_iload_n hc 3 rfl rfl dX6_crowds_70 ?_
                by_cases c0 : x3 = 0
                · have h := wp_t c0 h
                  refine r_tabIn hc (off := 25) (tgt := 96) dX6_crowds_71 c0 (by decide) (by decide) (by decide) (by decide) ?_
                  refine r_aload_n hc 0 rfl rfl dX6_crowds_96 ?_
                  obtain ⟨v26, ev26, h⟩ := wp_g h
                  refine r_getR hc ev26 fl_X6_55 rfl dX6_crowds_97 ?_
                  obtain ⟨_, ek29, h⟩ := wp_g h
                  obtain ⟨r27, σ28, er27, h⟩ := wp_b h
                  refine r_callV hc (k0 := v26) mv_X0_frozen ml_X6_304 (c_X0_frozen er27) (chk_of ek29) cls_0.1 rfl rfl rfl (by decide) rfl (Nat.le_of_ble_eq_true rfl) dX6_crowds_100 ?_
                  have h := wp_v h
                  exact r_iret hc h dX6_crowds_103
                have h := wp_f c0 h
                by_cases c1 : x3 = 1
                · have h := wp_t c1 h
                  refine r_tabIn hc (off := 33) (tgt := 104) dX6_crowds_71 c1 (by decide) (by decide) (by decide) (by decide) ?_
                  refine r_aload_n hc 0 rfl rfl dX6_crowds_104 ?_
                  obtain ⟨v30, ev30, h⟩ := wp_g h
                  refine r_getR hc ev30 fl_X6_55 rfl dX6_crowds_105 ?_
                  refine r_iconst hc (v := 0) (by decide) dX6_crowds_108 ?_
                  obtain ⟨_, ek33, h⟩ := wp_g h
                  obtain ⟨r31, σ32, er31, h⟩ := wp_b h
                  refine r_callV hc (k0 := v30) mv_X0_parts ml_X6_307 (c_X0_parts er31) (chk_of ek33) cls_0.1 rfl rfl rfl (by decide) rfl (Nat.le_of_ble_eq_true rfl) dX6_crowds_109 ?_
                  have h := wp_v h
                  exact r_iret hc h dX6_crowds_112
                have h := wp_f c1 h
                by_cases c2 : x3 = 2
                · have h := wp_t c2 h
                  refine r_tabIn hc (off := 42) (tgt := 113) dX6_crowds_71 c2 (by decide) (by decide) (by decide) (by decide) ?_
                  refine r_aload_n hc 0 rfl rfl dX6_crowds_113 ?_
                  obtain ⟨v34, ev34, h⟩ := wp_g h
                  refine r_getR hc ev34 fl_X6_55 rfl dX6_crowds_114 ?_
                  refine r_iconst hc (v := 1) (by decide) dX6_crowds_117 ?_
                  obtain ⟨_, ek37, h⟩ := wp_g h
                  obtain ⟨r35, σ36, er35, h⟩ := wp_b h
                  refine r_callV hc (k0 := v34) mv_X0_parts ml_X6_307 (c_X0_parts er35) (chk_of ek37) cls_0.1 rfl rfl rfl (by decide) rfl (Nat.le_of_ble_eq_true rfl) dX6_crowds_118 ?_
                  have h := wp_v h
                  exact r_iret hc h dX6_crowds_121
                have h := wp_f c2 h
                refine r_tabOut hc (tgt := 122) dX6_crowds_71 (sw_out 0 3 (fun i hi => by rcases (show i = 0 ∨ i = 1 ∨ i = 2 by omega) with rfl | rfl | rfl <;> assumption)) (by decide) ?_
                refine r_aload_n hc 0 rfl rfl dX6_crowds_122 ?_
                obtain ⟨v38, ev38, h⟩ := wp_g h
                refine r_getR hc ev38 fl_X6_55 rfl dX6_crowds_123 ?_
                obtain ⟨_, ek41, h⟩ := wp_g h
                obtain ⟨r39, σ40, er39, h⟩ := wp_b h
                refine r_callV hc (k0 := v38) mv_X0_twos ml_X6_310 (c_X0_twos er39) (chk_of ek41) cls_0.1 rfl rfl rfl (by decide) rfl (Nat.le_of_ble_eq_true rfl) dX6_crowds_126 ?_
                have h := wp_v h
                exact r_iret hc h dX6_crowds_129
              · have h := wp_t c h
                refine r_bipush hc (v := (-3)) (by decide) dX6_crowds_67 ?_
                have h := wp_v h
                exact r_iret hc h dX6_crowds_69
            · have h := wp_f c h
              refine r_sub [] (lv' := []) rfl ?_
              exact t_X6_crowds_b47 hc h
        · have h := wp_f c h
          refine r_sub [] (lv' := []) rfl ?_
          exact t_X6_crowds_b23 hc h
theorem c_X6_crowds {l : Launch} {x0 : Nat} {x1 : Int32} {x2 : Int32} {x3 : Int32} {σ σ' : Hp} {r : Int32} (h : f_X6_crowds x0 x1 x2 x3 σ = some (r, σ')) : Mt l yX6_crowds cX6_crowds 4 (some .int) 36 shC (fun ad => [.ref (ad x0), .int x1, .int x2, .int x3]) σ (fun ad => some (.int r)) σ' := mt_i (own := RX6) (by decide) rfl (fun _ => Nat.le_of_ble_eq_true rfl) (fun γ ad K hc hk => t_X6_crowds hc ⟨_, _, h, hk⟩)

-- NetMaps.mayBe(LNetMaps$Net;II)I
theorem dX6_mayBe_0 : decode cX6_mayBe 0 = .ok (.iload_n 1, 1) := by decide +kernel
theorem dX6_mayBe_1 : decode cX6_mayBe 1 = .ok (.ifCond .ne 8, 3) := by decide +kernel
theorem dX6_mayBe_4 : decode cX6_mayBe 4 = .ok (.aload_n 0, 1) := by decide +kernel
theorem dX6_mayBe_5 : decode cX6_mayBe 5 = .ok (.invokevirtual 206, 3) := by decide +kernel
theorem dX6_mayBe_8 : decode cX6_mayBe 8 = .ok (.ireturn, 1) := by decide +kernel
theorem dX6_mayBe_9 : decode cX6_mayBe 9 = .ok (.iload_n 2, 1) := by decide +kernel
theorem dX6_mayBe_10 : decode cX6_mayBe 10 = .ok (.aload_n 0, 1) := by decide +kernel
theorem dX6_mayBe_11 : decode cX6_mayBe 11 = .ok (.getfield 126, 3) := by decide +kernel
theorem dX6_mayBe_14 : decode cX6_mayBe 14 = .ok (.iconst 0, 1) := by decide +kernel
theorem dX6_mayBe_15 : decode cX6_mayBe 15 = .ok (.invokestatic 187, 3) := by decide +kernel
theorem dX6_mayBe_18 : decode cX6_mayBe 18 = .ok (.istore_n 3, 1) := by decide +kernel
theorem dX6_mayBe_19 : decode cX6_mayBe 19 = .ok (.iload_n 2, 1) := by decide +kernel
theorem dX6_mayBe_20 : decode cX6_mayBe 20 = .ok (.aload_n 0, 1) := by decide +kernel
theorem dX6_mayBe_21 : decode cX6_mayBe 21 = .ok (.getfield 126, 3) := by decide +kernel
theorem dX6_mayBe_24 : decode cX6_mayBe 24 = .ok (.iconst 1, 1) := by decide +kernel
theorem dX6_mayBe_25 : decode cX6_mayBe 25 = .ok (.invokestatic 187, 3) := by decide +kernel
theorem dX6_mayBe_28 : decode cX6_mayBe 28 = .ok (.istore 4, 2) := by decide +kernel
theorem dX6_mayBe_30 : decode cX6_mayBe 30 = .ok (.iload_n 2, 1) := by decide +kernel
theorem dX6_mayBe_31 : decode cX6_mayBe 31 = .ok (.aload_n 0, 1) := by decide +kernel
theorem dX6_mayBe_32 : decode cX6_mayBe 32 = .ok (.getfield 126, 3) := by decide +kernel
theorem dX6_mayBe_35 : decode cX6_mayBe 35 = .ok (.iconst 2, 1) := by decide +kernel
theorem dX6_mayBe_36 : decode cX6_mayBe 36 = .ok (.invokestatic 187, 3) := by decide +kernel
theorem dX6_mayBe_39 : decode cX6_mayBe 39 = .ok (.istore 5, 2) := by decide +kernel
theorem dX6_mayBe_41 : decode cX6_mayBe 41 = .ok (.iload 4, 2) := by decide +kernel
theorem dX6_mayBe_43 : decode cX6_mayBe 43 = .ok (.iload_n 3, 1) := by decide +kernel
theorem dX6_mayBe_44 : decode cX6_mayBe 44 = .ok (.if_icmp .eq 14, 3) := by decide +kernel
theorem dX6_mayBe_47 : decode cX6_mayBe 47 = .ok (.iload_n 1, 1) := by decide +kernel
theorem dX6_mayBe_48 : decode cX6_mayBe 48 = .ok (.iconst 3, 1) := by decide +kernel
theorem dX6_mayBe_49 : decode cX6_mayBe 49 = .ok (.if_icmp .ne 13, 3) := by decide +kernel
theorem dX6_mayBe_52 : decode cX6_mayBe 52 = .ok (.iload 5, 2) := by decide +kernel
theorem dX6_mayBe_54 : decode cX6_mayBe 54 = .ok (.iload_n 3, 1) := by decide +kernel
theorem dX6_mayBe_55 : decode cX6_mayBe 55 = .ok (.if_icmp .ne 7, 3) := by decide +kernel
theorem dX6_mayBe_58 : decode cX6_mayBe 58 = .ok (.iconst 1, 1) := by decide +kernel
theorem dX6_mayBe_59 : decode cX6_mayBe 59 = .ok (.iload_n 3, 1) := by decide +kernel
theorem dX6_mayBe_60 : decode cX6_mayBe 60 = .ok (.ishl, 1) := by decide +kernel
theorem dX6_mayBe_61 : decode cX6_mayBe 61 = .ok (.ireturn, 1) := by decide +kernel
theorem dX6_mayBe_62 : decode cX6_mayBe 62 = .ok (.iload_n 1, 1) := by decide +kernel
theorem dX6_mayBe_63 : decode cX6_mayBe 63 = .ok (.iconst 3, 1) := by decide +kernel
theorem dX6_mayBe_64 : decode cX6_mayBe 64 = .ok (.if_icmp .ne 17, 3) := by decide +kernel
theorem dX6_mayBe_67 : decode cX6_mayBe 67 = .ok (.iload 5, 2) := by decide +kernel
theorem dX6_mayBe_69 : decode cX6_mayBe 69 = .ok (.iload 4, 2) := by decide +kernel
theorem dX6_mayBe_71 : decode cX6_mayBe 71 = .ok (.if_icmp .ne 10, 3) := by decide +kernel
theorem dX6_mayBe_74 : decode cX6_mayBe 74 = .ok (.iconst 1, 1) := by decide +kernel
theorem dX6_mayBe_75 : decode cX6_mayBe 75 = .ok (.iload 4, 2) := by decide +kernel
theorem dX6_mayBe_77 : decode cX6_mayBe 77 = .ok (.ishl, 1) := by decide +kernel
theorem dX6_mayBe_78 : decode cX6_mayBe 78 = .ok (.goto 7, 3) := by decide +kernel
theorem dX6_mayBe_81 : decode cX6_mayBe 81 = .ok (.aload_n 0, 1) := by decide +kernel
theorem dX6_mayBe_82 : decode cX6_mayBe 82 = .ok (.invokevirtual 206, 3) := by decide +kernel
theorem dX6_mayBe_85 : decode cX6_mayBe 85 = .ok (.ireturn, 1) := by decide +kernel
noncomputable def f_X6_mayBe_b58 (x3 : Int32) (σ : Hp) : Option (Int32 × Hp) := some (((1 : Int32) <<< (x3 &&& 31)), σ)
set_option maxRecDepth 100000 in
set_option maxHeartbeats 4000000 in
theorem t_X6_mayBe_b58 {l : Launch} {γ : Gm} {ad : Nat → Nat} {K : Option Value → Hp → Prop} (hc : Cx l γ 2 6 ad shC RX6 cX6_mayBe (some .int) K) {x3 : Int32} {σ : Hp} (h : wpO (f_X6_mayBe_b58 x3 σ) (KI K)) : WW l γ 2 6 ad shC 58 [(3, .int x3)] [] σ := by
  unfold f_X6_mayBe_b58 at h
  refine r_iconst hc (v := 1) (by decide) dX6_mayBe_58 ?_
  refine r_iload_n hc 0 rfl rfl dX6_mayBe_59 ?_
  refine r_ishl hc dX6_mayBe_60 ?_
  have h := wp_v h
  exact r_iret hc h dX6_mayBe_61
noncomputable def f_X6_mayBe_b85 (s0 : Int32) (σ : Hp) : Option (Int32 × Hp) := some (s0, σ)
set_option maxRecDepth 100000 in
set_option maxHeartbeats 4000000 in
theorem t_X6_mayBe_b85 {l : Launch} {γ : Gm} {ad : Nat → Nat} {K : Option Value → Hp → Prop} (hc : Cx l γ 2 6 ad shC RX6 cX6_mayBe (some .int) K) {s0 : Int32} {σ : Hp} (h : wpO (f_X6_mayBe_b85 s0 σ) (KI K)) : WW l γ 2 6 ad shC 85 [] [.int s0] σ := by
  unfold f_X6_mayBe_b85 at h
  have h := wp_v h
  exact r_iret hc h dX6_mayBe_85
noncomputable def f_X6_mayBe_b81 (x0 : Nat) (σ : Hp) : Option (Int32 × Hp) := gO (chk shC x0 1) fun _ => bO (f_X1_all x0 σ) fun r1 σ2 => f_X6_mayBe_b85 r1 σ2
set_option maxRecDepth 100000 in
set_option maxHeartbeats 4000000 in
theorem t_X6_mayBe_b81 {l : Launch} {γ : Gm} {ad : Nat → Nat} {K : Option Value → Hp → Prop} (hc : Cx l γ 2 6 ad shC RX6 cX6_mayBe (some .int) K) {x0 : Nat} {σ : Hp} (h : wpO (f_X6_mayBe_b81 x0 σ) (KI K)) : WW l γ 2 6 ad shC 81 [(0, .ref (ad x0))] [] σ := by
  unfold f_X6_mayBe_b81 at h
  refine r_aload_n hc 0 rfl rfl dX6_mayBe_81 ?_
  obtain ⟨_, ek3, h⟩ := wp_g h
  obtain ⟨r1, σ2, er1, h⟩ := wp_b h
  refine r_callV hc (k0 := x0) mv_X1_all ml_X6_206 (c_X1_all er1) (chk_of ek3) cls_1.1 rfl rfl rfl (by decide) rfl (Nat.le_of_ble_eq_true rfl) dX6_mayBe_82 ?_
  refine r_sub [] (lv' := []) rfl ?_
  exact t_X6_mayBe_b85 hc h
noncomputable def f_X6_mayBe_b62 (x0 : Nat) (x1 : Int32) (x4 : Int32) (x5 : Int32) (σ : Hp) : Option (Int32 × Hp) := if x1 = 3 then (if x5 = x4 then (f_X6_mayBe_b85 ((1 : Int32) <<< (x4 &&& 31)) σ) else (f_X6_mayBe_b81 x0 σ)) else (f_X6_mayBe_b81 x0 σ)
set_option maxRecDepth 100000 in
set_option maxHeartbeats 4000000 in
theorem t_X6_mayBe_b62 {l : Launch} {γ : Gm} {ad : Nat → Nat} {K : Option Value → Hp → Prop} (hc : Cx l γ 2 6 ad shC RX6 cX6_mayBe (some .int) K) {x0 : Nat} {x1 : Int32} {x4 : Int32} {x5 : Int32} {σ : Hp} (h : wpO (f_X6_mayBe_b62 x0 x1 x4 x5 σ) (KI K)) : WW l γ 2 6 ad shC 62 [(0, .ref (ad x0)), (1, .int x1), (4, .int x4), (5, .int x5)] [] σ := by
  unfold f_X6_mayBe_b62 at h
  refine r_iload_n hc 1 rfl rfl dX6_mayBe_62 ?_
  refine r_iconst hc (v := 3) (by decide) dX6_mayBe_63 ?_
  refine r_icmp_ne hc (tgt := 81) dX6_mayBe_64 (by decide) (fun c => ?_) (fun c => ?_)
  · have h := wp_f c h
    refine r_sub [0] (lv' := [(0, .ref (ad x0))]) rfl ?_
    exact t_X6_mayBe_b81 hc h
  · have h := wp_t c h
    refine r_iload hc 3 rfl dX6_mayBe_67 ?_
    refine r_iload hc 2 rfl dX6_mayBe_69 ?_
    refine r_icmp_ne hc (tgt := 81) dX6_mayBe_71 (by decide) (fun c => ?_) (fun c => ?_)
    · have h := wp_f c h
      refine r_sub [0] (lv' := [(0, .ref (ad x0))]) rfl ?_
      exact t_X6_mayBe_b81 hc h
    · have h := wp_t c h
      refine r_iconst hc (v := 1) (by decide) dX6_mayBe_74 ?_
      refine r_iload hc 2 rfl dX6_mayBe_75 ?_
      refine r_ishl hc dX6_mayBe_77 ?_
      refine r_goto hc (tgt := 85) dX6_mayBe_78 (by decide) ?_
      refine r_sub [] (lv' := []) rfl ?_
      exact t_X6_mayBe_b85 hc h
noncomputable def f_X6_mayBe (x0 : Nat) (x1 : Int32) (x2 : Int32) (σ : Hp) : Option (Int32 × Hp) := if x1 = 0 then (gO (chk shC x0 1) fun _ => bO (f_X1_all x0 σ) fun r10 σ11 => some (r10, σ11)) else (gO (getI shC 1 x0 0 σ) fun v1 => bO (f_X6_digit x2 v1 0 σ) fun r2 σ3 => gO (getI shC 1 x0 0 σ3) fun v4 => bO (f_X6_digit x2 v4 1 σ3) fun r5 σ6 => gO (getI shC 1 x0 0 σ6) fun v7 => bO (f_X6_digit x2 v7 2 σ6) fun r8 σ9 => if r5 = r2 then (f_X6_mayBe_b58 r2 σ9) else (if x1 = 3 then (if r8 = r2 then (f_X6_mayBe_b58 r2 σ9) else (f_X6_mayBe_b62 x0 x1 r5 r8 σ9)) else (f_X6_mayBe_b62 x0 x1 r5 r8 σ9)))
set_option maxRecDepth 100000 in
set_option maxHeartbeats 4000000 in
theorem t_X6_mayBe {l : Launch} {γ : Gm} {ad : Nat → Nat} {K : Option Value → Hp → Prop} (hc : Cx l γ 2 6 ad shC RX6 cX6_mayBe (some .int) K) {x0 : Nat} {x1 : Int32} {x2 : Int32} {σ : Hp} (h : wpO (f_X6_mayBe x0 x1 x2 σ) (KI K)) : WW l γ 2 6 ad shC 0 [(0, .ref (ad x0)), (1, .int x1), (2, .int x2)] [] σ := by
  unfold f_X6_mayBe at h
  refine r_iload_n hc 1 rfl rfl dX6_mayBe_0 ?_
  refine r_if_ne hc (tgt := 9) dX6_mayBe_1 (by decide) (fun c => ?_) (fun c => ?_)
  · have h := wp_f c h
    refine r_iload_n hc 2 rfl rfl dX6_mayBe_9 ?_
    refine r_aload_n hc 0 rfl rfl dX6_mayBe_10 ?_
    obtain ⟨v1, ev1, h⟩ := wp_g h
    refine r_getI hc ev1 fl_X6_126 rfl dX6_mayBe_11 ?_
    refine r_iconst hc (v := 0) (by decide) dX6_mayBe_14 ?_
    obtain ⟨r2, σ3, er2, h⟩ := wp_b h
    refine r_callS hc ms_X6_digit ml_X6_187 (c_X6_digit er2) rfl rfl (by decide) rfl (Nat.le_of_ble_eq_true rfl) dX6_mayBe_15 ?_
    refine r_istore_nE hc (i := 3) (lv' := [(3, .int r2), (0, .ref (ad x0)), (1, .int x1), (2, .int x2)]) rfl rfl (by decide) rfl dX6_mayBe_18 ?_
    refine r_iload_n hc 3 rfl rfl dX6_mayBe_19 ?_
    refine r_aload_n hc 1 rfl rfl dX6_mayBe_20 ?_
    obtain ⟨v4, ev4, h⟩ := wp_g h
    refine r_getI hc ev4 fl_X6_126 rfl dX6_mayBe_21 ?_
    refine r_iconst hc (v := 1) (by decide) dX6_mayBe_24 ?_
    obtain ⟨r5, σ6, er5, h⟩ := wp_b h
    refine r_callS hc ms_X6_digit ml_X6_187 (c_X6_digit er5) rfl rfl (by decide) rfl (Nat.le_of_ble_eq_true rfl) dX6_mayBe_25 ?_
    refine r_istoreE hc (i := 4) (lv' := [(4, .int r5), (3, .int r2), (0, .ref (ad x0)), (1, .int x1), (2, .int x2)]) rfl (by decide) rfl dX6_mayBe_28 ?_
    refine r_iload_n hc 4 rfl rfl dX6_mayBe_30 ?_
    refine r_aload_n hc 2 rfl rfl dX6_mayBe_31 ?_
    obtain ⟨v7, ev7, h⟩ := wp_g h
    refine r_getI hc ev7 fl_X6_126 rfl dX6_mayBe_32 ?_
    refine r_iconst hc (v := 2) (by decide) dX6_mayBe_35 ?_
    obtain ⟨r8, σ9, er8, h⟩ := wp_b h
    refine r_callS hc ms_X6_digit ml_X6_187 (c_X6_digit er8) rfl rfl (by decide) rfl (Nat.le_of_ble_eq_true rfl) dX6_mayBe_36 ?_
    refine r_istoreE hc (i := 5) (lv' := [(5, .int r8), (4, .int r5), (3, .int r2), (0, .ref (ad x0)), (1, .int x1), (2, .int x2)]) rfl (by decide) rfl dX6_mayBe_39 ?_
    refine r_iload hc 1 rfl dX6_mayBe_41 ?_
    refine r_iload_n hc 2 rfl rfl dX6_mayBe_43 ?_
    refine r_icmp_eq hc (tgt := 58) dX6_mayBe_44 (by decide) (fun c => ?_) (fun c => ?_)
    · have h := wp_t c h
      refine r_sub [2] (lv' := [(3, .int r2)]) rfl ?_
      exact t_X6_mayBe_b58 hc h
    · have h := wp_f c h
      refine r_iload_n hc 4 rfl rfl dX6_mayBe_47 ?_
      refine r_iconst hc (v := 3) (by decide) dX6_mayBe_48 ?_
      refine r_icmp_ne hc (tgt := 62) dX6_mayBe_49 (by decide) (fun c => ?_) (fun c => ?_)
      · have h := wp_f c h
        refine r_sub [3, 4, 1, 0] (lv' := [(0, .ref (ad x0)), (1, .int x1), (4, .int r5), (5, .int r8)]) rfl ?_
        exact t_X6_mayBe_b62 hc h
      · have h := wp_t c h
        refine r_iload hc 0 rfl dX6_mayBe_52 ?_
        refine r_iload_n hc 2 rfl rfl dX6_mayBe_54 ?_
        refine r_icmp_ne hc (tgt := 62) dX6_mayBe_55 (by decide) (fun c => ?_) (fun c => ?_)
        · have h := wp_f c h
          refine r_sub [3, 4, 1, 0] (lv' := [(0, .ref (ad x0)), (1, .int x1), (4, .int r5), (5, .int r8)]) rfl ?_
          exact t_X6_mayBe_b62 hc h
        · have h := wp_t c h
          refine r_sub [2] (lv' := [(3, .int r2)]) rfl ?_
          exact t_X6_mayBe_b58 hc h
  · have h := wp_t c h
    refine r_aload_n hc 0 rfl rfl dX6_mayBe_4 ?_
    obtain ⟨_, ek12, h⟩ := wp_g h
    obtain ⟨r10, σ11, er10, h⟩ := wp_b h
    refine r_callV hc (k0 := x0) mv_X1_all ml_X6_206 (c_X1_all er10) (chk_of ek12) cls_1.1 rfl rfl rfl (by decide) rfl (Nat.le_of_ble_eq_true rfl) dX6_mayBe_5 ?_
    have h := wp_v h
    exact r_iret hc h dX6_mayBe_8
theorem c_X6_mayBe {l : Launch} {x0 : Nat} {x1 : Int32} {x2 : Int32} {σ σ' : Hp} {r : Int32} (h : f_X6_mayBe x0 x1 x2 σ = some (r, σ')) : Mt l yX6_mayBe cX6_mayBe 6 (some .int) 2 shC (fun ad => [.ref (ad x0), .int x1, .int x2]) σ (fun ad => some (.int r)) σ' := mt_i (own := RX6) (by decide) rfl (fun _ => Nat.le_of_ble_eq_true rfl) (fun γ ad K hc hk => t_X6_mayBe hc ⟨_, _, h, hk⟩)

-- NetMaps.place(III)I
theorem dX6_place_0 : decode cX6_place 0 = .ok (.iload_n 1, 1) := by decide +kernel
theorem dX6_place_1 : decode cX6_place 1 = .ok (.iconst 2, 1) := by decide +kernel
theorem dX6_place_2 : decode cX6_place 2 = .ok (.if_icmp .eq 5, 3) := by decide +kernel
theorem dX6_place_5 : decode cX6_place 5 = .ok (.iload_n 2, 1) := by decide +kernel
theorem dX6_place_6 : decode cX6_place 6 = .ok (.ireturn, 1) := by decide +kernel
theorem dX6_place_7 : decode cX6_place 7 = .ok (.iload_n 2, 1) := by decide +kernel
theorem dX6_place_8 : decode cX6_place 8 = .ok (.iload_n 0, 1) := by decide +kernel
theorem dX6_place_9 : decode cX6_place 9 = .ok (.iconst 1, 1) := by decide +kernel
theorem dX6_place_10 : decode cX6_place 10 = .ok (.invokestatic 187, 3) := by decide +kernel
theorem dX6_place_13 : decode cX6_place 13 = .ok (.istore_n 3, 1) := by decide +kernel
theorem dX6_place_14 : decode cX6_place 14 = .ok (.iload_n 2, 1) := by decide +kernel
theorem dX6_place_15 : decode cX6_place 15 = .ok (.iload_n 0, 1) := by decide +kernel
theorem dX6_place_16 : decode cX6_place 16 = .ok (.iconst 0, 1) := by decide +kernel
theorem dX6_place_17 : decode cX6_place 17 = .ok (.invokestatic 187, 3) := by decide +kernel
theorem dX6_place_20 : decode cX6_place 20 = .ok (.istore 4, 2) := by decide +kernel
theorem dX6_place_22 : decode cX6_place 22 = .ok (.iload_n 3, 1) := by decide +kernel
theorem dX6_place_23 : decode cX6_place 23 = .ok (.iload 4, 2) := by decide +kernel
theorem dX6_place_25 : decode cX6_place 25 = .ok (.invokestatic 333, 3) := by decide +kernel
theorem dX6_place_28 : decode cX6_place 28 = .ok (.istore 5, 2) := by decide +kernel
theorem dX6_place_30 : decode cX6_place 30 = .ok (.iload 5, 2) := by decide +kernel
theorem dX6_place_32 : decode cX6_place 32 = .ok (.iload_n 0, 1) := by decide +kernel
theorem dX6_place_33 : decode cX6_place 33 = .ok (.imul, 1) := by decide +kernel
theorem dX6_place_34 : decode cX6_place 34 = .ok (.iload 5, 2) := by decide +kernel
theorem dX6_place_36 : decode cX6_place 36 = .ok (.iload 5, 2) := by decide +kernel
theorem dX6_place_38 : decode cX6_place 38 = .ok (.iconst 1, 1) := by decide +kernel
theorem dX6_place_39 : decode cX6_place 39 = .ok (.iadd, 1) := by decide +kernel
theorem dX6_place_40 : decode cX6_place 40 = .ok (.imul, 1) := by decide +kernel
theorem dX6_place_41 : decode cX6_place 41 = .ok (.iconst 2, 1) := by decide +kernel
theorem dX6_place_42 : decode cX6_place 42 = .ok (.idiv, 1) := by decide +kernel
theorem dX6_place_43 : decode cX6_place 43 = .ok (.isub, 1) := by decide +kernel
theorem dX6_place_44 : decode cX6_place 44 = .ok (.iload_n 3, 1) := by decide +kernel
theorem dX6_place_45 : decode cX6_place 45 = .ok (.iload 4, 2) := by decide +kernel
theorem dX6_place_47 : decode cX6_place 47 = .ok (.invokestatic 338, 3) := by decide +kernel
theorem dX6_place_50 : decode cX6_place 50 = .ok (.iadd, 1) := by decide +kernel
theorem dX6_place_51 : decode cX6_place 51 = .ok (.ireturn, 1) := by decide +kernel
noncomputable def f_X6_place (x0 : Int32) (x1 : Int32) (x2 : Int32) (σ : Hp) : Option (Int32 × Hp) := if x1 = 2 then (bO (f_X6_digit x2 x0 1 σ) fun r1 σ2 => bO (f_X6_digit x2 x0 0 σ2) fun r3 σ4 => gO (nz 2) fun z5 => some (((((imin r1 r3) * x0) - (((imin r1 r3) * ((imin r1 r3) + 1)) / 2)) + (imax r1 r3)), σ4)) else (some (x2, σ))
set_option maxRecDepth 100000 in
set_option maxHeartbeats 4000000 in
theorem t_X6_place {l : Launch} {γ : Gm} {ad : Nat → Nat} {K : Option Value → Hp → Prop} (hc : Cx l γ 2 6 ad shC RX6 cX6_place (some .int) K) {x0 : Int32} {x1 : Int32} {x2 : Int32} {σ : Hp} (h : wpO (f_X6_place x0 x1 x2 σ) (KI K)) : WW l γ 2 6 ad shC 0 [(0, .int x0), (1, .int x1), (2, .int x2)] [] σ := by
  unfold f_X6_place at h
  refine r_iload_n hc 1 rfl rfl dX6_place_0 ?_
  refine r_iconst hc (v := 2) (by decide) dX6_place_1 ?_
  refine r_icmp_eq hc (tgt := 7) dX6_place_2 (by decide) (fun c => ?_) (fun c => ?_)
  · have h := wp_t c h
    refine r_iload_n hc 2 rfl rfl dX6_place_7 ?_
    refine r_iload_n hc 0 rfl rfl dX6_place_8 ?_
    refine r_iconst hc (v := 1) (by decide) dX6_place_9 ?_
    obtain ⟨r1, σ2, er1, h⟩ := wp_b h
    refine r_callS hc ms_X6_digit ml_X6_187 (c_X6_digit er1) rfl rfl (by decide) rfl (Nat.le_of_ble_eq_true rfl) dX6_place_10 ?_
    refine r_istore_nE hc (i := 3) (lv' := [(3, .int r1), (0, .int x0), (1, .int x1), (2, .int x2)]) rfl rfl (by decide) rfl dX6_place_13 ?_
    refine r_iload_n hc 3 rfl rfl dX6_place_14 ?_
    refine r_iload_n hc 1 rfl rfl dX6_place_15 ?_
    refine r_iconst hc (v := 0) (by decide) dX6_place_16 ?_
    obtain ⟨r3, σ4, er3, h⟩ := wp_b h
    refine r_callS hc ms_X6_digit ml_X6_187 (c_X6_digit er3) rfl rfl (by decide) rfl (Nat.le_of_ble_eq_true rfl) dX6_place_17 ?_
    refine r_istoreE hc (i := 4) (lv' := [(4, .int r3), (3, .int r1), (0, .int x0), (1, .int x1), (2, .int x2)]) rfl (by decide) rfl dX6_place_20 ?_
    refine r_iload_n hc 1 rfl rfl dX6_place_22 ?_
    refine r_iload hc 0 rfl dX6_place_23 ?_
    refine r_mmin hc ml_X6_333 (by decide) (Nat.le_of_ble_eq_true rfl) dX6_place_25 ?_
    refine r_istoreE hc (i := 5) (lv' := [(5, .int (imin r1 r3)), (4, .int r3), (3, .int r1), (0, .int x0), (1, .int x1), (2, .int x2)]) rfl (by decide) rfl dX6_place_28 ?_
    refine r_iload hc 0 rfl dX6_place_30 ?_
    refine r_iload_n hc 3 rfl rfl dX6_place_32 ?_
    refine r_imul hc dX6_place_33 ?_
    refine r_iload hc 0 rfl dX6_place_34 ?_
    refine r_iload hc 0 rfl dX6_place_36 ?_
    refine r_iconst hc (v := 1) (by decide) dX6_place_38 ?_
    refine r_iadd hc dX6_place_39 ?_
    refine r_imul hc dX6_place_40 ?_
    refine r_iconst hc (v := 2) (by decide) dX6_place_41 ?_
    obtain ⟨z5, ez5, h⟩ := wp_g h
    refine r_idiv hc ez5 dX6_place_42 ?_
    refine r_isub hc dX6_place_43 ?_
    refine r_iload_n hc 2 rfl rfl dX6_place_44 ?_
    refine r_iload hc 1 rfl dX6_place_45 ?_
    refine r_mmax hc ml_X6_338 (by decide) (Nat.le_of_ble_eq_true rfl) dX6_place_47 ?_
    refine r_iadd hc dX6_place_50 ?_
    have h := wp_v h
    exact r_iret hc h dX6_place_51
  · have h := wp_f c h
    refine r_iload_n hc 2 rfl rfl dX6_place_5 ?_
    have h := wp_v h
    exact r_iret hc h dX6_place_6
theorem c_X6_place {l : Launch} {x0 : Int32} {x1 : Int32} {x2 : Int32} {σ σ' : Hp} {r : Int32} (h : f_X6_place x0 x1 x2 σ = some (r, σ')) : Mt l yX6_place cX6_place 6 (some .int) 2 shC (fun ad => [.int x0, .int x1, .int x2]) σ (fun ad => some (.int r)) σ' := mt_i (own := RX6) (by decide) rfl (fun _ => Nat.le_of_ble_eq_true rfl) (fun γ ad K hc hk => t_X6_place hc ⟨_, _, h, hk⟩)

-- NetMaps.powerRows(II)I
theorem dX6_powerRows_0 : decode cX6_powerRows 0 = .ok (.iload_n 1, 1) := by decide +kernel
theorem dX6_powerRows_1 : decode cX6_powerRows 1 = .ok (.iconst 3, 1) := by decide +kernel
theorem dX6_powerRows_2 : decode cX6_powerRows 2 = .ok (.if_icmp .ne 11, 3) := by decide +kernel
theorem dX6_powerRows_5 : decode cX6_powerRows 5 = .ok (.iload_n 0, 1) := by decide +kernel
theorem dX6_powerRows_6 : decode cX6_powerRows 6 = .ok (.iload_n 0, 1) := by decide +kernel
theorem dX6_powerRows_7 : decode cX6_powerRows 7 = .ok (.imul, 1) := by decide +kernel
theorem dX6_powerRows_8 : decode cX6_powerRows 8 = .ok (.iload_n 0, 1) := by decide +kernel
theorem dX6_powerRows_9 : decode cX6_powerRows 9 = .ok (.imul, 1) := by decide +kernel
theorem dX6_powerRows_10 : decode cX6_powerRows 10 = .ok (.goto 6, 3) := by decide +kernel
theorem dX6_powerRows_13 : decode cX6_powerRows 13 = .ok (.iload_n 0, 1) := by decide +kernel
theorem dX6_powerRows_14 : decode cX6_powerRows 14 = .ok (.iload_n 0, 1) := by decide +kernel
theorem dX6_powerRows_15 : decode cX6_powerRows 15 = .ok (.imul, 1) := by decide +kernel
theorem dX6_powerRows_16 : decode cX6_powerRows 16 = .ok (.ireturn, 1) := by decide +kernel
noncomputable def f_X6_powerRows_b16 (s0 : Int32) (σ : Hp) : Option (Int32 × Hp) := some (s0, σ)
set_option maxRecDepth 100000 in
set_option maxHeartbeats 4000000 in
theorem t_X6_powerRows_b16 {l : Launch} {γ : Gm} {ad : Nat → Nat} {K : Option Value → Hp → Prop} (hc : Cx l γ 1 2 ad shC RX6 cX6_powerRows (some .int) K) {s0 : Int32} {σ : Hp} (h : wpO (f_X6_powerRows_b16 s0 σ) (KI K)) : WW l γ 1 2 ad shC 16 [] [.int s0] σ := by
  unfold f_X6_powerRows_b16 at h
  have h := wp_v h
  exact r_iret hc h dX6_powerRows_16
noncomputable def f_X6_powerRows (x0 : Int32) (x1 : Int32) (σ : Hp) : Option (Int32 × Hp) := if x1 = 3 then (f_X6_powerRows_b16 ((x0 * x0) * x0) σ) else (f_X6_powerRows_b16 (x0 * x0) σ)
set_option maxRecDepth 100000 in
set_option maxHeartbeats 4000000 in
theorem t_X6_powerRows {l : Launch} {γ : Gm} {ad : Nat → Nat} {K : Option Value → Hp → Prop} (hc : Cx l γ 1 2 ad shC RX6 cX6_powerRows (some .int) K) {x0 : Int32} {x1 : Int32} {σ : Hp} (h : wpO (f_X6_powerRows x0 x1 σ) (KI K)) : WW l γ 1 2 ad shC 0 [(0, .int x0), (1, .int x1)] [] σ := by
  unfold f_X6_powerRows at h
  refine r_iload_n hc 1 rfl rfl dX6_powerRows_0 ?_
  refine r_iconst hc (v := 3) (by decide) dX6_powerRows_1 ?_
  refine r_icmp_ne hc (tgt := 13) dX6_powerRows_2 (by decide) (fun c => ?_) (fun c => ?_)
  · have h := wp_f c h
    refine r_iload_n hc 0 rfl rfl dX6_powerRows_13 ?_
    refine r_iload_n hc 0 rfl rfl dX6_powerRows_14 ?_
    refine r_imul hc dX6_powerRows_15 ?_
    refine r_sub [] (lv' := []) rfl ?_
    exact t_X6_powerRows_b16 hc h
  · have h := wp_t c h
    refine r_iload_n hc 0 rfl rfl dX6_powerRows_5 ?_
    refine r_iload_n hc 0 rfl rfl dX6_powerRows_6 ?_
    refine r_imul hc dX6_powerRows_7 ?_
    refine r_iload_n hc 0 rfl rfl dX6_powerRows_8 ?_
    refine r_imul hc dX6_powerRows_9 ?_
    refine r_goto hc (tgt := 16) dX6_powerRows_10 (by decide) ?_
    refine r_sub [] (lv' := []) rfl ?_
    exact t_X6_powerRows_b16 hc h
theorem c_X6_powerRows {l : Launch} {x0 : Int32} {x1 : Int32} {σ σ' : Hp} {r : Int32} (h : f_X6_powerRows x0 x1 σ = some (r, σ')) : Mt l yX6_powerRows cX6_powerRows 2 (some .int) 1 shC (fun ad => [.int x0, .int x1]) σ (fun ad => some (.int r)) σ' := mt_i (own := RX6) (by decide) rfl (fun _ => Nat.le_of_ble_eq_true rfl) (fun γ ad K hc hk => t_X6_powerRows hc ⟨_, _, h, hk⟩)

-- NetMaps.rowsJoin(LNetMaps$Net;III)Z
theorem dX6_rowsJoin_0 : decode cX6_rowsJoin 0 = .ok (.iconst 0, 1) := by decide +kernel
theorem dX6_rowsJoin_1 : decode cX6_rowsJoin 1 = .ok (.istore 4, 2) := by decide +kernel
theorem dX6_rowsJoin_3 : decode cX6_rowsJoin 3 = .ok (.iload 4, 2) := by decide +kernel
theorem dX6_rowsJoin_5 : decode cX6_rowsJoin 5 = .ok (.iload_n 3, 1) := by decide +kernel
theorem dX6_rowsJoin_6 : decode cX6_rowsJoin 6 = .ok (.if_icmp .ge 38, 3) := by decide +kernel
theorem dX6_rowsJoin_9 : decode cX6_rowsJoin 9 = .ok (.aload_n 0, 1) := by decide +kernel
theorem dX6_rowsJoin_10 : decode cX6_rowsJoin 10 = .ok (.iload_n 1, 1) := by decide +kernel
theorem dX6_rowsJoin_11 : decode cX6_rowsJoin 11 = .ok (.aload_n 0, 1) := by decide +kernel
theorem dX6_rowsJoin_12 : decode cX6_rowsJoin 12 = .ok (.getfield 126, 3) := by decide +kernel
theorem dX6_rowsJoin_15 : decode cX6_rowsJoin 15 = .ok (.iload 4, 2) := by decide +kernel
theorem dX6_rowsJoin_17 : decode cX6_rowsJoin 17 = .ok (.invokestatic 187, 3) := by decide +kernel
theorem dX6_rowsJoin_20 : decode cX6_rowsJoin 20 = .ok (.iload_n 2, 1) := by decide +kernel
theorem dX6_rowsJoin_21 : decode cX6_rowsJoin 21 = .ok (.aload_n 0, 1) := by decide +kernel
theorem dX6_rowsJoin_22 : decode cX6_rowsJoin 22 = .ok (.getfield 126, 3) := by decide +kernel
theorem dX6_rowsJoin_25 : decode cX6_rowsJoin 25 = .ok (.iload 4, 2) := by decide +kernel
theorem dX6_rowsJoin_27 : decode cX6_rowsJoin 27 = .ok (.invokestatic 187, 3) := by decide +kernel
theorem dX6_rowsJoin_30 : decode cX6_rowsJoin 30 = .ok (.invokevirtual 116, 3) := by decide +kernel
theorem dX6_rowsJoin_33 : decode cX6_rowsJoin 33 = .ok (.ifCond .ne 5, 3) := by decide +kernel
theorem dX6_rowsJoin_36 : decode cX6_rowsJoin 36 = .ok (.iconst 0, 1) := by decide +kernel
theorem dX6_rowsJoin_37 : decode cX6_rowsJoin 37 = .ok (.ireturn, 1) := by decide +kernel
theorem dX6_rowsJoin_38 : decode cX6_rowsJoin 38 = .ok (.iinc 4 1, 3) := by decide +kernel
theorem dX6_rowsJoin_41 : decode cX6_rowsJoin 41 = .ok (.goto (-38), 3) := by decide +kernel
theorem dX6_rowsJoin_44 : decode cX6_rowsJoin 44 = .ok (.iconst 1, 1) := by decide +kernel
theorem dX6_rowsJoin_45 : decode cX6_rowsJoin 45 = .ok (.ireturn, 1) := by decide +kernel
noncomputable def f_X6_rowsJoin_L3 (x0 : Nat) (x1 : Int32) (x2 : Int32) (x3 : Int32) (v : (Int32)) (σ : Hp) : Option (((Int32) ⊕ ((Unit) ⊕ (Unit))) × Hp) := if x3 ≤ v then (some (Sum.inr (Sum.inr ()), σ)) else (gO (getI shC 1 x0 0 σ) fun v1 => bO (f_X6_digit x1 v1 v σ) fun r2 σ3 => gO (getI shC 1 x0 0 σ3) fun v4 => bO (f_X6_digit x2 v4 v σ3) fun r5 σ6 => gO (chk shC x0 1) fun _ => bO (f_X1_joins x0 r2 r5 σ6) fun r7 σ8 => if r7 = 0 then (some (Sum.inr (Sum.inl ()), σ8)) else (some (Sum.inl (v + 1), σ8)))
set_option maxRecDepth 100000 in
set_option maxHeartbeats 4000000 in
theorem t_X6_rowsJoin_L3 {l : Launch} {γ : Gm} {ad : Nat → Nat} {K : Option Value → Hp → Prop}  (hc : Cx l γ 3 5 ad shC RX6 cX6_rowsJoin (some .boolean) K) {x0 : Nat} {x1 : Int32} {x2 : Int32} {x3 : Int32} {v : (Int32)} {σ : Hp} {KX : ((Unit) ⊕ (Unit)) → Hp → Prop} (h : wpO (wh (f_X6_rowsJoin_L3 x0 x1 x2 x3) v σ) KX) (kx36 : ∀ (v : Unit) (σ : Hp), KX (Sum.inl v) σ → WW l γ 3 5 ad shC 36 [] [] σ) (kx44 : ∀ (v : Unit) (σ : Hp), KX (Sum.inr v) σ → WW l γ 3 5 ad shC 44 [] [] σ) : WW l γ 3 5 ad shC 3 [(0, .ref (ad x0)), (1, .int x1), (2, .int x2), (3, .int x3), (4, .int v)] [] σ := by
  refine wh_W (P := fun v σ => WW l γ 3 5 ad shC 3 [(0, .ref (ad x0)), (1, .int x1), (2, .int x2), (3, .int x3), (4, .int v)] [] σ) (fun v σ h => ?_) h
  have kn : ∀ (v : (Int32)) (σ : Hp), WW l γ 3 5 ad shC 3 [(0, .ref (ad x0)), (1, .int x1), (2, .int x2), (3, .int x3), (4, .int v)] [] σ → WW l γ 3 5 ad shC 3 [(0, .ref (ad x0)), (1, .int x1), (2, .int x2), (3, .int x3), (4, .int v)] [] σ := fun _ _ h => h
  · unfold f_X6_rowsJoin_L3 at h
    refine r_iload hc 4 rfl dX6_rowsJoin_3 ?_
    refine r_iload_n hc 3 rfl rfl dX6_rowsJoin_5 ?_
    refine r_icmp_ge hc (tgt := 44) dX6_rowsJoin_6 (by decide) (fun c => ?_) (fun c => ?_)
    · have h := wp_t c h
      refine r_sub [] (lv' := []) rfl ?_
      have h := wp_v h
      exact kx44 () _ h
    · have h := wp_f c h
      refine r_aload_n hc 0 rfl rfl dX6_rowsJoin_9 ?_
      refine r_iload_n hc 1 rfl rfl dX6_rowsJoin_10 ?_
      refine r_aload_n hc 0 rfl rfl dX6_rowsJoin_11 ?_
      obtain ⟨v1, ev1, h⟩ := wp_g h
      refine r_getI hc ev1 fl_X6_126 rfl dX6_rowsJoin_12 ?_
      refine r_iload hc 4 rfl dX6_rowsJoin_15 ?_
      obtain ⟨r2, σ3, er2, h⟩ := wp_b h
      refine r_callS hc ms_X6_digit ml_X6_187 (c_X6_digit er2) rfl rfl (by decide) rfl (Nat.le_of_ble_eq_true rfl) dX6_rowsJoin_17 ?_
      refine r_iload_n hc 2 rfl rfl dX6_rowsJoin_20 ?_
      refine r_aload_n hc 0 rfl rfl dX6_rowsJoin_21 ?_
      obtain ⟨v4, ev4, h⟩ := wp_g h
      refine r_getI hc ev4 fl_X6_126 rfl dX6_rowsJoin_22 ?_
      refine r_iload hc 4 rfl dX6_rowsJoin_25 ?_
      obtain ⟨r5, σ6, er5, h⟩ := wp_b h
      refine r_callS hc ms_X6_digit ml_X6_187 (c_X6_digit er5) rfl rfl (by decide) rfl (Nat.le_of_ble_eq_true rfl) dX6_rowsJoin_27 ?_
      obtain ⟨_, ek9, h⟩ := wp_g h
      obtain ⟨r7, σ8, er7, h⟩ := wp_b h
      refine r_callV hc (k0 := x0) mv_X1_joins ml_X6_116 (c_X1_joins er7) (chk_of ek9) cls_1.1 rfl rfl rfl (by decide) rfl (Nat.le_of_ble_eq_true rfl) dX6_rowsJoin_30 ?_
      refine r_if_ne hc (tgt := 38) dX6_rowsJoin_33 (by decide) (fun c => ?_) (fun c => ?_)
      · have h := wp_f c h
        refine r_iincE hc (j := 4) (w := 1) (lv' := [(4, .int (v + 1)), (0, .ref (ad x0)), (1, .int x1), (2, .int x2), (3, .int x3)]) rfl (by decide) rfl (by decide) rfl dX6_rowsJoin_38 ?_
        refine r_goto hc (tgt := 3) dX6_rowsJoin_41 (by decide) ?_
        refine r_sub [1, 2, 3, 4, 0] (lv' := [(0, .ref (ad x0)), (1, .int x1), (2, .int x2), (3, .int x3), (4, .int (v + 1))]) rfl ?_
        have h := wp_v h
        exact kn (v + 1) _ h
      · have h := wp_t c h
        refine r_sub [] (lv' := []) rfl ?_
        have h := wp_v h
        exact kx36 () _ h
noncomputable def f_X6_rowsJoin (x0 : Nat) (x1 : Int32) (x2 : Int32) (x3 : Int32) (σ : Hp) : Option (Int32 × Hp) := bO (wh (f_X6_rowsJoin_L3 x0 x1 x2 x3) 0 σ) fun y1 σ2 => (Sum.elim (fun y1' => (some (0, σ2))) (fun y3 => (some (1, σ2))) y1)
set_option maxRecDepth 100000 in
set_option maxHeartbeats 4000000 in
theorem t_X6_rowsJoin {l : Launch} {γ : Gm} {ad : Nat → Nat} {K : Option Value → Hp → Prop} (hc : Cx l γ 3 5 ad shC RX6 cX6_rowsJoin (some .boolean) K) {x0 : Nat} {x1 : Int32} {x2 : Int32} {x3 : Int32} {σ : Hp} (h : wpO (f_X6_rowsJoin x0 x1 x2 x3 σ) (KI K)) : WW l γ 3 5 ad shC 0 [(0, .ref (ad x0)), (1, .int x1), (2, .int x2), (3, .int x3)] [] σ := by
  unfold f_X6_rowsJoin at h
  refine r_iconst hc (v := 0) (by decide) dX6_rowsJoin_0 ?_
  refine r_istoreE hc (i := 4) (lv' := [(4, .int 0), (0, .ref (ad x0)), (1, .int x1), (2, .int x2), (3, .int x3)]) rfl (by decide) rfl dX6_rowsJoin_1 ?_
  refine r_sub [1, 2, 3, 4, 0] (lv' := [(0, .ref (ad x0)), (1, .int x1), (2, .int x2), (3, .int x3), (4, .int 0)]) rfl ?_
  refine t_X6_rowsJoin_L3 hc (wp_bb h) ?_ ?_
  · intro y1' σ2 h
    have h := wp_sl h
    refine r_iconst hc (v := 0) (by decide) dX6_rowsJoin_36 ?_
    have h := wp_v h
    exact r_zret hc h (by decide) dX6_rowsJoin_37
  · intro y3 σ2 h
    have h := wp_sr h
    refine r_iconst hc (v := 1) (by decide) dX6_rowsJoin_44 ?_
    have h := wp_v h
    exact r_zret hc h (by decide) dX6_rowsJoin_45
theorem c_X6_rowsJoin {l : Launch} {x0 : Nat} {x1 : Int32} {x2 : Int32} {x3 : Int32} {σ σ' : Hp} {r : Int32} (h : f_X6_rowsJoin x0 x1 x2 x3 σ = some (r, σ')) : Mt l yX6_rowsJoin cX6_rowsJoin 5 (some .boolean) 3 shC (fun ad => [.ref (ad x0), .int x1, .int x2, .int x3]) σ (fun ad => some (.int r)) σ' := mt_i (own := RX6) (by decide) rfl (fun _ => Nat.le_of_ble_eq_true rfl) (fun γ ad K hc hk => t_X6_rowsJoin hc ⟨_, _, h, hk⟩)

-- NetMaps.operating(LNetMaps$Net;I)V
theorem dX6_operating_0 : decode cX6_operating 0 = .ok (.iload_n 2, 1) := by decide +kernel
theorem dX6_operating_1 : decode cX6_operating 1 = .ok (.iconst 3, 1) := by decide +kernel
theorem dX6_operating_2 : decode cX6_operating 2 = .ok (.if_icmp .ne 7, 3) := by decide +kernel
theorem dX6_operating_5 : decode cX6_operating 5 = .ok (.iconst 3, 1) := by decide +kernel
theorem dX6_operating_6 : decode cX6_operating 6 = .ok (.goto 4, 3) := by decide +kernel
theorem dX6_operating_9 : decode cX6_operating 9 = .ok (.iconst 2, 1) := by decide +kernel
theorem dX6_operating_10 : decode cX6_operating 10 = .ok (.istore_n 3, 1) := by decide +kernel
theorem dX6_operating_11 : decode cX6_operating 11 = .ok (.aload_n 1, 1) := by decide +kernel
theorem dX6_operating_12 : decode cX6_operating 12 = .ok (.getfield 126, 3) := by decide +kernel
theorem dX6_operating_15 : decode cX6_operating 15 = .ok (.iload_n 3, 1) := by decide +kernel
theorem dX6_operating_16 : decode cX6_operating 16 = .ok (.invokestatic 323, 3) := by decide +kernel
theorem dX6_operating_19 : decode cX6_operating 19 = .ok (.istore 4, 2) := by decide +kernel
theorem dX6_operating_21 : decode cX6_operating 21 = .ok (.aload_n 0, 1) := by decide +kernel
theorem dX6_operating_22 : decode cX6_operating 22 = .ok (.getfield 34, 3) := by decide +kernel
theorem dX6_operating_25 : decode cX6_operating 25 = .ok (.iload_n 2, 1) := by decide +kernel
theorem dX6_operating_26 : decode cX6_operating 26 = .ok (.iconst 2, 1) := by decide +kernel
theorem dX6_operating_27 : decode cX6_operating 27 = .ok (.if_icmp .ne 19, 3) := by decide +kernel
theorem dX6_operating_30 : decode cX6_operating 30 = .ok (.aload_n 1, 1) := by decide +kernel
theorem dX6_operating_31 : decode cX6_operating 31 = .ok (.getfield 126, 3) := by decide +kernel
theorem dX6_operating_34 : decode cX6_operating 34 = .ok (.aload_n 1, 1) := by decide +kernel
theorem dX6_operating_35 : decode cX6_operating 35 = .ok (.getfield 126, 3) := by decide +kernel
theorem dX6_operating_38 : decode cX6_operating 38 = .ok (.iconst 1, 1) := by decide +kernel
theorem dX6_operating_39 : decode cX6_operating 39 = .ok (.iadd, 1) := by decide +kernel
theorem dX6_operating_40 : decode cX6_operating 40 = .ok (.imul, 1) := by decide +kernel
theorem dX6_operating_41 : decode cX6_operating 41 = .ok (.iconst 2, 1) := by decide +kernel
theorem dX6_operating_42 : decode cX6_operating 42 = .ok (.idiv, 1) := by decide +kernel
theorem dX6_operating_43 : decode cX6_operating 43 = .ok (.goto 5, 3) := by decide +kernel
theorem dX6_operating_46 : decode cX6_operating 46 = .ok (.iload 4, 2) := by decide +kernel
theorem dX6_operating_48 : decode cX6_operating 48 = .ok (.invokevirtual 106, 3) := by decide +kernel
theorem dX6_operating_51 : decode cX6_operating 51 = .ok (.iconst 0, 1) := by decide +kernel
theorem dX6_operating_52 : decode cX6_operating 52 = .ok (.istore 5, 2) := by decide +kernel
theorem dX6_operating_54 : decode cX6_operating 54 = .ok (.iload 5, 2) := by decide +kernel
theorem dX6_operating_56 : decode cX6_operating 56 = .ok (.iload 4, 2) := by decide +kernel
theorem dX6_operating_58 : decode cX6_operating 58 = .ok (.if_icmp .ge 64, 3) := by decide +kernel
theorem dX6_operating_61 : decode cX6_operating 61 = .ok (.iconst 0, 1) := by decide +kernel
theorem dX6_operating_62 : decode cX6_operating 62 = .ok (.istore 6, 2) := by decide +kernel
theorem dX6_operating_64 : decode cX6_operating 64 = .ok (.iload 6, 2) := by decide +kernel
theorem dX6_operating_66 : decode cX6_operating 66 = .ok (.iload 4, 2) := by decide +kernel
theorem dX6_operating_68 : decode cX6_operating 68 = .ok (.if_icmp .ge 48, 3) := by decide +kernel
theorem dX6_operating_71 : decode cX6_operating 71 = .ok (.aload_n 1, 1) := by decide +kernel
theorem dX6_operating_72 : decode cX6_operating 72 = .ok (.iload 5, 2) := by decide +kernel
theorem dX6_operating_74 : decode cX6_operating 74 = .ok (.iload 6, 2) := by decide +kernel
theorem dX6_operating_76 : decode cX6_operating 76 = .ok (.iload_n 3, 1) := by decide +kernel
theorem dX6_operating_77 : decode cX6_operating 77 = .ok (.invokestatic 326, 3) := by decide +kernel
theorem dX6_operating_80 : decode cX6_operating 80 = .ok (.ifCond .eq 30, 3) := by decide +kernel
theorem dX6_operating_83 : decode cX6_operating 83 = .ok (.aload_n 0, 1) := by decide +kernel
theorem dX6_operating_84 : decode cX6_operating 84 = .ok (.getfield 34, 3) := by decide +kernel
theorem dX6_operating_87 : decode cX6_operating 87 = .ok (.aload_n 1, 1) := by decide +kernel
theorem dX6_operating_88 : decode cX6_operating 88 = .ok (.getfield 126, 3) := by decide +kernel
theorem dX6_operating_91 : decode cX6_operating 91 = .ok (.iload_n 2, 1) := by decide +kernel
theorem dX6_operating_92 : decode cX6_operating 92 = .ok (.iload 5, 2) := by decide +kernel
theorem dX6_operating_94 : decode cX6_operating 94 = .ok (.invokestatic 320, 3) := by decide +kernel
theorem dX6_operating_97 : decode cX6_operating 97 = .ok (.aload_n 1, 1) := by decide +kernel
theorem dX6_operating_98 : decode cX6_operating 98 = .ok (.getfield 126, 3) := by decide +kernel
theorem dX6_operating_101 : decode cX6_operating 101 = .ok (.iload_n 2, 1) := by decide +kernel
theorem dX6_operating_102 : decode cX6_operating 102 = .ok (.iload 6, 2) := by decide +kernel
theorem dX6_operating_104 : decode cX6_operating 104 = .ok (.invokestatic 320, 3) := by decide +kernel
theorem dX6_operating_107 : decode cX6_operating 107 = .ok (.invokevirtual 119, 3) := by decide +kernel
theorem dX6_operating_110 : decode cX6_operating 110 = .ok (.iinc 6 1, 3) := by decide +kernel
theorem dX6_operating_113 : decode cX6_operating 113 = .ok (.goto (-49), 3) := by decide +kernel
theorem dX6_operating_116 : decode cX6_operating 116 = .ok (.iinc 5 1, 3) := by decide +kernel
theorem dX6_operating_119 : decode cX6_operating 119 = .ok (.goto (-65), 3) := by decide +kernel
theorem dX6_operating_122 : decode cX6_operating 122 = .ok (.aload_n 0, 1) := by decide +kernel
theorem dX6_operating_123 : decode cX6_operating 123 = .ok (.getfield 41, 3) := by decide +kernel
theorem dX6_operating_126 : decode cX6_operating 126 = .ok (.aload_n 0, 1) := by decide +kernel
theorem dX6_operating_127 : decode cX6_operating 127 = .ok (.getfield 34, 3) := by decide +kernel
theorem dX6_operating_130 : decode cX6_operating 130 = .ok (.aload_n 1, 1) := by decide +kernel
theorem dX6_operating_131 : decode cX6_operating 131 = .ok (.invokevirtual 216, 3) := by decide +kernel
theorem dX6_operating_134 : decode cX6_operating 134 = .ok (.iconst 0, 1) := by decide +kernel
theorem dX6_operating_135 : decode cX6_operating 135 = .ok (.istore 5, 2) := by decide +kernel
theorem dX6_operating_137 : decode cX6_operating 137 = .ok (.iload 5, 2) := by decide +kernel
theorem dX6_operating_139 : decode cX6_operating 139 = .ok (.iload 4, 2) := by decide +kernel
theorem dX6_operating_141 : decode cX6_operating 141 = .ok (.if_icmp .ge 37, 3) := by decide +kernel
theorem dX6_operating_144 : decode cX6_operating 144 = .ok (.aload_n 0, 1) := by decide +kernel
theorem dX6_operating_145 : decode cX6_operating 145 = .ok (.getfield 41, 3) := by decide +kernel
theorem dX6_operating_148 : decode cX6_operating 148 = .ok (.getfield 239, 3) := by decide +kernel
theorem dX6_operating_151 : decode cX6_operating 151 = .ok (.aload_n 1, 1) := by decide +kernel
theorem dX6_operating_152 : decode cX6_operating 152 = .ok (.getfield 126, 3) := by decide +kernel
theorem dX6_operating_155 : decode cX6_operating 155 = .ok (.iload_n 2, 1) := by decide +kernel
theorem dX6_operating_156 : decode cX6_operating 156 = .ok (.iload 5, 2) := by decide +kernel
theorem dX6_operating_158 : decode cX6_operating 158 = .ok (.invokestatic 320, 3) := by decide +kernel
theorem dX6_operating_161 : decode cX6_operating 161 = .ok (.dup2, 1) := by decide +kernel
theorem dX6_operating_162 : decode cX6_operating 162 = .ok (.iaload, 1) := by decide +kernel
theorem dX6_operating_163 : decode cX6_operating 163 = .ok (.aload_n 1, 1) := by decide +kernel
theorem dX6_operating_164 : decode cX6_operating 164 = .ok (.iload_n 2, 1) := by decide +kernel
theorem dX6_operating_165 : decode cX6_operating 165 = .ok (.iload 5, 2) := by decide +kernel
theorem dX6_operating_167 : decode cX6_operating 167 = .ok (.invokestatic 329, 3) := by decide +kernel
theorem dX6_operating_170 : decode cX6_operating 170 = .ok (.iand, 1) := by decide +kernel
theorem dX6_operating_171 : decode cX6_operating 171 = .ok (.iastore, 1) := by decide +kernel
theorem dX6_operating_172 : decode cX6_operating 172 = .ok (.iinc 5 1, 3) := by decide +kernel
theorem dX6_operating_175 : decode cX6_operating 175 = .ok (.goto (-38), 3) := by decide +kernel
theorem dX6_operating_178 : decode cX6_operating 178 = .ok (.return_, 1) := by decide +kernel
noncomputable def f_X6_operating_b110 (x0 : Nat) (x1 : Nat) (x2 : Int32) (x3 : Int32) (x4 : Int32) (x5 : Int32) (x6 : Int32) (σ : Hp) : Option (((Int32) ⊕ (Unit)) × Hp) := some (Sum.inl (x6 + 1), σ)
set_option maxRecDepth 100000 in
set_option maxHeartbeats 4000000 in
theorem t_X6_operating_b110 {l : Launch} {γ : Gm} {ad : Nat → Nat} {K : Option Value → Hp → Prop} (hc : Cx l γ 4 7 ad shC RX6 cX6_operating none K) {x0 : Nat} {x1 : Nat} {x2 : Int32} {x3 : Int32} {x4 : Int32} {x5 : Int32} {x6 : Int32}  {σ : Hp} {KL : ((Int32) ⊕ (Unit)) → Hp → Prop} (h : wpO (f_X6_operating_b110 x0 x1 x2 x3 x4 x5 x6 σ) KL) (kn : ∀ (v : (Int32)) (σ : Hp), KL (Sum.inl v) σ → WW l γ 4 7 ad shC 64 [(0, .ref (ad x0)), (1, .ref (ad x1)), (2, .int x2), (3, .int x3), (4, .int x4), (5, .int x5), (6, .int v)] [] σ) (kx116 : ∀ (v : Unit) (σ : Hp), KL (Sum.inr v) σ → WW l γ 4 7 ad shC 116 [(0, .ref (ad x0)), (1, .ref (ad x1)), (2, .int x2), (3, .int x3), (4, .int x4), (5, .int x5)] [] σ) : WW l γ 4 7 ad shC 110 [(0, .ref (ad x0)), (1, .ref (ad x1)), (2, .int x2), (3, .int x3), (4, .int x4), (5, .int x5), (6, .int x6)] [] σ := by
  unfold f_X6_operating_b110 at h
  refine r_iincE hc (j := 6) (w := 1) (lv' := [(6, .int (x6 + 1)), (0, .ref (ad x0)), (1, .ref (ad x1)), (2, .int x2), (3, .int x3), (4, .int x4), (5, .int x5)]) rfl (by decide) rfl (by decide) rfl dX6_operating_110 ?_
  refine r_goto hc (tgt := 64) dX6_operating_113 (by decide) ?_
  refine r_sub [1, 2, 3, 4, 5, 6, 0] (lv' := [(0, .ref (ad x0)), (1, .ref (ad x1)), (2, .int x2), (3, .int x3), (4, .int x4), (5, .int x5), (6, .int (x6 + 1))]) rfl ?_
  have h := wp_v h
  exact kn (x6 + 1) _ h
noncomputable def f_X6_operating_L64 (x0 : Nat) (x1 : Nat) (x2 : Int32) (x3 : Int32) (x4 : Int32) (x5 : Int32) (v : (Int32)) (σ : Hp) : Option (((Int32) ⊕ (Unit)) × Hp) := if x4 ≤ v then (some (Sum.inr (), σ)) else (bO (f_X6_rowsJoin x1 x5 v x3 σ) fun r1 σ2 => if r1 = 0 then (f_X6_operating_b110 x0 x1 x2 x3 x4 x5 v σ2) else (gO (getR shC 6 x0 6 σ2) fun v3 => gO (getI shC 1 x1 0 σ2) fun v4 => bO (f_X6_place v4 x2 x5 σ2) fun r5 σ6 => gO (getI shC 1 x1 0 σ6) fun v7 => bO (f_X6_place v7 x2 v σ6) fun r8 σ9 => gO (chk shC v3 1) fun _ => bO (f_X1_join v3 r5 r8 σ9) fun _ σ11 => f_X6_operating_b110 x0 x1 x2 x3 x4 x5 v σ11))
set_option maxRecDepth 100000 in
set_option maxHeartbeats 4000000 in
theorem t_X6_operating_L64 {l : Launch} {γ : Gm} {ad : Nat → Nat} {K : Option Value → Hp → Prop}  (hc : Cx l γ 4 7 ad shC RX6 cX6_operating none K) {x0 : Nat} {x1 : Nat} {x2 : Int32} {x3 : Int32} {x4 : Int32} {x5 : Int32} {v : (Int32)} {σ : Hp} {KX : (Unit) → Hp → Prop} (h : wpO (wh (f_X6_operating_L64 x0 x1 x2 x3 x4 x5) v σ) KX) (kx116 : ∀ (v : Unit) (σ : Hp), KX v σ → WW l γ 4 7 ad shC 116 [(0, .ref (ad x0)), (1, .ref (ad x1)), (2, .int x2), (3, .int x3), (4, .int x4), (5, .int x5)] [] σ) : WW l γ 4 7 ad shC 64 [(0, .ref (ad x0)), (1, .ref (ad x1)), (2, .int x2), (3, .int x3), (4, .int x4), (5, .int x5), (6, .int v)] [] σ := by
  refine wh_W (P := fun v σ => WW l γ 4 7 ad shC 64 [(0, .ref (ad x0)), (1, .ref (ad x1)), (2, .int x2), (3, .int x3), (4, .int x4), (5, .int x5), (6, .int v)] [] σ) (fun v σ h => ?_) h
  have kn : ∀ (v : (Int32)) (σ : Hp), WW l γ 4 7 ad shC 64 [(0, .ref (ad x0)), (1, .ref (ad x1)), (2, .int x2), (3, .int x3), (4, .int x4), (5, .int x5), (6, .int v)] [] σ → WW l γ 4 7 ad shC 64 [(0, .ref (ad x0)), (1, .ref (ad x1)), (2, .int x2), (3, .int x3), (4, .int x4), (5, .int x5), (6, .int v)] [] σ := fun _ _ h => h
  · unfold f_X6_operating_L64 at h
    refine r_iload hc 6 rfl dX6_operating_64 ?_
    refine r_iload hc 4 rfl dX6_operating_66 ?_
    refine r_icmp_ge hc (tgt := 116) dX6_operating_68 (by decide) (fun c => ?_) (fun c => ?_)
    · have h := wp_t c h
      refine r_sub [0, 1, 2, 3, 4, 5] (lv' := [(0, .ref (ad x0)), (1, .ref (ad x1)), (2, .int x2), (3, .int x3), (4, .int x4), (5, .int x5)]) rfl ?_
      have h := wp_v h
      exact kx116 () _ h
    · have h := wp_f c h
      refine r_aload_n hc 1 rfl rfl dX6_operating_71 ?_
      refine r_iload hc 5 rfl dX6_operating_72 ?_
      refine r_iload hc 6 rfl dX6_operating_74 ?_
      refine r_iload_n hc 3 rfl rfl dX6_operating_76 ?_
      obtain ⟨r1, σ2, er1, h⟩ := wp_b h
      refine r_callS hc ms_X6_rowsJoin ml_X6_326 (c_X6_rowsJoin er1) rfl rfl (by decide) rfl (Nat.le_of_ble_eq_true rfl) dX6_operating_77 ?_
      refine r_if_eq hc (tgt := 110) dX6_operating_80 (by decide) (fun c => ?_) (fun c => ?_)
      · have h := wp_t c h
        exact t_X6_operating_b110 hc h kn kx116
      · have h := wp_f c h
        refine r_aload_n hc 0 rfl rfl dX6_operating_83 ?_
        obtain ⟨v3, ev3, h⟩ := wp_g h
        refine r_getR hc ev3 fl_X6_34 rfl dX6_operating_84 ?_
        refine r_aload_n hc 1 rfl rfl dX6_operating_87 ?_
        obtain ⟨v4, ev4, h⟩ := wp_g h
        refine r_getI hc ev4 fl_X6_126 rfl dX6_operating_88 ?_
        refine r_iload_n hc 2 rfl rfl dX6_operating_91 ?_
        refine r_iload hc 5 rfl dX6_operating_92 ?_
        obtain ⟨r5, σ6, er5, h⟩ := wp_b h
        refine r_callS hc ms_X6_place ml_X6_320 (c_X6_place er5) rfl rfl (by decide) rfl (Nat.le_of_ble_eq_true rfl) dX6_operating_94 ?_
        refine r_aload_n hc 1 rfl rfl dX6_operating_97 ?_
        obtain ⟨v7, ev7, h⟩ := wp_g h
        refine r_getI hc ev7 fl_X6_126 rfl dX6_operating_98 ?_
        refine r_iload_n hc 2 rfl rfl dX6_operating_101 ?_
        refine r_iload hc 6 rfl dX6_operating_102 ?_
        obtain ⟨r8, σ9, er8, h⟩ := wp_b h
        refine r_callS hc ms_X6_place ml_X6_320 (c_X6_place er8) rfl rfl (by decide) rfl (Nat.le_of_ble_eq_true rfl) dX6_operating_104 ?_
        obtain ⟨_, ek12, h⟩ := wp_g h
        obtain ⟨_, σ11, er10, h⟩ := wp_b h
        refine r_callV hc (k0 := v3) mv_X1_join ml_X6_119 (c_X1_join er10) (chk_of ek12) cls_1.1 rfl rfl rfl (by decide) rfl (Nat.le_of_ble_eq_true rfl) dX6_operating_107 ?_
        exact t_X6_operating_b110 hc h kn kx116
noncomputable def f_X6_operating_L54 (x0 : Nat) (x1 : Nat) (x2 : Int32) (x3 : Int32) (x4 : Int32) (v : (Int32)) (σ : Hp) : Option (((Int32) ⊕ (Unit)) × Hp) := if x4 ≤ v then (some (Sum.inr (), σ)) else (bO (wh (f_X6_operating_L64 x0 x1 x2 x3 x4 v) 0 σ) fun y1 σ2 => (some (Sum.inl (v + 1), σ2)))
set_option maxRecDepth 100000 in
set_option maxHeartbeats 4000000 in
theorem t_X6_operating_L54 {l : Launch} {γ : Gm} {ad : Nat → Nat} {K : Option Value → Hp → Prop}  (hc : Cx l γ 4 7 ad shC RX6 cX6_operating none K) {x0 : Nat} {x1 : Nat} {x2 : Int32} {x3 : Int32} {x4 : Int32} {v : (Int32)} {σ : Hp} {KX : (Unit) → Hp → Prop} (h : wpO (wh (f_X6_operating_L54 x0 x1 x2 x3 x4) v σ) KX) (kx122 : ∀ (v : Unit) (σ : Hp), KX v σ → WW l γ 4 7 ad shC 122 [(0, .ref (ad x0)), (1, .ref (ad x1)), (2, .int x2), (4, .int x4)] [] σ) : WW l γ 4 7 ad shC 54 [(0, .ref (ad x0)), (1, .ref (ad x1)), (2, .int x2), (3, .int x3), (4, .int x4), (5, .int v)] [] σ := by
  refine wh_W (P := fun v σ => WW l γ 4 7 ad shC 54 [(0, .ref (ad x0)), (1, .ref (ad x1)), (2, .int x2), (3, .int x3), (4, .int x4), (5, .int v)] [] σ) (fun v σ h => ?_) h
  have kn : ∀ (v : (Int32)) (σ : Hp), WW l γ 4 7 ad shC 54 [(0, .ref (ad x0)), (1, .ref (ad x1)), (2, .int x2), (3, .int x3), (4, .int x4), (5, .int v)] [] σ → WW l γ 4 7 ad shC 54 [(0, .ref (ad x0)), (1, .ref (ad x1)), (2, .int x2), (3, .int x3), (4, .int x4), (5, .int v)] [] σ := fun _ _ h => h
  · unfold f_X6_operating_L54 at h
    refine r_iload hc 5 rfl dX6_operating_54 ?_
    refine r_iload hc 4 rfl dX6_operating_56 ?_
    refine r_icmp_ge hc (tgt := 122) dX6_operating_58 (by decide) (fun c => ?_) (fun c => ?_)
    · have h := wp_t c h
      refine r_sub [0, 1, 2, 4] (lv' := [(0, .ref (ad x0)), (1, .ref (ad x1)), (2, .int x2), (4, .int x4)]) rfl ?_
      have h := wp_v h
      exact kx122 () _ h
    · have h := wp_f c h
      refine r_iconst hc (v := 0) (by decide) dX6_operating_61 ?_
      refine r_istoreE hc (i := 6) (lv' := [(6, .int 0), (0, .ref (ad x0)), (1, .ref (ad x1)), (2, .int x2), (3, .int x3), (4, .int x4), (5, .int v)]) rfl (by decide) rfl dX6_operating_62 ?_
      refine r_sub [1, 2, 3, 4, 5, 6, 0] (lv' := [(0, .ref (ad x0)), (1, .ref (ad x1)), (2, .int x2), (3, .int x3), (4, .int x4), (5, .int v), (6, .int 0)]) rfl ?_
      refine t_X6_operating_L64 hc (wp_bb h) ?_
      · intro y1 σ2 h
        refine r_iincE hc (j := 5) (w := 1) (lv' := [(5, .int (v + 1)), (0, .ref (ad x0)), (1, .ref (ad x1)), (2, .int x2), (3, .int x3), (4, .int x4)]) rfl (by decide) rfl (by decide) rfl dX6_operating_116 ?_
        refine r_goto hc (tgt := 54) dX6_operating_119 (by decide) ?_
        refine r_sub [1, 2, 3, 4, 5, 0] (lv' := [(0, .ref (ad x0)), (1, .ref (ad x1)), (2, .int x2), (3, .int x3), (4, .int x4), (5, .int (v + 1))]) rfl ?_
        have h := wp_v h
        exact kn (v + 1) _ h
noncomputable def f_X6_operating_L137 (x0 : Nat) (x1 : Nat) (x2 : Int32) (x4 : Int32) (v : (Int32)) (σ : Hp) : Option (((Int32) ⊕ (Unit)) × Hp) := if x4 ≤ v then (some (Sum.inr (), σ)) else (gO (getR shC 6 x0 7 σ) fun v1 => gO (getR shC 4 v1 2 σ) fun v2 => gO (getI shC 1 x1 0 σ) fun v3 => bO (f_X6_place v3 x2 v σ) fun r4 σ5 => gO (aldI shC 0 v2 r4 σ5) fun v6 => bO (f_X6_mayBe x1 x2 v σ5) fun r7 σ8 => gO (astI shC 0 v2 r4 (v6 &&& r7) σ8) fun σ9 => some (Sum.inl (v + 1), σ9))
set_option maxRecDepth 100000 in
set_option maxHeartbeats 4000000 in
theorem t_X6_operating_L137 {l : Launch} {γ : Gm} {ad : Nat → Nat} {K : Option Value → Hp → Prop}  (hc : Cx l γ 4 7 ad shC RX6 cX6_operating none K) {x0 : Nat} {x1 : Nat} {x2 : Int32} {x4 : Int32} {v : (Int32)} {σ : Hp} {KX : (Unit) → Hp → Prop} (h : wpO (wh (f_X6_operating_L137 x0 x1 x2 x4) v σ) KX) (kx178 : ∀ (v : Unit) (σ : Hp), KX v σ → WW l γ 4 7 ad shC 178 [] [] σ) : WW l γ 4 7 ad shC 137 [(0, .ref (ad x0)), (1, .ref (ad x1)), (2, .int x2), (4, .int x4), (5, .int v)] [] σ := by
  refine wh_W (P := fun v σ => WW l γ 4 7 ad shC 137 [(0, .ref (ad x0)), (1, .ref (ad x1)), (2, .int x2), (4, .int x4), (5, .int v)] [] σ) (fun v σ h => ?_) h
  have kn : ∀ (v : (Int32)) (σ : Hp), WW l γ 4 7 ad shC 137 [(0, .ref (ad x0)), (1, .ref (ad x1)), (2, .int x2), (4, .int x4), (5, .int v)] [] σ → WW l γ 4 7 ad shC 137 [(0, .ref (ad x0)), (1, .ref (ad x1)), (2, .int x2), (4, .int x4), (5, .int v)] [] σ := fun _ _ h => h
  · unfold f_X6_operating_L137 at h
    refine r_iload hc 4 rfl dX6_operating_137 ?_
    refine r_iload hc 3 rfl dX6_operating_139 ?_
    refine r_icmp_ge hc (tgt := 178) dX6_operating_141 (by decide) (fun c => ?_) (fun c => ?_)
    · have h := wp_t c h
      refine r_sub [] (lv' := []) rfl ?_
      have h := wp_v h
      exact kx178 () _ h
    · have h := wp_f c h
      refine r_aload_n hc 0 rfl rfl dX6_operating_144 ?_
      obtain ⟨v1, ev1, h⟩ := wp_g h
      refine r_getR hc ev1 fl_X6_41 rfl dX6_operating_145 ?_
      obtain ⟨v2, ev2, h⟩ := wp_g h
      refine r_getR hc ev2 fl_X6_239 rfl dX6_operating_148 ?_
      refine r_aload_n hc 1 rfl rfl dX6_operating_151 ?_
      obtain ⟨v3, ev3, h⟩ := wp_g h
      refine r_getI hc ev3 fl_X6_126 rfl dX6_operating_152 ?_
      refine r_iload_n hc 2 rfl rfl dX6_operating_155 ?_
      refine r_iload hc 4 rfl dX6_operating_156 ?_
      obtain ⟨r4, σ5, er4, h⟩ := wp_b h
      refine r_callS hc ms_X6_place ml_X6_320 (c_X6_place er4) rfl rfl (by decide) rfl (Nat.le_of_ble_eq_true rfl) dX6_operating_158 ?_
      refine r_dup2 hc rfl rfl dX6_operating_161 ?_
      obtain ⟨v6, ev6, h⟩ := wp_g h
      refine r_iald hc ev6 dX6_operating_162 ?_
      refine r_aload_n hc 1 rfl rfl dX6_operating_163 ?_
      refine r_iload_n hc 2 rfl rfl dX6_operating_164 ?_
      refine r_iload hc 4 rfl dX6_operating_165 ?_
      obtain ⟨r7, σ8, er7, h⟩ := wp_b h
      refine r_callS hc ms_X6_mayBe ml_X6_329 (c_X6_mayBe er7) rfl rfl (by decide) rfl (Nat.le_of_ble_eq_true rfl) dX6_operating_167 ?_
      refine r_iand hc dX6_operating_170 ?_
      obtain ⟨σ9, eσ9, h⟩ := wp_g h
      refine r_iast hc eσ9 dX6_operating_171 ?_
      refine r_iincE hc (j := 4) (w := 1) (lv' := [(5, .int (v + 1)), (0, .ref (ad x0)), (1, .ref (ad x1)), (2, .int x2), (4, .int x4)]) rfl (by decide) rfl (by decide) rfl dX6_operating_172 ?_
      refine r_goto hc (tgt := 137) dX6_operating_175 (by decide) ?_
      refine r_sub [1, 2, 3, 4, 0] (lv' := [(0, .ref (ad x0)), (1, .ref (ad x1)), (2, .int x2), (4, .int x4), (5, .int (v + 1))]) rfl ?_
      have h := wp_v h
      exact kn (v + 1) _ h
noncomputable def f_X6_operating_b48 (x0 : Nat) (x1 : Nat) (x2 : Int32) (x3 : Int32) (x4 : Int32) (s0 : Nat) (s1 : Int32) (σ : Hp) : Option (Unit × Hp) := gO (chk shC s0 1) fun _ => bO (f_X1_begin s0 s1 σ) fun _ σ2 => bO (wh (f_X6_operating_L54 x0 x1 x2 x3 x4) 0 σ2) fun y4 σ5 => (gO (getR shC 6 x0 7 σ5) fun v6 => gO (getR shC 6 x0 6 σ5) fun v7 => gO (chk shC v6 4) fun _ => bO (f_X4_freely v6 v7 x1 σ5) fun _ σ9 => bO (wh (f_X6_operating_L137 x0 x1 x2 x4) 0 σ9) fun y11 σ12 => (some ((), σ12)))
set_option maxRecDepth 100000 in
set_option maxHeartbeats 4000000 in
theorem t_X6_operating_b48 {l : Launch} {γ : Gm} {ad : Nat → Nat} {K : Option Value → Hp → Prop} (hc : Cx l γ 4 7 ad shC RX6 cX6_operating none K) {x0 : Nat} {x1 : Nat} {x2 : Int32} {x3 : Int32} {x4 : Int32} {s0 : Nat} {s1 : Int32} {σ : Hp} (h : wpO (f_X6_operating_b48 x0 x1 x2 x3 x4 s0 s1 σ) (KU K)) : WW l γ 4 7 ad shC 48 [(0, .ref (ad x0)), (1, .ref (ad x1)), (2, .int x2), (3, .int x3), (4, .int x4)] [.int s1, .ref (ad s0)] σ := by
  unfold f_X6_operating_b48 at h
  obtain ⟨_, ek3, h⟩ := wp_g h
  obtain ⟨_, σ2, er1, h⟩ := wp_b h
  refine r_callV hc (k0 := s0) mv_X1_begin ml_X6_106 (c_X1_begin er1) (chk_of ek3) cls_1.1 rfl rfl rfl (by decide) rfl (Nat.le_of_ble_eq_true rfl) dX6_operating_48 ?_
  refine r_iconst hc (v := 0) (by decide) dX6_operating_51 ?_
  refine r_istoreE hc (i := 5) (lv' := [(5, .int 0), (0, .ref (ad x0)), (1, .ref (ad x1)), (2, .int x2), (3, .int x3), (4, .int x4)]) rfl (by decide) rfl dX6_operating_52 ?_
  refine r_sub [1, 2, 3, 4, 5, 0] (lv' := [(0, .ref (ad x0)), (1, .ref (ad x1)), (2, .int x2), (3, .int x3), (4, .int x4), (5, .int 0)]) rfl ?_
  refine t_X6_operating_L54 hc (wp_bb h) ?_
  · intro y4 σ5 h
    refine r_aload_n hc 0 rfl rfl dX6_operating_122 ?_
    obtain ⟨v6, ev6, h⟩ := wp_g h
    refine r_getR hc ev6 fl_X6_41 rfl dX6_operating_123 ?_
    refine r_aload_n hc 0 rfl rfl dX6_operating_126 ?_
    obtain ⟨v7, ev7, h⟩ := wp_g h
    refine r_getR hc ev7 fl_X6_34 rfl dX6_operating_127 ?_
    refine r_aload_n hc 1 rfl rfl dX6_operating_130 ?_
    obtain ⟨_, ek10, h⟩ := wp_g h
    obtain ⟨_, σ9, er8, h⟩ := wp_b h
    refine r_callV hc (k0 := v6) mv_X4_freely ml_X6_216 (c_X4_freely er8) (chk_of ek10) cls_4.1 rfl rfl rfl (by decide) rfl (Nat.le_of_ble_eq_true rfl) dX6_operating_131 ?_
    refine r_iconst hc (v := 0) (by decide) dX6_operating_134 ?_
    refine r_istoreE hc (i := 5) (lv' := [(5, .int 0), (0, .ref (ad x0)), (1, .ref (ad x1)), (2, .int x2), (4, .int x4)]) rfl (by decide) rfl dX6_operating_135 ?_
    refine r_sub [1, 2, 3, 4, 0] (lv' := [(0, .ref (ad x0)), (1, .ref (ad x1)), (2, .int x2), (4, .int x4), (5, .int 0)]) rfl ?_
    refine t_X6_operating_L137 hc (wp_bb h) ?_
    · intro y11 σ12 h
      have h := wp_v h
      exact r_vret hc h dX6_operating_178
noncomputable def f_X6_operating_b10 (x0 : Nat) (x1 : Nat) (x2 : Int32) (s0 : Int32) (σ : Hp) : Option (Unit × Hp) := gO (getI shC 1 x1 0 σ) fun v1 => bO (f_X6_powerRows v1 s0 σ) fun r2 σ3 => gO (getR shC 6 x0 6 σ3) fun v4 => if x2 = 2 then (gO (getI shC 1 x1 0 σ3) fun v5 => gO (getI shC 1 x1 0 σ3) fun v6 => gO (nz 2) fun z7 => f_X6_operating_b48 x0 x1 x2 s0 r2 v4 ((v5 * (v6 + 1)) / 2) σ3) else (f_X6_operating_b48 x0 x1 x2 s0 r2 v4 r2 σ3)
set_option maxRecDepth 100000 in
set_option maxHeartbeats 4000000 in
theorem t_X6_operating_b10 {l : Launch} {γ : Gm} {ad : Nat → Nat} {K : Option Value → Hp → Prop} (hc : Cx l γ 4 7 ad shC RX6 cX6_operating none K) {x0 : Nat} {x1 : Nat} {x2 : Int32} {s0 : Int32} {σ : Hp} (h : wpO (f_X6_operating_b10 x0 x1 x2 s0 σ) (KU K)) : WW l γ 4 7 ad shC 10 [(0, .ref (ad x0)), (1, .ref (ad x1)), (2, .int x2)] [.int s0] σ := by
  unfold f_X6_operating_b10 at h
  refine r_istore_nE hc (i := 3) (lv' := [(3, .int s0), (0, .ref (ad x0)), (1, .ref (ad x1)), (2, .int x2)]) rfl rfl (by decide) rfl dX6_operating_10 ?_
  refine r_aload_n hc 2 rfl rfl dX6_operating_11 ?_
  obtain ⟨v1, ev1, h⟩ := wp_g h
  refine r_getI hc ev1 fl_X6_126 rfl dX6_operating_12 ?_
  refine r_iload_n hc 0 rfl rfl dX6_operating_15 ?_
  obtain ⟨r2, σ3, er2, h⟩ := wp_b h
  refine r_callS hc ms_X6_powerRows ml_X6_323 (c_X6_powerRows er2) rfl rfl (by decide) rfl (Nat.le_of_ble_eq_true rfl) dX6_operating_16 ?_
  refine r_istoreE hc (i := 4) (lv' := [(4, .int r2), (3, .int s0), (0, .ref (ad x0)), (1, .ref (ad x1)), (2, .int x2)]) rfl (by decide) rfl dX6_operating_19 ?_
  refine r_aload_n hc 2 rfl rfl dX6_operating_21 ?_
  obtain ⟨v4, ev4, h⟩ := wp_g h
  refine r_getR hc ev4 fl_X6_34 rfl dX6_operating_22 ?_
  refine r_iload_n hc 4 rfl rfl dX6_operating_25 ?_
  refine r_iconst hc (v := 2) (by decide) dX6_operating_26 ?_
  refine r_icmp_ne hc (tgt := 46) dX6_operating_27 (by decide) (fun c => ?_) (fun c => ?_)
  · have h := wp_f c h
    refine r_iload hc 0 rfl dX6_operating_46 ?_
    refine r_sub [2, 3, 4, 1, 0] (lv' := [(0, .ref (ad x0)), (1, .ref (ad x1)), (2, .int x2), (3, .int s0), (4, .int r2)]) rfl ?_
    exact t_X6_operating_b48 hc h
  · have h := wp_t c h
    refine r_aload_n hc 3 rfl rfl dX6_operating_30 ?_
    obtain ⟨v5, ev5, h⟩ := wp_g h
    refine r_getI hc ev5 fl_X6_126 rfl dX6_operating_31 ?_
    refine r_aload_n hc 3 rfl rfl dX6_operating_34 ?_
    obtain ⟨v6, ev6, h⟩ := wp_g h
    refine r_getI hc ev6 fl_X6_126 rfl dX6_operating_35 ?_
    refine r_iconst hc (v := 1) (by decide) dX6_operating_38 ?_
    refine r_iadd hc dX6_operating_39 ?_
    refine r_imul hc dX6_operating_40 ?_
    refine r_iconst hc (v := 2) (by decide) dX6_operating_41 ?_
    obtain ⟨z7, ez7, h⟩ := wp_g h
    refine r_idiv hc ez7 dX6_operating_42 ?_
    refine r_goto hc (tgt := 48) dX6_operating_43 (by decide) ?_
    refine r_sub [2, 3, 4, 1, 0] (lv' := [(0, .ref (ad x0)), (1, .ref (ad x1)), (2, .int x2), (3, .int s0), (4, .int r2)]) rfl ?_
    exact t_X6_operating_b48 hc h
noncomputable def f_X6_operating (x0 : Nat) (x1 : Nat) (x2 : Int32) (σ : Hp) : Option (Unit × Hp) := if x2 = 3 then (f_X6_operating_b10 x0 x1 x2 3 σ) else (f_X6_operating_b10 x0 x1 x2 2 σ)
set_option maxRecDepth 100000 in
set_option maxHeartbeats 4000000 in
theorem t_X6_operating {l : Launch} {γ : Gm} {ad : Nat → Nat} {K : Option Value → Hp → Prop} (hc : Cx l γ 4 7 ad shC RX6 cX6_operating none K) {x0 : Nat} {x1 : Nat} {x2 : Int32} {σ : Hp} (h : wpO (f_X6_operating x0 x1 x2 σ) (KU K)) : WW l γ 4 7 ad shC 0 [(0, .ref (ad x0)), (1, .ref (ad x1)), (2, .int x2)] [] σ := by
  unfold f_X6_operating at h
  refine r_iload_n hc 2 rfl rfl dX6_operating_0 ?_
  refine r_iconst hc (v := 3) (by decide) dX6_operating_1 ?_
  refine r_icmp_ne hc (tgt := 9) dX6_operating_2 (by decide) (fun c => ?_) (fun c => ?_)
  · have h := wp_f c h
    refine r_iconst hc (v := 2) (by decide) dX6_operating_9 ?_
    exact t_X6_operating_b10 hc h
  · have h := wp_t c h
    refine r_iconst hc (v := 3) (by decide) dX6_operating_5 ?_
    refine r_goto hc (tgt := 10) dX6_operating_6 (by decide) ?_
    exact t_X6_operating_b10 hc h
theorem c_X6_operating {l : Launch} {x0 : Nat} {x1 : Nat} {x2 : Int32} {σ σ' : Hp} {r : Unit} (h : f_X6_operating x0 x1 x2 σ = some (r, σ')) : Mt l yX6_operating cX6_operating 7 none 4 shC (fun ad => [.ref (ad x0), .ref (ad x1), .int x2]) σ (fun ad => none) σ' := mt_i (own := RX6) (by decide) rfl (fun _ => Nat.le_of_ble_eq_true rfl) (fun γ ad K hc hk => t_X6_operating hc ⟨_, _, h, hk⟩)

-- NetMaps.operations(II)I
theorem dX6_operations_0 : decode cX6_operations 0 = .ok (.iload_n 1, 1) := by decide +kernel
theorem dX6_operations_1 : decode cX6_operations 1 = .ok (.invokestatic 76, 3) := by decide +kernel
theorem dX6_operations_4 : decode cX6_operations 4 = .ok (.ifCond .ne 12, 3) := by decide +kernel
theorem dX6_operations_7 : decode cX6_operations 7 = .ok (.iload_n 2, 1) := by decide +kernel
theorem dX6_operations_8 : decode cX6_operations 8 = .ok (.ifCond .lt 8, 3) := by decide +kernel
theorem dX6_operations_11 : decode cX6_operations 11 = .ok (.iload_n 2, 1) := by decide +kernel
theorem dX6_operations_12 : decode cX6_operations 12 = .ok (.iconst 3, 1) := by decide +kernel
theorem dX6_operations_13 : decode cX6_operations 13 = .ok (.if_icmp .le 5, 3) := by decide +kernel
theorem dX6_operations_16 : decode cX6_operations 16 = .ok (.iconst (-1), 1) := by decide +kernel
theorem dX6_operations_17 : decode cX6_operations 17 = .ok (.ireturn, 1) := by decide +kernel
theorem dX6_operations_18 : decode cX6_operations 18 = .ok (.aload_n 0, 1) := by decide +kernel
theorem dX6_operations_19 : decode cX6_operations 19 = .ok (.iload_n 1, 1) := by decide +kernel
theorem dX6_operations_20 : decode cX6_operations 20 = .ok (.invokevirtual 91, 3) := by decide +kernel
theorem dX6_operations_23 : decode cX6_operations 23 = .ok (.astore_n 3, 1) := by decide +kernel
theorem dX6_operations_24 : decode cX6_operations 24 = .ok (.aload_n 3, 1) := by decide +kernel
theorem dX6_operations_25 : decode cX6_operations 25 = .ok (.invokevirtual 109, 3) := by decide +kernel
theorem dX6_operations_28 : decode cX6_operations 28 = .ok (.ifCond .eq 6, 3) := by decide +kernel
theorem dX6_operations_31 : decode cX6_operations 31 = .ok (.bipush (-2), 2) := by decide +kernel
theorem dX6_operations_33 : decode cX6_operations 33 = .ok (.ireturn, 1) := by decide +kernel
theorem dX6_operations_34 : decode cX6_operations 34 = .ok (.aload_n 3, 1) := by decide +kernel
theorem dX6_operations_35 : decode cX6_operations 35 = .ok (.getfield 126, 3) := by decide +kernel
theorem dX6_operations_38 : decode cX6_operations 38 = .ok (.iconst 3, 1) := by decide +kernel
theorem dX6_operations_39 : decode cX6_operations 39 = .ok (.if_icmp .le 6, 3) := by decide +kernel
theorem dX6_operations_42 : decode cX6_operations 42 = .ok (.bipush (-3), 2) := by decide +kernel
theorem dX6_operations_44 : decode cX6_operations 44 = .ok (.ireturn, 1) := by decide +kernel
theorem dX6_operations_45 : decode cX6_operations 45 = .ok (.aload_n 0, 1) := by decide +kernel
theorem dX6_operations_46 : decode cX6_operations 46 = .ok (.aload_n 3, 1) := by decide +kernel
theorem dX6_operations_47 : decode cX6_operations 47 = .ok (.iload_n 2, 1) := by decide +kernel
theorem dX6_operations_48 : decode cX6_operations 48 = .ok (.invokevirtual 317, 3) := by decide +kernel
theorem dX6_operations_51 : decode cX6_operations 51 = .ok (.aload_n 0, 1) := by decide +kernel
theorem dX6_operations_52 : decode cX6_operations 52 = .ok (.getfield 41, 3) := by decide +kernel
theorem dX6_operations_55 : decode cX6_operations 55 = .ok (.invokevirtual 230, 3) := by decide +kernel
theorem dX6_operations_58 : decode cX6_operations 58 = .ok (.ireturn, 1) := by decide +kernel
noncomputable def f_X6_operations_b16  (σ : Hp) : Option (Int32 × Hp) := some ((-1), σ)
set_option maxRecDepth 100000 in
set_option maxHeartbeats 4000000 in
theorem t_X6_operations_b16 {l : Launch} {γ : Gm} {ad : Nat → Nat} {K : Option Value → Hp → Prop} (hc : Cx l γ 35 4 ad shC RX6 cX6_operations (some .int) K)  {σ : Hp} (h : wpO (f_X6_operations_b16  σ) (KI K)) : WW l γ 35 4 ad shC 16 [] [] σ := by
  unfold f_X6_operations_b16 at h
  refine r_iconst hc (v := (-1)) (by decide) dX6_operations_16 ?_
  have h := wp_v h
  exact r_iret hc h dX6_operations_17
noncomputable def f_X6_operations (x0 : Nat) (x1 : Int32) (x2 : Int32) (σ : Hp) : Option (Int32 × Hp) := bO (f_X6_noDrawer x1 σ) fun r1 σ2 => if r1 = 0 then (if x2 < 0 then (f_X6_operations_b16  σ2) else (if x2 ≤ 3 then (gO (chk shC x0 6) fun _ => bO (f_X6_in x0 x1 σ2) fun r3 σ4 => gO (chk shC r3 1) fun _ => bO (f_X1_isEmpty r3 σ4) fun r6 σ7 => if r6 = 0 then (gO (getI shC 1 r3 0 σ7) fun v9 => if v9 ≤ 3 then (gO (chk shC x0 6) fun _ => bO (f_X6_operating x0 r3 x2 σ7) fun _ σ11 => gO (getR shC 6 x0 7 σ11) fun v13 => gO (chk shC v13 4) fun _ => bO (f_X4_howMany v13 σ11) fun r14 σ15 => some (r14, σ15)) else (some ((-3), σ7))) else (some ((-2), σ7))) else (f_X6_operations_b16  σ2))) else (f_X6_operations_b16  σ2)
set_option maxRecDepth 100000 in
set_option maxHeartbeats 4000000 in
theorem t_X6_operations {l : Launch} {γ : Gm} {ad : Nat → Nat} {K : Option Value → Hp → Prop} (hc : Cx l γ 35 4 ad shC RX6 cX6_operations (some .int) K) {x0 : Nat} {x1 : Int32} {x2 : Int32} {σ : Hp} (h : wpO (f_X6_operations x0 x1 x2 σ) (KI K)) : WW l γ 35 4 ad shC 0 [(0, .ref (ad x0)), (1, .int x1), (2, .int x2)] [] σ := by
  unfold f_X6_operations at h
  refine r_iload_n hc 1 rfl rfl dX6_operations_0 ?_
  obtain ⟨r1, σ2, er1, h⟩ := wp_b h
  refine r_callS hc ms_X6_noDrawer ml_X6_76 (c_X6_noDrawer er1) rfl rfl (by decide) rfl (Nat.le_of_ble_eq_true rfl) dX6_operations_1 ?_
  refine r_if_ne hc (tgt := 16) dX6_operations_4 (by decide) (fun c => ?_) (fun c => ?_)
  · have h := wp_f c h
    refine r_sub [] (lv' := []) rfl ?_
    exact t_X6_operations_b16 hc h
  · have h := wp_t c h
    refine r_iload_n hc 2 rfl rfl dX6_operations_7 ?_
    refine r_if_lt hc (tgt := 16) dX6_operations_8 (by decide) (fun c => ?_) (fun c => ?_)
    · have h := wp_t c h
      refine r_sub [] (lv' := []) rfl ?_
      exact t_X6_operations_b16 hc h
    · have h := wp_f c h
      refine r_iload_n hc 2 rfl rfl dX6_operations_11 ?_
      refine r_iconst hc (v := 3) (by decide) dX6_operations_12 ?_
      refine r_icmp_le hc (tgt := 18) dX6_operations_13 (by decide) (fun c => ?_) (fun c => ?_)
      · have h := wp_t c h
        refine r_aload_n hc 0 rfl rfl dX6_operations_18 ?_
        refine r_iload_n hc 1 rfl rfl dX6_operations_19 ?_
        obtain ⟨_, ek5, h⟩ := wp_g h
        obtain ⟨r3, σ4, er3, h⟩ := wp_b h
        refine r_callV hc (k0 := x0) mv_X6_in ml_X6_91 (c_X6_in er3) (chk_of ek5) cls_6.1 rfl rfl rfl (by decide) rfl (Nat.le_of_ble_eq_true rfl) dX6_operations_20 ?_
        refine r_astore_n hc (i := 3) (lv' := [(3, .ref (ad r3)), (0, .ref (ad x0)), (1, .int x1), (2, .int x2)]) rfl (by decide) rfl dX6_operations_23 ?_
        refine r_aload_n hc 0 rfl rfl dX6_operations_24 ?_
        obtain ⟨_, ek8, h⟩ := wp_g h
        obtain ⟨r6, σ7, er6, h⟩ := wp_b h
        refine r_callV hc (k0 := r3) mv_X1_isEmpty ml_X6_109 (c_X1_isEmpty er6) (chk_of ek8) cls_1.1 rfl rfl rfl (by decide) rfl (Nat.le_of_ble_eq_true rfl) dX6_operations_25 ?_
        refine r_if_eq hc (tgt := 34) dX6_operations_28 (by decide) (fun c => ?_) (fun c => ?_)
        · have h := wp_t c h
          refine r_aload_n hc 0 rfl rfl dX6_operations_34 ?_
          obtain ⟨v9, ev9, h⟩ := wp_g h
          refine r_getI hc ev9 fl_X6_126 rfl dX6_operations_35 ?_
          refine r_iconst hc (v := 3) (by decide) dX6_operations_38 ?_
          refine r_icmp_le hc (tgt := 45) dX6_operations_39 (by decide) (fun c => ?_) (fun c => ?_)
          · have h := wp_t c h
            refine r_aload_n hc 1 rfl rfl dX6_operations_45 ?_
            refine r_aload_n hc 0 rfl rfl dX6_operations_46 ?_
            refine r_iload_n hc 3 rfl rfl dX6_operations_47 ?_
            obtain ⟨_, ek12, h⟩ := wp_g h
            obtain ⟨_, σ11, er10, h⟩ := wp_b h
            refine r_callV hc (k0 := x0) mv_X6_operating ml_X6_317 (c_X6_operating er10) (chk_of ek12) cls_6.1 rfl rfl rfl (by decide) rfl (Nat.le_of_ble_eq_true rfl) dX6_operations_48 ?_
            refine r_aload_n hc 1 rfl rfl dX6_operations_51 ?_
            obtain ⟨v13, ev13, h⟩ := wp_g h
            refine r_getR hc ev13 fl_X6_41 rfl dX6_operations_52 ?_
            obtain ⟨_, ek16, h⟩ := wp_g h
            obtain ⟨r14, σ15, er14, h⟩ := wp_b h
            refine r_callV hc (k0 := v13) mv_X4_howMany ml_X6_230 (c_X4_howMany er14) (chk_of ek16) cls_4.1 rfl rfl rfl (by decide) rfl (Nat.le_of_ble_eq_true rfl) dX6_operations_55 ?_
            have h := wp_v h
            exact r_iret hc h dX6_operations_58
          · have h := wp_f c h
            refine r_bipush hc (v := (-3)) (by decide) dX6_operations_42 ?_
            have h := wp_v h
            exact r_iret hc h dX6_operations_44
        · have h := wp_f c h
          refine r_bipush hc (v := (-2)) (by decide) dX6_operations_31 ?_
          have h := wp_v h
          exact r_iret hc h dX6_operations_33
      · have h := wp_f c h
        refine r_sub [] (lv' := []) rfl ?_
        exact t_X6_operations_b16 hc h
theorem c_X6_operations {l : Launch} {x0 : Nat} {x1 : Int32} {x2 : Int32} {σ σ' : Hp} {r : Int32} (h : f_X6_operations x0 x1 x2 σ = some (r, σ')) : Mt l yX6_operations cX6_operations 4 (some .int) 35 shC (fun ad => [.ref (ad x0), .int x1, .int x2]) σ (fun ad => some (.int r)) σ' := mt_i (own := RX6) (by decide) rfl (fun _ => Nat.le_of_ble_eq_true rfl) (fun γ ad K hc hk => t_X6_operations hc ⟨_, _, h, hk⟩)

-- NetMaps.operation(IIIIII)I
theorem dX6_operation_0 : decode cX6_operation 0 = .ok (.aload_n 0, 1) := by decide +kernel
theorem dX6_operation_1 : decode cX6_operation 1 = .ok (.iload_n 1, 1) := by decide +kernel
theorem dX6_operation_2 : decode cX6_operation 2 = .ok (.iload 4, 2) := by decide +kernel
theorem dX6_operation_4 : decode cX6_operation 4 = .ok (.invokevirtual 112, 3) := by decide +kernel
theorem dX6_operation_7 : decode cX6_operation 7 = .ok (.ifCond .ne 26, 3) := by decide +kernel
theorem dX6_operation_10 : decode cX6_operation 10 = .ok (.aload_n 0, 1) := by decide +kernel
theorem dX6_operation_11 : decode cX6_operation 11 = .ok (.iload_n 1, 1) := by decide +kernel
theorem dX6_operation_12 : decode cX6_operation 12 = .ok (.iload 5, 2) := by decide +kernel
theorem dX6_operation_14 : decode cX6_operation 14 = .ok (.invokevirtual 112, 3) := by decide +kernel
theorem dX6_operation_17 : decode cX6_operation 17 = .ok (.ifCond .ne 16, 3) := by decide +kernel
theorem dX6_operation_20 : decode cX6_operation 20 = .ok (.iload_n 2, 1) := by decide +kernel
theorem dX6_operation_21 : decode cX6_operation 21 = .ok (.ifCond .lt 12, 3) := by decide +kernel
theorem dX6_operation_24 : decode cX6_operation 24 = .ok (.iload_n 2, 1) := by decide +kernel
theorem dX6_operation_25 : decode cX6_operation 25 = .ok (.iconst 3, 1) := by decide +kernel
theorem dX6_operation_26 : decode cX6_operation 26 = .ok (.if_icmp .gt 7, 3) := by decide +kernel
theorem dX6_operation_29 : decode cX6_operation 29 = .ok (.iload_n 3, 1) := by decide +kernel
theorem dX6_operation_30 : decode cX6_operation 30 = .ok (.ifCond .ge 5, 3) := by decide +kernel
theorem dX6_operation_33 : decode cX6_operation 33 = .ok (.iconst (-1), 1) := by decide +kernel
theorem dX6_operation_34 : decode cX6_operation 34 = .ok (.ireturn, 1) := by decide +kernel
theorem dX6_operation_35 : decode cX6_operation 35 = .ok (.iload_n 2, 1) := by decide +kernel
theorem dX6_operation_36 : decode cX6_operation 36 = .ok (.iconst 3, 1) := by decide +kernel
theorem dX6_operation_37 : decode cX6_operation 37 = .ok (.if_icmp .ne 15, 3) := by decide +kernel
theorem dX6_operation_40 : decode cX6_operation 40 = .ok (.aload_n 0, 1) := by decide +kernel
theorem dX6_operation_41 : decode cX6_operation 41 = .ok (.iload_n 1, 1) := by decide +kernel
theorem dX6_operation_42 : decode cX6_operation 42 = .ok (.iload 6, 2) := by decide +kernel
theorem dX6_operation_44 : decode cX6_operation 44 = .ok (.invokevirtual 112, 3) := by decide +kernel
theorem dX6_operation_47 : decode cX6_operation 47 = .ok (.ifCond .eq 5, 3) := by decide +kernel
theorem dX6_operation_50 : decode cX6_operation 50 = .ok (.iconst (-1), 1) := by decide +kernel
theorem dX6_operation_51 : decode cX6_operation 51 = .ok (.ireturn, 1) := by decide +kernel
theorem dX6_operation_52 : decode cX6_operation 52 = .ok (.aload_n 0, 1) := by decide +kernel
theorem dX6_operation_53 : decode cX6_operation 53 = .ok (.iload_n 1, 1) := by decide +kernel
theorem dX6_operation_54 : decode cX6_operation 54 = .ok (.invokevirtual 91, 3) := by decide +kernel
theorem dX6_operation_57 : decode cX6_operation 57 = .ok (.astore 7, 2) := by decide +kernel
theorem dX6_operation_59 : decode cX6_operation 59 = .ok (.aload 7, 2) := by decide +kernel
theorem dX6_operation_61 : decode cX6_operation 61 = .ok (.invokevirtual 109, 3) := by decide +kernel
theorem dX6_operation_64 : decode cX6_operation 64 = .ok (.ifCond .eq 6, 3) := by decide +kernel
theorem dX6_operation_67 : decode cX6_operation 67 = .ok (.bipush (-2), 2) := by decide +kernel
theorem dX6_operation_69 : decode cX6_operation 69 = .ok (.ireturn, 1) := by decide +kernel
theorem dX6_operation_70 : decode cX6_operation 70 = .ok (.aload 7, 2) := by decide +kernel
theorem dX6_operation_72 : decode cX6_operation 72 = .ok (.getfield 126, 3) := by decide +kernel
theorem dX6_operation_75 : decode cX6_operation 75 = .ok (.iconst 3, 1) := by decide +kernel
theorem dX6_operation_76 : decode cX6_operation 76 = .ok (.if_icmp .le 6, 3) := by decide +kernel
theorem dX6_operation_79 : decode cX6_operation 79 = .ok (.bipush (-3), 2) := by decide +kernel
theorem dX6_operation_81 : decode cX6_operation 81 = .ok (.ireturn, 1) := by decide +kernel
theorem dX6_operation_82 : decode cX6_operation 82 = .ok (.aload_n 0, 1) := by decide +kernel
theorem dX6_operation_83 : decode cX6_operation 83 = .ok (.aload 7, 2) := by decide +kernel
theorem dX6_operation_85 : decode cX6_operation 85 = .ok (.iload_n 2, 1) := by decide +kernel
theorem dX6_operation_86 : decode cX6_operation 86 = .ok (.invokevirtual 317, 3) := by decide +kernel
theorem dX6_operation_89 : decode cX6_operation 89 = .ok (.aload_n 0, 1) := by decide +kernel
theorem dX6_operation_90 : decode cX6_operation 90 = .ok (.getfield 41, 3) := by decide +kernel
theorem dX6_operation_93 : decode cX6_operation 93 = .ok (.iload_n 3, 1) := by decide +kernel
theorem dX6_operation_94 : decode cX6_operation 94 = .ok (.invokevirtual 233, 3) := by decide +kernel
theorem dX6_operation_97 : decode cX6_operation 97 = .ok (.ifCond .ne 6, 3) := by decide +kernel
theorem dX6_operation_100 : decode cX6_operation 100 = .ok (.bipush (-4), 2) := by decide +kernel
theorem dX6_operation_102 : decode cX6_operation 102 = .ok (.ireturn, 1) := by decide +kernel
theorem dX6_operation_103 : decode cX6_operation 103 = .ok (.iload 4, 2) := by decide +kernel
theorem dX6_operation_105 : decode cX6_operation 105 = .ok (.aload 7, 2) := by decide +kernel
theorem dX6_operation_107 : decode cX6_operation 107 = .ok (.getfield 126, 3) := by decide +kernel
theorem dX6_operation_110 : decode cX6_operation 110 = .ok (.imul, 1) := by decide +kernel
theorem dX6_operation_111 : decode cX6_operation 111 = .ok (.iload 5, 2) := by decide +kernel
theorem dX6_operation_113 : decode cX6_operation 113 = .ok (.iadd, 1) := by decide +kernel
theorem dX6_operation_114 : decode cX6_operation 114 = .ok (.istore 8, 2) := by decide +kernel
theorem dX6_operation_116 : decode cX6_operation 116 = .ok (.aload_n 0, 1) := by decide +kernel
theorem dX6_operation_117 : decode cX6_operation 117 = .ok (.getfield 41, 3) := by decide +kernel
theorem dX6_operation_120 : decode cX6_operation 120 = .ok (.getfield 236, 3) := by decide +kernel
theorem dX6_operation_123 : decode cX6_operation 123 = .ok (.aload 7, 2) := by decide +kernel
theorem dX6_operation_125 : decode cX6_operation 125 = .ok (.getfield 126, 3) := by decide +kernel
theorem dX6_operation_128 : decode cX6_operation 128 = .ok (.iload_n 2, 1) := by decide +kernel
theorem dX6_operation_129 : decode cX6_operation 129 = .ok (.iload_n 2, 1) := by decide +kernel
theorem dX6_operation_130 : decode cX6_operation 130 = .ok (.iconst 3, 1) := by decide +kernel
theorem dX6_operation_131 : decode cX6_operation 131 = .ok (.if_icmp .ne 17, 3) := by decide +kernel
theorem dX6_operation_134 : decode cX6_operation 134 = .ok (.iload 8, 2) := by decide +kernel
theorem dX6_operation_136 : decode cX6_operation 136 = .ok (.aload 7, 2) := by decide +kernel
theorem dX6_operation_138 : decode cX6_operation 138 = .ok (.getfield 126, 3) := by decide +kernel
theorem dX6_operation_141 : decode cX6_operation 141 = .ok (.imul, 1) := by decide +kernel
theorem dX6_operation_142 : decode cX6_operation 142 = .ok (.iload 6, 2) := by decide +kernel
theorem dX6_operation_144 : decode cX6_operation 144 = .ok (.iadd, 1) := by decide +kernel
theorem dX6_operation_145 : decode cX6_operation 145 = .ok (.goto 5, 3) := by decide +kernel
theorem dX6_operation_148 : decode cX6_operation 148 = .ok (.iload 8, 2) := by decide +kernel
theorem dX6_operation_150 : decode cX6_operation 150 = .ok (.invokestatic 320, 3) := by decide +kernel
theorem dX6_operation_153 : decode cX6_operation 153 = .ok (.iaload, 1) := by decide +kernel
theorem dX6_operation_154 : decode cX6_operation 154 = .ok (.ireturn, 1) := by decide +kernel
noncomputable def f_X6_operation_b33  (σ : Hp) : Option (Int32 × Hp) := some ((-1), σ)
set_option maxRecDepth 100000 in
set_option maxHeartbeats 4000000 in
theorem t_X6_operation_b33 {l : Launch} {γ : Gm} {ad : Nat → Nat} {K : Option Value → Hp → Prop} (hc : Cx l γ 35 9 ad shC RX6 cX6_operation (some .int) K)  {σ : Hp} (h : wpO (f_X6_operation_b33  σ) (KI K)) : WW l γ 35 9 ad shC 33 [] [] σ := by
  unfold f_X6_operation_b33 at h
  refine r_iconst hc (v := (-1)) (by decide) dX6_operation_33 ?_
  have h := wp_v h
  exact r_iret hc h dX6_operation_34
noncomputable def f_X6_operation_b150 (s0 : Nat) (s1 : Int32) (s2 : Int32) (s3 : Int32) (σ : Hp) : Option (Int32 × Hp) := bO (f_X6_place s1 s2 s3 σ) fun r1 σ2 => gO (aldI shC 0 s0 r1 σ2) fun v3 => some (v3, σ2)
set_option maxRecDepth 100000 in
set_option maxHeartbeats 4000000 in
theorem t_X6_operation_b150 {l : Launch} {γ : Gm} {ad : Nat → Nat} {K : Option Value → Hp → Prop} (hc : Cx l γ 35 9 ad shC RX6 cX6_operation (some .int) K) {s0 : Nat} {s1 : Int32} {s2 : Int32} {s3 : Int32} {σ : Hp} (h : wpO (f_X6_operation_b150 s0 s1 s2 s3 σ) (KI K)) : WW l γ 35 9 ad shC 150 [] [.int s3, .int s2, .int s1, .ref (ad s0)] σ := by
  unfold f_X6_operation_b150 at h
  obtain ⟨r1, σ2, er1, h⟩ := wp_b h
  refine r_callS hc ms_X6_place ml_X6_320 (c_X6_place er1) rfl rfl (by decide) rfl (Nat.le_of_ble_eq_true rfl) dX6_operation_150 ?_
  obtain ⟨v3, ev3, h⟩ := wp_g h
  refine r_iald hc ev3 dX6_operation_153 ?_
  have h := wp_v h
  exact r_iret hc h dX6_operation_154
noncomputable def f_X6_operation_b52 (x0 : Nat) (x1 : Int32) (x2 : Int32) (x3 : Int32) (x4 : Int32) (x5 : Int32) (x6 : Int32) (σ : Hp) : Option (Int32 × Hp) := gO (chk shC x0 6) fun _ => bO (f_X6_in x0 x1 σ) fun r1 σ2 => gO (chk shC r1 1) fun _ => bO (f_X1_isEmpty r1 σ2) fun r4 σ5 => if r4 = 0 then (gO (getI shC 1 r1 0 σ5) fun v7 => if v7 ≤ 3 then (gO (chk shC x0 6) fun _ => bO (f_X6_operating x0 r1 x2 σ5) fun _ σ9 => gO (getR shC 6 x0 7 σ9) fun v11 => gO (chk shC v11 4) fun _ => bO (f_X4_pick v11 x3 σ9) fun r12 σ13 => if r12 = 0 then (some ((-4), σ13)) else (gO (getI shC 1 r1 0 σ13) fun v15 => gO (getR shC 6 x0 7 σ13) fun v16 => gO (getR shC 4 v16 3 σ13) fun v17 => gO (getI shC 1 r1 0 σ13) fun v18 => if x2 = 3 then (gO (getI shC 1 r1 0 σ13) fun v19 => f_X6_operation_b150 v17 v18 x2 ((((x4 * v15) + x5) * v19) + x6) σ13) else (f_X6_operation_b150 v17 v18 x2 ((x4 * v15) + x5) σ13))) else (some ((-3), σ5))) else (some ((-2), σ5))
set_option maxRecDepth 100000 in
set_option maxHeartbeats 4000000 in
theorem t_X6_operation_b52 {l : Launch} {γ : Gm} {ad : Nat → Nat} {K : Option Value → Hp → Prop} (hc : Cx l γ 35 9 ad shC RX6 cX6_operation (some .int) K) {x0 : Nat} {x1 : Int32} {x2 : Int32} {x3 : Int32} {x4 : Int32} {x5 : Int32} {x6 : Int32} {σ : Hp} (h : wpO (f_X6_operation_b52 x0 x1 x2 x3 x4 x5 x6 σ) (KI K)) : WW l γ 35 9 ad shC 52 [(0, .ref (ad x0)), (1, .int x1), (2, .int x2), (3, .int x3), (4, .int x4), (5, .int x5), (6, .int x6)] [] σ := by
  unfold f_X6_operation_b52 at h
  refine r_aload_n hc 0 rfl rfl dX6_operation_52 ?_
  refine r_iload_n hc 1 rfl rfl dX6_operation_53 ?_
  obtain ⟨_, ek3, h⟩ := wp_g h
  obtain ⟨r1, σ2, er1, h⟩ := wp_b h
  refine r_callV hc (k0 := x0) mv_X6_in ml_X6_91 (c_X6_in er1) (chk_of ek3) cls_6.1 rfl rfl rfl (by decide) rfl (Nat.le_of_ble_eq_true rfl) dX6_operation_54 ?_
  refine r_astore hc (i := 7) (lv' := [(7, .ref (ad r1)), (0, .ref (ad x0)), (1, .int x1), (2, .int x2), (3, .int x3), (4, .int x4), (5, .int x5), (6, .int x6)]) (by decide) rfl dX6_operation_57 ?_
  refine r_aload hc 0 rfl dX6_operation_59 ?_
  obtain ⟨_, ek6, h⟩ := wp_g h
  obtain ⟨r4, σ5, er4, h⟩ := wp_b h
  refine r_callV hc (k0 := r1) mv_X1_isEmpty ml_X6_109 (c_X1_isEmpty er4) (chk_of ek6) cls_1.1 rfl rfl rfl (by decide) rfl (Nat.le_of_ble_eq_true rfl) dX6_operation_61 ?_
  refine r_if_eq hc (tgt := 70) dX6_operation_64 (by decide) (fun c => ?_) (fun c => ?_)
  · have h := wp_t c h
    refine r_aload hc 0 rfl dX6_operation_70 ?_
    obtain ⟨v7, ev7, h⟩ := wp_g h
    refine r_getI hc ev7 fl_X6_126 rfl dX6_operation_72 ?_
    refine r_iconst hc (v := 3) (by decide) dX6_operation_75 ?_
    refine r_icmp_le hc (tgt := 82) dX6_operation_76 (by decide) (fun c => ?_) (fun c => ?_)
    · have h := wp_t c h
      refine r_aload_n hc 1 rfl rfl dX6_operation_82 ?_
      refine r_aload hc 0 rfl dX6_operation_83 ?_
      refine r_iload_n hc 3 rfl rfl dX6_operation_85 ?_
      obtain ⟨_, ek10, h⟩ := wp_g h
      obtain ⟨_, σ9, er8, h⟩ := wp_b h
      refine r_callV hc (k0 := x0) mv_X6_operating ml_X6_317 (c_X6_operating er8) (chk_of ek10) cls_6.1 rfl rfl rfl (by decide) rfl (Nat.le_of_ble_eq_true rfl) dX6_operation_86 ?_
      refine r_aload_n hc 1 rfl rfl dX6_operation_89 ?_
      obtain ⟨v11, ev11, h⟩ := wp_g h
      refine r_getR hc ev11 fl_X6_41 rfl dX6_operation_90 ?_
      refine r_iload_n hc 4 rfl rfl dX6_operation_93 ?_
      obtain ⟨_, ek14, h⟩ := wp_g h
      obtain ⟨r12, σ13, er12, h⟩ := wp_b h
      refine r_callV hc (k0 := v11) mv_X4_pick ml_X6_233 (c_X4_pick er12) (chk_of ek14) cls_4.1 rfl rfl rfl (by decide) rfl (Nat.le_of_ble_eq_true rfl) dX6_operation_94 ?_
      refine r_if_ne hc (tgt := 103) dX6_operation_97 (by decide) (fun c => ?_) (fun c => ?_)
      · have h := wp_f c h
        refine r_iload hc 5 rfl dX6_operation_103 ?_
        refine r_aload hc 0 rfl dX6_operation_105 ?_
        obtain ⟨v15, ev15, h⟩ := wp_g h
        refine r_getI hc ev15 fl_X6_126 rfl dX6_operation_107 ?_
        refine r_imul hc dX6_operation_110 ?_
        refine r_iload hc 6 rfl dX6_operation_111 ?_
        refine r_iadd hc dX6_operation_113 ?_
        refine r_istoreE hc (i := 8) (lv' := [(8, .int ((x4 * v15) + x5)), (7, .ref (ad r1)), (0, .ref (ad x0)), (1, .int x1), (2, .int x2), (3, .int x3), (4, .int x4), (5, .int x5), (6, .int x6)]) rfl (by decide) rfl dX6_operation_114 ?_
        refine r_aload_n hc 2 rfl rfl dX6_operation_116 ?_
        obtain ⟨v16, ev16, h⟩ := wp_g h
        refine r_getR hc ev16 fl_X6_41 rfl dX6_operation_117 ?_
        obtain ⟨v17, ev17, h⟩ := wp_g h
        refine r_getR hc ev17 fl_X6_236 rfl dX6_operation_120 ?_
        refine r_aload hc 1 rfl dX6_operation_123 ?_
        obtain ⟨v18, ev18, h⟩ := wp_g h
        refine r_getI hc ev18 fl_X6_126 rfl dX6_operation_125 ?_
        refine r_iload_n hc 4 rfl rfl dX6_operation_128 ?_
        refine r_iload_n hc 4 rfl rfl dX6_operation_129 ?_
        refine r_iconst hc (v := 3) (by decide) dX6_operation_130 ?_
        refine r_icmp_ne hc (tgt := 148) dX6_operation_131 (by decide) (fun c => ?_) (fun c => ?_)
        · have h := wp_f c h
          refine r_iload hc 0 rfl dX6_operation_148 ?_
          refine r_sub [] (lv' := []) rfl ?_
          exact t_X6_operation_b150 hc h
        · have h := wp_t c h
          refine r_iload hc 0 rfl dX6_operation_134 ?_
          refine r_aload hc 1 rfl dX6_operation_136 ?_
          obtain ⟨v19, ev19, h⟩ := wp_g h
          refine r_getI hc ev19 fl_X6_126 rfl dX6_operation_138 ?_
          refine r_imul hc dX6_operation_141 ?_
          refine r_iload hc 8 rfl dX6_operation_142 ?_
          refine r_iadd hc dX6_operation_144 ?_
          refine r_goto hc (tgt := 150) dX6_operation_145 (by decide) ?_
          refine r_sub [] (lv' := []) rfl ?_
          exact t_X6_operation_b150 hc h
      · have h := wp_t c h
        refine r_bipush hc (v := (-4)) (by decide) dX6_operation_100 ?_
        have h := wp_v h
        exact r_iret hc h dX6_operation_102
    · have h := wp_f c h
      refine r_bipush hc (v := (-3)) (by decide) dX6_operation_79 ?_
      have h := wp_v h
      exact r_iret hc h dX6_operation_81
  · have h := wp_f c h
    refine r_bipush hc (v := (-2)) (by decide) dX6_operation_67 ?_
    have h := wp_v h
    exact r_iret hc h dX6_operation_69
noncomputable def f_X6_operation (x0 : Nat) (x1 : Int32) (x2 : Int32) (x3 : Int32) (x4 : Int32) (x5 : Int32) (x6 : Int32) (σ : Hp) : Option (Int32 × Hp) := gO (chk shC x0 6) fun _ => bO (f_X6_noNode x0 x1 x4 σ) fun r1 σ2 => if r1 = 0 then (gO (chk shC x0 6) fun _ => bO (f_X6_noNode x0 x1 x5 σ2) fun r4 σ5 => if r4 = 0 then (if x2 < 0 then (f_X6_operation_b33  σ5) else (if 3 < x2 then (f_X6_operation_b33  σ5) else (if 0 ≤ x3 then (if x2 = 3 then (gO (chk shC x0 6) fun _ => bO (f_X6_noNode x0 x1 x6 σ5) fun r7 σ8 => if r7 = 0 then (f_X6_operation_b52 x0 x1 x2 x3 x4 x5 x6 σ8) else (some ((-1), σ8))) else (f_X6_operation_b52 x0 x1 x2 x3 x4 x5 x6 σ5)) else (f_X6_operation_b33  σ5)))) else (f_X6_operation_b33  σ5)) else (f_X6_operation_b33  σ2)
set_option maxRecDepth 100000 in
set_option maxHeartbeats 4000000 in
theorem t_X6_operation {l : Launch} {γ : Gm} {ad : Nat → Nat} {K : Option Value → Hp → Prop} (hc : Cx l γ 35 9 ad shC RX6 cX6_operation (some .int) K) {x0 : Nat} {x1 : Int32} {x2 : Int32} {x3 : Int32} {x4 : Int32} {x5 : Int32} {x6 : Int32} {σ : Hp} (h : wpO (f_X6_operation x0 x1 x2 x3 x4 x5 x6 σ) (KI K)) : WW l γ 35 9 ad shC 0 [(0, .ref (ad x0)), (1, .int x1), (2, .int x2), (3, .int x3), (4, .int x4), (5, .int x5), (6, .int x6)] [] σ := by
  unfold f_X6_operation at h
  refine r_aload_n hc 0 rfl rfl dX6_operation_0 ?_
  refine r_iload_n hc 1 rfl rfl dX6_operation_1 ?_
  refine r_iload hc 4 rfl dX6_operation_2 ?_
  obtain ⟨_, ek3, h⟩ := wp_g h
  obtain ⟨r1, σ2, er1, h⟩ := wp_b h
  refine r_callV hc (k0 := x0) mv_X6_noNode ml_X6_112 (c_X6_noNode er1) (chk_of ek3) cls_6.1 rfl rfl rfl (by decide) rfl (Nat.le_of_ble_eq_true rfl) dX6_operation_4 ?_
  refine r_if_ne hc (tgt := 33) dX6_operation_7 (by decide) (fun c => ?_) (fun c => ?_)
  · have h := wp_f c h
    refine r_sub [] (lv' := []) rfl ?_
    exact t_X6_operation_b33 hc h
  · have h := wp_t c h
    refine r_aload_n hc 0 rfl rfl dX6_operation_10 ?_
    refine r_iload_n hc 1 rfl rfl dX6_operation_11 ?_
    refine r_iload hc 5 rfl dX6_operation_12 ?_
    obtain ⟨_, ek6, h⟩ := wp_g h
    obtain ⟨r4, σ5, er4, h⟩ := wp_b h
    refine r_callV hc (k0 := x0) mv_X6_noNode ml_X6_112 (c_X6_noNode er4) (chk_of ek6) cls_6.1 rfl rfl rfl (by decide) rfl (Nat.le_of_ble_eq_true rfl) dX6_operation_14 ?_
    refine r_if_ne hc (tgt := 33) dX6_operation_17 (by decide) (fun c => ?_) (fun c => ?_)
    · have h := wp_f c h
      refine r_sub [] (lv' := []) rfl ?_
      exact t_X6_operation_b33 hc h
    · have h := wp_t c h
      refine r_iload_n hc 2 rfl rfl dX6_operation_20 ?_
      refine r_if_lt hc (tgt := 33) dX6_operation_21 (by decide) (fun c => ?_) (fun c => ?_)
      · have h := wp_t c h
        refine r_sub [] (lv' := []) rfl ?_
        exact t_X6_operation_b33 hc h
      · have h := wp_f c h
        refine r_iload_n hc 2 rfl rfl dX6_operation_24 ?_
        refine r_iconst hc (v := 3) (by decide) dX6_operation_25 ?_
        refine r_icmp_gt hc (tgt := 33) dX6_operation_26 (by decide) (fun c => ?_) (fun c => ?_)
        · have h := wp_t c h
          refine r_sub [] (lv' := []) rfl ?_
          exact t_X6_operation_b33 hc h
        · have h := wp_f c h
          refine r_iload_n hc 3 rfl rfl dX6_operation_29 ?_
          refine r_if_ge hc (tgt := 35) dX6_operation_30 (by decide) (fun c => ?_) (fun c => ?_)
          · have h := wp_t c h
            refine r_iload_n hc 2 rfl rfl dX6_operation_35 ?_
            refine r_iconst hc (v := 3) (by decide) dX6_operation_36 ?_
            refine r_icmp_ne hc (tgt := 52) dX6_operation_37 (by decide) (fun c => ?_) (fun c => ?_)
            · have h := wp_f c h
              exact t_X6_operation_b52 hc h
            · have h := wp_t c h
              refine r_aload_n hc 0 rfl rfl dX6_operation_40 ?_
              refine r_iload_n hc 1 rfl rfl dX6_operation_41 ?_
              refine r_iload hc 6 rfl dX6_operation_42 ?_
              obtain ⟨_, ek9, h⟩ := wp_g h
              obtain ⟨r7, σ8, er7, h⟩ := wp_b h
              refine r_callV hc (k0 := x0) mv_X6_noNode ml_X6_112 (c_X6_noNode er7) (chk_of ek9) cls_6.1 rfl rfl rfl (by decide) rfl (Nat.le_of_ble_eq_true rfl) dX6_operation_44 ?_
              refine r_if_eq hc (tgt := 52) dX6_operation_47 (by decide) (fun c => ?_) (fun c => ?_)
              · have h := wp_t c h
                exact t_X6_operation_b52 hc h
              · have h := wp_f c h
                refine r_iconst hc (v := (-1)) (by decide) dX6_operation_50 ?_
                have h := wp_v h
                exact r_iret hc h dX6_operation_51
          · have h := wp_f c h
            refine r_sub [] (lv' := []) rfl ?_
            exact t_X6_operation_b33 hc h
theorem c_X6_operation {l : Launch} {x0 : Nat} {x1 : Int32} {x2 : Int32} {x3 : Int32} {x4 : Int32} {x5 : Int32} {x6 : Int32} {σ σ' : Hp} {r : Int32} (h : f_X6_operation x0 x1 x2 x3 x4 x5 x6 σ = some (r, σ')) : Mt l yX6_operation cX6_operation 9 (some .int) 35 shC (fun ad => [.ref (ad x0), .int x1, .int x2, .int x3, .int x4, .int x5, .int x6]) σ (fun ad => some (.int r)) σ' := mt_i (own := RX6) (by decide) rfl (fun _ => Nat.le_of_ble_eq_true rfl) (fun γ ad K hc hk => t_X6_operation hc ⟨_, _, h, hk⟩)

-- NetMaps.mapsInto(LNetMaps$Net;LNetMaps$Net;)I
theorem dX6_mapsInto_0 : decode cX6_mapsInto 0 = .ok (.aload_n 0, 1) := by decide +kernel
theorem dX6_mapsInto_1 : decode cX6_mapsInto 1 = .ok (.getfield 41, 3) := by decide +kernel
theorem dX6_mapsInto_4 : decode cX6_mapsInto 4 = .ok (.aload_n 1, 1) := by decide +kernel
theorem dX6_mapsInto_5 : decode cX6_mapsInto 5 = .ok (.aload_n 2, 1) := by decide +kernel
theorem dX6_mapsInto_6 : decode cX6_mapsInto 6 = .ok (.invokevirtual 216, 3) := by decide +kernel
theorem dX6_mapsInto_9 : decode cX6_mapsInto 9 = .ok (.aload_n 0, 1) := by decide +kernel
theorem dX6_mapsInto_10 : decode cX6_mapsInto 10 = .ok (.getfield 41, 3) := by decide +kernel
theorem dX6_mapsInto_13 : decode cX6_mapsInto 13 = .ok (.invokevirtual 230, 3) := by decide +kernel
theorem dX6_mapsInto_16 : decode cX6_mapsInto 16 = .ok (.ireturn, 1) := by decide +kernel
noncomputable def f_X6_mapsInto (x0 : Nat) (x1 : Nat) (x2 : Nat) (σ : Hp) : Option (Int32 × Hp) := gO (getR shC 6 x0 7 σ) fun v1 => gO (chk shC v1 4) fun _ => bO (f_X4_freely v1 x1 x2 σ) fun _ σ3 => gO (getR shC 6 x0 7 σ3) fun v5 => gO (chk shC v5 4) fun _ => bO (f_X4_howMany v5 σ3) fun r6 σ7 => some (r6, σ7)
set_option maxRecDepth 100000 in
set_option maxHeartbeats 4000000 in
theorem t_X6_mapsInto {l : Launch} {γ : Gm} {ad : Nat → Nat} {K : Option Value → Hp → Prop} (hc : Cx l γ 35 3 ad shC RX6 cX6_mapsInto (some .int) K) {x0 : Nat} {x1 : Nat} {x2 : Nat} {σ : Hp} (h : wpO (f_X6_mapsInto x0 x1 x2 σ) (KI K)) : WW l γ 35 3 ad shC 0 [(0, .ref (ad x0)), (1, .ref (ad x1)), (2, .ref (ad x2))] [] σ := by
  unfold f_X6_mapsInto at h
  refine r_aload_n hc 0 rfl rfl dX6_mapsInto_0 ?_
  obtain ⟨v1, ev1, h⟩ := wp_g h
  refine r_getR hc ev1 fl_X6_41 rfl dX6_mapsInto_1 ?_
  refine r_aload_n hc 1 rfl rfl dX6_mapsInto_4 ?_
  refine r_aload_n hc 2 rfl rfl dX6_mapsInto_5 ?_
  obtain ⟨_, ek4, h⟩ := wp_g h
  obtain ⟨_, σ3, er2, h⟩ := wp_b h
  refine r_callV hc (k0 := v1) mv_X4_freely ml_X6_216 (c_X4_freely er2) (chk_of ek4) cls_4.1 rfl rfl rfl (by decide) rfl (Nat.le_of_ble_eq_true rfl) dX6_mapsInto_6 ?_
  refine r_aload_n hc 0 rfl rfl dX6_mapsInto_9 ?_
  obtain ⟨v5, ev5, h⟩ := wp_g h
  refine r_getR hc ev5 fl_X6_41 rfl dX6_mapsInto_10 ?_
  obtain ⟨_, ek8, h⟩ := wp_g h
  obtain ⟨r6, σ7, er6, h⟩ := wp_b h
  refine r_callV hc (k0 := v5) mv_X4_howMany ml_X6_230 (c_X4_howMany er6) (chk_of ek8) cls_4.1 rfl rfl rfl (by decide) rfl (Nat.le_of_ble_eq_true rfl) dX6_mapsInto_13 ?_
  have h := wp_v h
  exact r_iret hc h dX6_mapsInto_16
theorem c_X6_mapsInto {l : Launch} {x0 : Nat} {x1 : Nat} {x2 : Nat} {σ σ' : Hp} {r : Int32} (h : f_X6_mapsInto x0 x1 x2 σ = some (r, σ')) : Mt l yX6_mapsInto cX6_mapsInto 3 (some .int) 35 shC (fun ad => [.ref (ad x0), .ref (ad x1), .ref (ad x2)]) σ (fun ad => some (.int r)) σ' := mt_i (own := RX6) (by decide) rfl (fun _ => Nat.le_of_ble_eq_true rfl) (fun γ ad K hc hk => t_X6_mapsInto hc ⟨_, _, h, hk⟩)
