-- NetMapsModel.noneFar()V
theorem dX7_noneFar_0 : decode cX7_noneFar 0 = .ok (.iconst 0, 1) := by decide +kernel
theorem dX7_noneFar_1 : decode cX7_noneFar 1 = .ok (.istore_n 1, 1) := by decide +kernel
theorem dX7_noneFar_2 : decode cX7_noneFar 2 = .ok (.iload_n 1, 1) := by decide +kernel
theorem dX7_noneFar_3 : decode cX7_noneFar 3 = .ok (.aload_n 0, 1) := by decide +kernel
theorem dX7_noneFar_4 : decode cX7_noneFar 4 = .ok (.getfield 282, 3) := by decide +kernel
theorem dX7_noneFar_7 : decode cX7_noneFar 7 = .ok (.if_icmp .ge 16, 3) := by decide +kernel
theorem dX7_noneFar_10 : decode cX7_noneFar 10 = .ok (.aload_n 0, 1) := by decide +kernel
theorem dX7_noneFar_11 : decode cX7_noneFar 11 = .ok (.getfield 48, 3) := by decide +kernel
theorem dX7_noneFar_14 : decode cX7_noneFar 14 = .ok (.iload_n 1, 1) := by decide +kernel
theorem dX7_noneFar_15 : decode cX7_noneFar 15 = .ok (.iconst (-1), 1) := by decide +kernel
theorem dX7_noneFar_16 : decode cX7_noneFar 16 = .ok (.iastore, 1) := by decide +kernel
theorem dX7_noneFar_17 : decode cX7_noneFar 17 = .ok (.iinc 1 1, 3) := by decide +kernel
theorem dX7_noneFar_20 : decode cX7_noneFar 20 = .ok (.goto (-18), 3) := by decide +kernel
theorem dX7_noneFar_23 : decode cX7_noneFar 23 = .ok (.return_, 1) := by decide +kernel
noncomputable def f_X7_noneFar_L2 (x0 : Nat) (v : (Int32)) (σ : Hp) : Option (((Int32) ⊕ (Unit)) × Hp) := gO (getI shM 7 x0 24 σ) fun v1 => if v1 ≤ v then (some (Sum.inr (), σ)) else (gO (getR shM 7 x0 22 σ) fun v2 => gO (astI shM 0 v2 v (-1) σ) fun σ3 => some (Sum.inl (v + 1), σ3))
set_option maxRecDepth 100000 in
set_option maxHeartbeats 4000000 in
theorem t_X7_noneFar_L2 {l : Launch} {γ : Gm} {ad : Nat → Nat} {K : Option Value → Hp → Prop}  (hc : Cx l γ 1 2 ad shM RX7 cX7_noneFar none K) {x0 : Nat} {v : (Int32)} {σ : Hp} {KX : (Unit) → Hp → Prop} (h : wpO (wh (f_X7_noneFar_L2 x0) v σ) KX) (kx23 : ∀ (v : Unit) (σ : Hp), KX v σ → WW l γ 1 2 ad shM 23 [] [] σ) : WW l γ 1 2 ad shM 2 [(0, .ref (ad x0)), (1, .int v)] [] σ := by
  refine wh_W (P := fun v σ => WW l γ 1 2 ad shM 2 [(0, .ref (ad x0)), (1, .int v)] [] σ) (fun v σ h => ?_) h
  have kn : ∀ (v : (Int32)) (σ : Hp), WW l γ 1 2 ad shM 2 [(0, .ref (ad x0)), (1, .int v)] [] σ → WW l γ 1 2 ad shM 2 [(0, .ref (ad x0)), (1, .int v)] [] σ := fun _ _ h => h
  · unfold f_X7_noneFar_L2 at h
    refine r_iload_n hc 1 rfl rfl dX7_noneFar_2 ?_
    refine r_aload_n hc 0 rfl rfl dX7_noneFar_3 ?_
    obtain ⟨v1, ev1, h⟩ := wp_g h
    refine r_getI hc ev1 fl_X7_282 rfl dX7_noneFar_4 ?_
    refine r_icmp_ge hc (tgt := 23) dX7_noneFar_7 (by decide) (fun c => ?_) (fun c => ?_)
    · have h := wp_t c h
      refine r_sub [] (lv' := []) rfl ?_
      have h := wp_v h
      exact kx23 () _ h
    · have h := wp_f c h
      refine r_aload_n hc 0 rfl rfl dX7_noneFar_10 ?_
      obtain ⟨v2, ev2, h⟩ := wp_g h
      refine r_getR hc ev2 fl_X7_48 rfl dX7_noneFar_11 ?_
      refine r_iload_n hc 1 rfl rfl dX7_noneFar_14 ?_
      refine r_iconst hc (v := (-1)) (by decide) dX7_noneFar_15 ?_
      obtain ⟨σ3, eσ3, h⟩ := wp_g h
      refine r_iast hc eσ3 dX7_noneFar_16 ?_
      refine r_iincE hc (j := 1) (w := 1) (lv' := [(1, .int (v + 1)), (0, .ref (ad x0))]) rfl (by decide) rfl (by decide) rfl dX7_noneFar_17 ?_
      refine r_goto hc (tgt := 2) dX7_noneFar_20 (by decide) ?_
      refine r_sub [1, 0] (lv' := [(0, .ref (ad x0)), (1, .int (v + 1))]) rfl ?_
      have h := wp_v h
      exact kn (v + 1) _ h
noncomputable def f_X7_noneFar (x0 : Nat) (σ : Hp) : Option (Unit × Hp) := bO (wh (f_X7_noneFar_L2 x0) 0 σ) fun y1 σ2 => (some ((), σ2))
set_option maxRecDepth 100000 in
set_option maxHeartbeats 4000000 in
theorem t_X7_noneFar {l : Launch} {γ : Gm} {ad : Nat → Nat} {K : Option Value → Hp → Prop} (hc : Cx l γ 1 2 ad shM RX7 cX7_noneFar none K) {x0 : Nat} {σ : Hp} (h : wpO (f_X7_noneFar x0 σ) (KU K)) : WW l γ 1 2 ad shM 0 [(0, .ref (ad x0))] [] σ := by
  unfold f_X7_noneFar at h
  refine r_iconst hc (v := 0) (by decide) dX7_noneFar_0 ?_
  refine r_istore_nE hc (i := 1) (lv' := [(1, .int 0), (0, .ref (ad x0))]) rfl rfl (by decide) rfl dX7_noneFar_1 ?_
  refine r_sub [1, 0] (lv' := [(0, .ref (ad x0)), (1, .int 0)]) rfl ?_
  refine t_X7_noneFar_L2 hc (wp_bb h) ?_
  · intro y1 σ2 h
    have h := wp_v h
    exact r_vret hc h dX7_noneFar_23
theorem c_X7_noneFar {l : Launch} {x0 : Nat} {σ σ' : Hp} {r : Unit} (h : f_X7_noneFar x0 σ = some (r, σ')) : Mt l yX7_noneFar cX7_noneFar 2 none 1 shM (fun ad => [.ref (ad x0)]) σ (fun ad => none) σ' := mt_i (own := RX7) (by decide) rfl (fun _ => Nat.le_of_ble_eq_true rfl) (fun γ ad K hc hk => t_X7_noneFar hc ⟨_, _, h, hk⟩)

-- NetMapsModel.steps(IIII)I
theorem dX7_steps_0 : decode cX7_steps 0 = .ok (.iload_n 1, 1) := by decide +kernel
theorem dX7_steps_1 : decode cX7_steps 1 = .ok (.iload_n 2, 1) := by decide +kernel
theorem dX7_steps_2 : decode cX7_steps 2 = .ok (.invokestatic 243, 3) := by decide +kernel
theorem dX7_steps_5 : decode cX7_steps 5 = .ok (.ifCond .eq 12, 3) := by decide +kernel
theorem dX7_steps_8 : decode cX7_steps 8 = .ok (.iload_n 3, 1) := by decide +kernel
theorem dX7_steps_9 : decode cX7_steps 9 = .ok (.ifCond .lt 8, 3) := by decide +kernel
theorem dX7_steps_12 : decode cX7_steps 12 = .ok (.iload 4, 2) := by decide +kernel
theorem dX7_steps_14 : decode cX7_steps 14 = .ok (.ifCond .ge 5, 3) := by decide +kernel
theorem dX7_steps_17 : decode cX7_steps 17 = .ok (.iconst (-1), 1) := by decide +kernel
theorem dX7_steps_18 : decode cX7_steps 18 = .ok (.ireturn, 1) := by decide +kernel
theorem dX7_steps_19 : decode cX7_steps 19 = .ok (.aload_n 0, 1) := by decide +kernel
theorem dX7_steps_20 : decode cX7_steps 20 = .ok (.iload_n 1, 1) := by decide +kernel
theorem dX7_steps_21 : decode cX7_steps 21 = .ok (.iload_n 2, 1) := by decide +kernel
theorem dX7_steps_22 : decode cX7_steps 22 = .ok (.invokevirtual 246, 3) := by decide +kernel
theorem dX7_steps_25 : decode cX7_steps 25 = .ok (.ifCond .eq 6, 3) := by decide +kernel
theorem dX7_steps_28 : decode cX7_steps 28 = .ok (.bipush (-2), 2) := by decide +kernel
theorem dX7_steps_30 : decode cX7_steps 30 = .ok (.ireturn, 1) := by decide +kernel
theorem dX7_steps_31 : decode cX7_steps 31 = .ok (.aload_n 0, 1) := by decide +kernel
theorem dX7_steps_32 : decode cX7_steps 32 = .ok (.iload_n 1, 1) := by decide +kernel
theorem dX7_steps_33 : decode cX7_steps 33 = .ok (.iload_n 2, 1) := by decide +kernel
theorem dX7_steps_34 : decode cX7_steps 34 = .ok (.invokevirtual 288, 3) := by decide +kernel
theorem dX7_steps_37 : decode cX7_steps 37 = .ok (.aload_n 0, 1) := by decide +kernel
theorem dX7_steps_38 : decode cX7_steps 38 = .ok (.getfield 282, 3) := by decide +kernel
theorem dX7_steps_41 : decode cX7_steps 41 = .ok (.sipush 2000, 3) := by decide +kernel
theorem dX7_steps_44 : decode cX7_steps 44 = .ok (.if_icmp .gt 20, 3) := by decide +kernel
theorem dX7_steps_47 : decode cX7_steps 47 = .ok (.iload_n 3, 1) := by decide +kernel
theorem dX7_steps_48 : decode cX7_steps 48 = .ok (.aload_n 0, 1) := by decide +kernel
theorem dX7_steps_49 : decode cX7_steps 49 = .ok (.getfield 282, 3) := by decide +kernel
theorem dX7_steps_52 : decode cX7_steps 52 = .ok (.if_icmp .ge 12, 3) := by decide +kernel
theorem dX7_steps_55 : decode cX7_steps 55 = .ok (.iload 4, 2) := by decide +kernel
theorem dX7_steps_57 : decode cX7_steps 57 = .ok (.aload_n 0, 1) := by decide +kernel
theorem dX7_steps_58 : decode cX7_steps 58 = .ok (.getfield 282, 3) := by decide +kernel
theorem dX7_steps_61 : decode cX7_steps 61 = .ok (.if_icmp .lt 6, 3) := by decide +kernel
theorem dX7_steps_64 : decode cX7_steps 64 = .ok (.bipush (-3), 2) := by decide +kernel
theorem dX7_steps_66 : decode cX7_steps 66 = .ok (.ireturn, 1) := by decide +kernel
theorem dX7_steps_67 : decode cX7_steps 67 = .ok (.aload_n 0, 1) := by decide +kernel
theorem dX7_steps_68 : decode cX7_steps 68 = .ok (.invokevirtual 291, 3) := by decide +kernel
theorem dX7_steps_71 : decode cX7_steps 71 = .ok (.aload_n 0, 1) := by decide +kernel
theorem dX7_steps_72 : decode cX7_steps 72 = .ok (.iload_n 3, 1) := by decide +kernel
theorem dX7_steps_73 : decode cX7_steps 73 = .ok (.invokevirtual 294, 3) := by decide +kernel
theorem dX7_steps_76 : decode cX7_steps 76 = .ok (.istore 5, 2) := by decide +kernel
theorem dX7_steps_78 : decode cX7_steps 78 = .ok (.aload_n 0, 1) := by decide +kernel
theorem dX7_steps_79 : decode cX7_steps 79 = .ok (.getfield 48, 3) := by decide +kernel
theorem dX7_steps_82 : decode cX7_steps 82 = .ok (.iload 4, 2) := by decide +kernel
theorem dX7_steps_84 : decode cX7_steps 84 = .ok (.iaload, 1) := by decide +kernel
theorem dX7_steps_85 : decode cX7_steps 85 = .ok (.iconst (-1), 1) := by decide +kernel
theorem dX7_steps_86 : decode cX7_steps 86 = .ok (.if_icmp .eq 8, 3) := by decide +kernel
theorem dX7_steps_89 : decode cX7_steps 89 = .ok (.iload 5, 2) := by decide +kernel
theorem dX7_steps_91 : decode cX7_steps 91 = .ok (.ifCond .ne 8, 3) := by decide +kernel
theorem dX7_steps_94 : decode cX7_steps 94 = .ok (.bipush (-4), 2) := by decide +kernel
theorem dX7_steps_96 : decode cX7_steps 96 = .ok (.goto 10, 3) := by decide +kernel
theorem dX7_steps_99 : decode cX7_steps 99 = .ok (.aload_n 0, 1) := by decide +kernel
theorem dX7_steps_100 : decode cX7_steps 100 = .ok (.getfield 48, 3) := by decide +kernel
theorem dX7_steps_103 : decode cX7_steps 103 = .ok (.iload 4, 2) := by decide +kernel
theorem dX7_steps_105 : decode cX7_steps 105 = .ok (.iaload, 1) := by decide +kernel
theorem dX7_steps_106 : decode cX7_steps 106 = .ok (.ireturn, 1) := by decide +kernel
noncomputable def f_X7_steps_b17  (σ : Hp) : Option (Int32 × Hp) := some ((-1), σ)
set_option maxRecDepth 100000 in
set_option maxHeartbeats 4000000 in
theorem t_X7_steps_b17 {l : Launch} {γ : Gm} {ad : Nat → Nat} {K : Option Value → Hp → Prop} (hc : Cx l γ 6 6 ad shM RX7 cX7_steps (some .int) K)  {σ : Hp} (h : wpO (f_X7_steps_b17  σ) (KI K)) : WW l γ 6 6 ad shM 17 [] [] σ := by
  unfold f_X7_steps_b17 at h
  refine r_iconst hc (v := (-1)) (by decide) dX7_steps_17 ?_
  have h := wp_v h
  exact r_iret hc h dX7_steps_18
noncomputable def f_X7_steps_b64  (σ : Hp) : Option (Int32 × Hp) := some ((-3), σ)
set_option maxRecDepth 100000 in
set_option maxHeartbeats 4000000 in
theorem t_X7_steps_b64 {l : Launch} {γ : Gm} {ad : Nat → Nat} {K : Option Value → Hp → Prop} (hc : Cx l γ 6 6 ad shM RX7 cX7_steps (some .int) K)  {σ : Hp} (h : wpO (f_X7_steps_b64  σ) (KI K)) : WW l γ 6 6 ad shM 64 [] [] σ := by
  unfold f_X7_steps_b64 at h
  refine r_bipush hc (v := (-3)) (by decide) dX7_steps_64 ?_
  have h := wp_v h
  exact r_iret hc h dX7_steps_66
noncomputable def f_X7_steps_b106 (s0 : Int32) (σ : Hp) : Option (Int32 × Hp) := some (s0, σ)
set_option maxRecDepth 100000 in
set_option maxHeartbeats 4000000 in
theorem t_X7_steps_b106 {l : Launch} {γ : Gm} {ad : Nat → Nat} {K : Option Value → Hp → Prop} (hc : Cx l γ 6 6 ad shM RX7 cX7_steps (some .int) K) {s0 : Int32} {σ : Hp} (h : wpO (f_X7_steps_b106 s0 σ) (KI K)) : WW l γ 6 6 ad shM 106 [] [.int s0] σ := by
  unfold f_X7_steps_b106 at h
  have h := wp_v h
  exact r_iret hc h dX7_steps_106
noncomputable def f_X7_steps_b94  (σ : Hp) : Option (Int32 × Hp) := f_X7_steps_b106 (-4) σ
set_option maxRecDepth 100000 in
set_option maxHeartbeats 4000000 in
theorem t_X7_steps_b94 {l : Launch} {γ : Gm} {ad : Nat → Nat} {K : Option Value → Hp → Prop} (hc : Cx l γ 6 6 ad shM RX7 cX7_steps (some .int) K)  {σ : Hp} (h : wpO (f_X7_steps_b94  σ) (KI K)) : WW l γ 6 6 ad shM 94 [] [] σ := by
  unfold f_X7_steps_b94 at h
  refine r_bipush hc (v := (-4)) (by decide) dX7_steps_94 ?_
  refine r_goto hc (tgt := 106) dX7_steps_96 (by decide) ?_
  exact t_X7_steps_b106 hc h
noncomputable def f_X7_steps (x0 : Nat) (x1 : Int32) (x2 : Int32) (x3 : Int32) (x4 : Int32) (σ : Hp) : Option (Int32 × Hp) := bO (f_X7_areDrawers x1 x2 σ) fun r1 σ2 => if r1 = 0 then (f_X7_steps_b17  σ2) else (if x3 < 0 then (f_X7_steps_b17  σ2) else (if 0 ≤ x4 then (gO (chk shM x0 7) fun _ => bO (f_X7_isOneEmpty x0 x1 x2 σ2) fun r3 σ4 => if r3 = 0 then (gO (chk shM x0 7) fun _ => bO (f_X7_laysCodes x0 x1 x2 σ4) fun _ σ7 => gO (getI shM 7 x0 24 σ7) fun v9 => if 2000 < v9 then (f_X7_steps_b64  σ7) else (gO (getI shM 7 x0 24 σ7) fun v10 => if v10 ≤ x3 then (f_X7_steps_b64  σ7) else (gO (getI shM 7 x0 24 σ7) fun v11 => if x4 < v11 then (gO (chk shM x0 7) fun _ => bO (f_X7_noneFar x0 σ7) fun _ σ13 => gO (chk shM x0 7) fun _ => bO (f_X7_goes x0 x3 σ13) fun r15 σ16 => gO (getR shM 7 x0 22 σ16) fun v18 => gO (aldI shM 0 v18 x4 σ16) fun v19 => if v19 = (-1) then (f_X7_steps_b94  σ16) else (if r15 = 0 then (f_X7_steps_b94  σ16) else (gO (getR shM 7 x0 22 σ16) fun v20 => gO (aldI shM 0 v20 x4 σ16) fun v21 => f_X7_steps_b106 v21 σ16))) else (f_X7_steps_b64  σ7)))) else (some ((-2), σ4))) else (f_X7_steps_b17  σ2)))
set_option maxRecDepth 100000 in
set_option maxHeartbeats 4000000 in
theorem t_X7_steps {l : Launch} {γ : Gm} {ad : Nat → Nat} {K : Option Value → Hp → Prop} (hc : Cx l γ 6 6 ad shM RX7 cX7_steps (some .int) K) {x0 : Nat} {x1 : Int32} {x2 : Int32} {x3 : Int32} {x4 : Int32} {σ : Hp} (h : wpO (f_X7_steps x0 x1 x2 x3 x4 σ) (KI K)) : WW l γ 6 6 ad shM 0 [(0, .ref (ad x0)), (1, .int x1), (2, .int x2), (3, .int x3), (4, .int x4)] [] σ := by
  unfold f_X7_steps at h
  refine r_iload_n hc 1 rfl rfl dX7_steps_0 ?_
  refine r_iload_n hc 2 rfl rfl dX7_steps_1 ?_
  obtain ⟨r1, σ2, er1, h⟩ := wp_b h
  refine r_callS hc ms_X7_areDrawers ml_X7_243 (c_X7_areDrawers er1) rfl rfl (by decide) rfl (Nat.le_of_ble_eq_true rfl) dX7_steps_2 ?_
  refine r_if_eq hc (tgt := 17) dX7_steps_5 (by decide) (fun c => ?_) (fun c => ?_)
  · have h := wp_t c h
    refine r_sub [] (lv' := []) rfl ?_
    exact t_X7_steps_b17 hc h
  · have h := wp_f c h
    refine r_iload_n hc 3 rfl rfl dX7_steps_8 ?_
    refine r_if_lt hc (tgt := 17) dX7_steps_9 (by decide) (fun c => ?_) (fun c => ?_)
    · have h := wp_t c h
      refine r_sub [] (lv' := []) rfl ?_
      exact t_X7_steps_b17 hc h
    · have h := wp_f c h
      refine r_iload hc 4 rfl dX7_steps_12 ?_
      refine r_if_ge hc (tgt := 19) dX7_steps_14 (by decide) (fun c => ?_) (fun c => ?_)
      · have h := wp_t c h
        refine r_aload_n hc 0 rfl rfl dX7_steps_19 ?_
        refine r_iload_n hc 1 rfl rfl dX7_steps_20 ?_
        refine r_iload_n hc 2 rfl rfl dX7_steps_21 ?_
        obtain ⟨_, ek5, h⟩ := wp_g h
        obtain ⟨r3, σ4, er3, h⟩ := wp_b h
        refine r_callV hc (k0 := x0) mv_X7_isOneEmpty ml_X7_246 (c_X7_isOneEmpty er3) (chk_of ek5) cls_7.1 rfl rfl rfl (by decide) rfl (Nat.le_of_ble_eq_true rfl) dX7_steps_22 ?_
        refine r_if_eq hc (tgt := 31) dX7_steps_25 (by decide) (fun c => ?_) (fun c => ?_)
        · have h := wp_t c h
          refine r_aload_n hc 0 rfl rfl dX7_steps_31 ?_
          refine r_iload_n hc 1 rfl rfl dX7_steps_32 ?_
          refine r_iload_n hc 2 rfl rfl dX7_steps_33 ?_
          obtain ⟨_, ek8, h⟩ := wp_g h
          obtain ⟨_, σ7, er6, h⟩ := wp_b h
          refine r_callV hc (k0 := x0) mv_X7_laysCodes ml_X7_288 (c_X7_laysCodes er6) (chk_of ek8) cls_7.1 rfl rfl rfl (by decide) rfl (Nat.le_of_ble_eq_true rfl) dX7_steps_34 ?_
          refine r_aload_n hc 0 rfl rfl dX7_steps_37 ?_
          obtain ⟨v9, ev9, h⟩ := wp_g h
          refine r_getI hc ev9 fl_X7_282 rfl dX7_steps_38 ?_
          refine r_sipush hc (v := 2000) (by decide) dX7_steps_41 ?_
          refine r_icmp_gt hc (tgt := 64) dX7_steps_44 (by decide) (fun c => ?_) (fun c => ?_)
          · have h := wp_t c h
            refine r_sub [] (lv' := []) rfl ?_
            exact t_X7_steps_b64 hc h
          · have h := wp_f c h
            refine r_iload_n hc 3 rfl rfl dX7_steps_47 ?_
            refine r_aload_n hc 0 rfl rfl dX7_steps_48 ?_
            obtain ⟨v10, ev10, h⟩ := wp_g h
            refine r_getI hc ev10 fl_X7_282 rfl dX7_steps_49 ?_
            refine r_icmp_ge hc (tgt := 64) dX7_steps_52 (by decide) (fun c => ?_) (fun c => ?_)
            · have h := wp_t c h
              refine r_sub [] (lv' := []) rfl ?_
              exact t_X7_steps_b64 hc h
            · have h := wp_f c h
              refine r_iload hc 4 rfl dX7_steps_55 ?_
              refine r_aload_n hc 0 rfl rfl dX7_steps_57 ?_
              obtain ⟨v11, ev11, h⟩ := wp_g h
              refine r_getI hc ev11 fl_X7_282 rfl dX7_steps_58 ?_
              refine r_icmp_lt hc (tgt := 67) dX7_steps_61 (by decide) (fun c => ?_) (fun c => ?_)
              · have h := wp_t c h
                refine r_aload_n hc 0 rfl rfl dX7_steps_67 ?_
                obtain ⟨_, ek14, h⟩ := wp_g h
                obtain ⟨_, σ13, er12, h⟩ := wp_b h
                refine r_callV hc (k0 := x0) mv_X7_noneFar ml_X7_291 (c_X7_noneFar er12) (chk_of ek14) cls_7.1 rfl rfl rfl (by decide) rfl (Nat.le_of_ble_eq_true rfl) dX7_steps_68 ?_
                refine r_aload_n hc 0 rfl rfl dX7_steps_71 ?_
                refine r_iload_n hc 3 rfl rfl dX7_steps_72 ?_
                obtain ⟨_, ek17, h⟩ := wp_g h
                obtain ⟨r15, σ16, er15, h⟩ := wp_b h
                refine r_callV hc (k0 := x0) mv_X7_goes ml_X7_294 (c_X7_goes er15) (chk_of ek17) cls_7.1 rfl rfl rfl (by decide) rfl (Nat.le_of_ble_eq_true rfl) dX7_steps_73 ?_
                refine r_istoreE hc (i := 5) (lv' := [(5, .int r15), (0, .ref (ad x0)), (1, .int x1), (2, .int x2), (3, .int x3), (4, .int x4)]) rfl (by decide) rfl dX7_steps_76 ?_
                refine r_aload_n hc 1 rfl rfl dX7_steps_78 ?_
                obtain ⟨v18, ev18, h⟩ := wp_g h
                refine r_getR hc ev18 fl_X7_48 rfl dX7_steps_79 ?_
                refine r_iload hc 5 rfl dX7_steps_82 ?_
                obtain ⟨v19, ev19, h⟩ := wp_g h
                refine r_iald hc ev19 dX7_steps_84 ?_
                refine r_iconst hc (v := (-1)) (by decide) dX7_steps_85 ?_
                refine r_icmp_eq hc (tgt := 94) dX7_steps_86 (by decide) (fun c => ?_) (fun c => ?_)
                · have h := wp_t c h
                  refine r_sub [] (lv' := []) rfl ?_
                  exact t_X7_steps_b94 hc h
                · have h := wp_f c h
                  refine r_iload hc 0 rfl dX7_steps_89 ?_
                  refine r_if_ne hc (tgt := 99) dX7_steps_91 (by decide) (fun c => ?_) (fun c => ?_)
                  · have h := wp_f c h
                    refine r_aload_n hc 1 rfl rfl dX7_steps_99 ?_
                    obtain ⟨v20, ev20, h⟩ := wp_g h
                    refine r_getR hc ev20 fl_X7_48 rfl dX7_steps_100 ?_
                    refine r_iload hc 5 rfl dX7_steps_103 ?_
                    obtain ⟨v21, ev21, h⟩ := wp_g h
                    refine r_iald hc ev21 dX7_steps_105 ?_
                    refine r_sub [] (lv' := []) rfl ?_
                    exact t_X7_steps_b106 hc h
                  · have h := wp_t c h
                    refine r_sub [] (lv' := []) rfl ?_
                    exact t_X7_steps_b94 hc h
              · have h := wp_f c h
                refine r_sub [] (lv' := []) rfl ?_
                exact t_X7_steps_b64 hc h
        · have h := wp_f c h
          refine r_bipush hc (v := (-2)) (by decide) dX7_steps_28 ?_
          have h := wp_v h
          exact r_iret hc h dX7_steps_30
      · have h := wp_f c h
        refine r_sub [] (lv' := []) rfl ?_
        exact t_X7_steps_b17 hc h
theorem c_X7_steps {l : Launch} {x0 : Nat} {x1 : Int32} {x2 : Int32} {x3 : Int32} {x4 : Int32} {σ σ' : Hp} {r : Int32} (h : f_X7_steps x0 x1 x2 x3 x4 σ = some (r, σ')) : Mt l yX7_steps cX7_steps 6 (some .int) 6 shM (fun ad => [.ref (ad x0), .int x1, .int x2, .int x3, .int x4]) σ (fun ad => some (.int r)) σ' := mt_i (own := RX7) (by decide) rfl (fun _ => Nat.le_of_ble_eq_true rfl) (fun γ ad K hc hk => t_X7_steps hc ⟨_, _, h, hk⟩)

-- NetMapsModel.besideOf(I)I
theorem dX7_besideOf_0 : decode cX7_besideOf 0 = .ok (.iconst 0, 1) := by decide +kernel
theorem dX7_besideOf_1 : decode cX7_besideOf 1 = .ok (.istore_n 2, 1) := by decide +kernel
theorem dX7_besideOf_2 : decode cX7_besideOf 2 = .ok (.iconst 0, 1) := by decide +kernel
theorem dX7_besideOf_3 : decode cX7_besideOf 3 = .ok (.istore_n 3, 1) := by decide +kernel
theorem dX7_besideOf_4 : decode cX7_besideOf 4 = .ok (.iload_n 3, 1) := by decide +kernel
theorem dX7_besideOf_5 : decode cX7_besideOf 5 = .ok (.aload_n 0, 1) := by decide +kernel
theorem dX7_besideOf_6 : decode cX7_besideOf 6 = .ok (.getfield 282, 3) := by decide +kernel
theorem dX7_besideOf_9 : decode cX7_besideOf 9 = .ok (.if_icmp .ge 35, 3) := by decide +kernel
theorem dX7_besideOf_12 : decode cX7_besideOf 12 = .ok (.iload_n 2, 1) := by decide +kernel
theorem dX7_besideOf_13 : decode cX7_besideOf 13 = .ok (.aload_n 0, 1) := by decide +kernel
theorem dX7_besideOf_14 : decode cX7_besideOf 14 = .ok (.getfield 45, 3) := by decide +kernel
theorem dX7_besideOf_17 : decode cX7_besideOf 17 = .ok (.iload_n 1, 1) := by decide +kernel
theorem dX7_besideOf_18 : decode cX7_besideOf 18 = .ok (.iaload, 1) := by decide +kernel
theorem dX7_besideOf_19 : decode cX7_besideOf 19 = .ok (.aload_n 0, 1) := by decide +kernel
theorem dX7_besideOf_20 : decode cX7_besideOf 20 = .ok (.getfield 45, 3) := by decide +kernel
theorem dX7_besideOf_23 : decode cX7_besideOf 23 = .ok (.iload_n 3, 1) := by decide +kernel
theorem dX7_besideOf_24 : decode cX7_besideOf 24 = .ok (.iaload, 1) := by decide +kernel
theorem dX7_besideOf_25 : decode cX7_besideOf 25 = .ok (.invokestatic 285, 3) := by decide +kernel
theorem dX7_besideOf_28 : decode cX7_besideOf 28 = .ok (.ifCond .eq 7, 3) := by decide +kernel
theorem dX7_besideOf_31 : decode cX7_besideOf 31 = .ok (.iconst 1, 1) := by decide +kernel
theorem dX7_besideOf_32 : decode cX7_besideOf 32 = .ok (.goto 4, 3) := by decide +kernel
theorem dX7_besideOf_35 : decode cX7_besideOf 35 = .ok (.iconst 0, 1) := by decide +kernel
theorem dX7_besideOf_36 : decode cX7_besideOf 36 = .ok (.iadd, 1) := by decide +kernel
theorem dX7_besideOf_37 : decode cX7_besideOf 37 = .ok (.istore_n 2, 1) := by decide +kernel
theorem dX7_besideOf_38 : decode cX7_besideOf 38 = .ok (.iinc 3 1, 3) := by decide +kernel
theorem dX7_besideOf_41 : decode cX7_besideOf 41 = .ok (.goto (-37), 3) := by decide +kernel
theorem dX7_besideOf_44 : decode cX7_besideOf 44 = .ok (.iload_n 2, 1) := by decide +kernel
theorem dX7_besideOf_45 : decode cX7_besideOf 45 = .ok (.ireturn, 1) := by decide +kernel
noncomputable def f_X7_besideOf_b36 (x0 : Nat) (x1 : Int32) (x3 : Int32) (s0 : Int32) (s1 : Int32) (σ : Hp) : Option (((Int32 × Int32) ⊕ (Int32)) × Hp) := some (Sum.inl ((s0 + s1), (x3 + 1)), σ)
set_option maxRecDepth 100000 in
set_option maxHeartbeats 4000000 in
theorem t_X7_besideOf_b36 {l : Launch} {γ : Gm} {ad : Nat → Nat} {K : Option Value → Hp → Prop} (hc : Cx l γ 2 4 ad shM RX7 cX7_besideOf (some .int) K) {x0 : Nat} {x1 : Int32} {x3 : Int32} {s0 : Int32} {s1 : Int32}  {σ : Hp} {KL : ((Int32 × Int32) ⊕ (Int32)) → Hp → Prop} (h : wpO (f_X7_besideOf_b36 x0 x1 x3 s0 s1 σ) KL) (kn : ∀ (v : (Int32 × Int32)) (σ : Hp), KL (Sum.inl v) σ → WW l γ 2 4 ad shM 4 [(0, .ref (ad x0)), (1, .int x1), (2, .int v.1), (3, .int v.2)] [] σ) (kx44 : ∀ (v : Int32) (σ : Hp), KL (Sum.inr v) σ → WW l γ 2 4 ad shM 44 [(2, .int v)] [] σ) : WW l γ 2 4 ad shM 36 [(0, .ref (ad x0)), (1, .int x1), (3, .int x3)] [.int s1, .int s0] σ := by
  unfold f_X7_besideOf_b36 at h
  refine r_iadd hc dX7_besideOf_36 ?_
  refine r_istore_nE hc (i := 2) (lv' := [(2, .int (s0 + s1)), (0, .ref (ad x0)), (1, .int x1), (3, .int x3)]) rfl rfl (by decide) rfl dX7_besideOf_37 ?_
  refine r_iincE hc (j := 3) (w := 1) (lv' := [(3, .int (x3 + 1)), (2, .int (s0 + s1)), (0, .ref (ad x0)), (1, .int x1)]) rfl (by decide) rfl (by decide) rfl dX7_besideOf_38 ?_
  refine r_goto hc (tgt := 4) dX7_besideOf_41 (by decide) ?_
  refine r_sub [2, 3, 1, 0] (lv' := [(0, .ref (ad x0)), (1, .int x1), (2, .int (s0 + s1)), (3, .int (x3 + 1))]) rfl ?_
  have h := wp_v h
  exact kn ((s0 + s1), (x3 + 1)) _ h
noncomputable def f_X7_besideOf_L4 (x0 : Nat) (x1 : Int32) (v : (Int32 × Int32)) (σ : Hp) : Option (((Int32 × Int32) ⊕ (Int32)) × Hp) := gO (getI shM 7 x0 24 σ) fun v1 => if v1 ≤ v.2 then (some (Sum.inr v.1, σ)) else (gO (getR shM 7 x0 21 σ) fun v2 => gO (aldI shM 0 v2 x1 σ) fun v3 => gO (getR shM 7 x0 21 σ) fun v4 => gO (aldI shM 0 v4 v.2 σ) fun v5 => bO (f_X7_areBeside v3 v5 σ) fun r6 σ7 => if r6 = 0 then (f_X7_besideOf_b36 x0 x1 v.2 v.1 0 σ7) else (f_X7_besideOf_b36 x0 x1 v.2 v.1 1 σ7))
set_option maxRecDepth 100000 in
set_option maxHeartbeats 4000000 in
theorem t_X7_besideOf_L4 {l : Launch} {γ : Gm} {ad : Nat → Nat} {K : Option Value → Hp → Prop}  (hc : Cx l γ 2 4 ad shM RX7 cX7_besideOf (some .int) K) {x0 : Nat} {x1 : Int32} {v : (Int32 × Int32)} {σ : Hp} {KX : (Int32) → Hp → Prop} (h : wpO (wh (f_X7_besideOf_L4 x0 x1) v σ) KX) (kx44 : ∀ (v : Int32) (σ : Hp), KX v σ → WW l γ 2 4 ad shM 44 [(2, .int v)] [] σ) : WW l γ 2 4 ad shM 4 [(0, .ref (ad x0)), (1, .int x1), (2, .int v.1), (3, .int v.2)] [] σ := by
  refine wh_W (P := fun v σ => WW l γ 2 4 ad shM 4 [(0, .ref (ad x0)), (1, .int x1), (2, .int v.1), (3, .int v.2)] [] σ) (fun v σ h => ?_) h
  have kn : ∀ (v : (Int32 × Int32)) (σ : Hp), WW l γ 2 4 ad shM 4 [(0, .ref (ad x0)), (1, .int x1), (2, .int v.1), (3, .int v.2)] [] σ → WW l γ 2 4 ad shM 4 [(0, .ref (ad x0)), (1, .int x1), (2, .int v.1), (3, .int v.2)] [] σ := fun _ _ h => h
  · unfold f_X7_besideOf_L4 at h
    refine r_iload_n hc 3 rfl rfl dX7_besideOf_4 ?_
    refine r_aload_n hc 0 rfl rfl dX7_besideOf_5 ?_
    obtain ⟨v1, ev1, h⟩ := wp_g h
    refine r_getI hc ev1 fl_X7_282 rfl dX7_besideOf_6 ?_
    refine r_icmp_ge hc (tgt := 44) dX7_besideOf_9 (by decide) (fun c => ?_) (fun c => ?_)
    · have h := wp_t c h
      refine r_sub [2] (lv' := [(2, .int v.1)]) rfl ?_
      have h := wp_v h
      exact kx44 v.1 _ h
    · have h := wp_f c h
      refine r_iload_n hc 2 rfl rfl dX7_besideOf_12 ?_
      refine r_aload_n hc 0 rfl rfl dX7_besideOf_13 ?_
      obtain ⟨v2, ev2, h⟩ := wp_g h
      refine r_getR hc ev2 fl_X7_45 rfl dX7_besideOf_14 ?_
      refine r_iload_n hc 1 rfl rfl dX7_besideOf_17 ?_
      obtain ⟨v3, ev3, h⟩ := wp_g h
      refine r_iald hc ev3 dX7_besideOf_18 ?_
      refine r_aload_n hc 0 rfl rfl dX7_besideOf_19 ?_
      obtain ⟨v4, ev4, h⟩ := wp_g h
      refine r_getR hc ev4 fl_X7_45 rfl dX7_besideOf_20 ?_
      refine r_iload_n hc 3 rfl rfl dX7_besideOf_23 ?_
      obtain ⟨v5, ev5, h⟩ := wp_g h
      refine r_iald hc ev5 dX7_besideOf_24 ?_
      obtain ⟨r6, σ7, er6, h⟩ := wp_b h
      refine r_callS hc ms_X7_areBeside ml_X7_285 (c_X7_areBeside er6) rfl rfl (by decide) rfl (Nat.le_of_ble_eq_true rfl) dX7_besideOf_25 ?_
      refine r_if_eq hc (tgt := 35) dX7_besideOf_28 (by decide) (fun c => ?_) (fun c => ?_)
      · have h := wp_t c h
        refine r_iconst hc (v := 0) (by decide) dX7_besideOf_35 ?_
        refine r_sub [0, 1, 3] (lv' := [(0, .ref (ad x0)), (1, .int x1), (3, .int v.2)]) rfl ?_
        exact t_X7_besideOf_b36 hc h kn kx44
      · have h := wp_f c h
        refine r_iconst hc (v := 1) (by decide) dX7_besideOf_31 ?_
        refine r_goto hc (tgt := 36) dX7_besideOf_32 (by decide) ?_
        refine r_sub [0, 1, 3] (lv' := [(0, .ref (ad x0)), (1, .int x1), (3, .int v.2)]) rfl ?_
        exact t_X7_besideOf_b36 hc h kn kx44
noncomputable def f_X7_besideOf (x0 : Nat) (x1 : Int32) (σ : Hp) : Option (Int32 × Hp) := bO (wh (f_X7_besideOf_L4 x0 x1) (0, 0) σ) fun y1 σ2 => (some (y1, σ2))
set_option maxRecDepth 100000 in
set_option maxHeartbeats 4000000 in
theorem t_X7_besideOf {l : Launch} {γ : Gm} {ad : Nat → Nat} {K : Option Value → Hp → Prop} (hc : Cx l γ 2 4 ad shM RX7 cX7_besideOf (some .int) K) {x0 : Nat} {x1 : Int32} {σ : Hp} (h : wpO (f_X7_besideOf x0 x1 σ) (KI K)) : WW l γ 2 4 ad shM 0 [(0, .ref (ad x0)), (1, .int x1)] [] σ := by
  unfold f_X7_besideOf at h
  refine r_iconst hc (v := 0) (by decide) dX7_besideOf_0 ?_
  refine r_istore_nE hc (i := 2) (lv' := [(2, .int 0), (0, .ref (ad x0)), (1, .int x1)]) rfl rfl (by decide) rfl dX7_besideOf_1 ?_
  refine r_iconst hc (v := 0) (by decide) dX7_besideOf_2 ?_
  refine r_istore_nE hc (i := 3) (lv' := [(3, .int 0), (2, .int 0), (0, .ref (ad x0)), (1, .int x1)]) rfl rfl (by decide) rfl dX7_besideOf_3 ?_
  refine r_sub [2, 3, 1, 0] (lv' := [(0, .ref (ad x0)), (1, .int x1), (2, .int 0), (3, .int 0)]) rfl ?_
  refine t_X7_besideOf_L4 hc (wp_bb h) ?_
  · intro y1 σ2 h
    refine r_iload_n hc 0 rfl rfl dX7_besideOf_44 ?_
    have h := wp_v h
    exact r_iret hc h dX7_besideOf_45
theorem c_X7_besideOf {l : Launch} {x0 : Nat} {x1 : Int32} {σ σ' : Hp} {r : Int32} (h : f_X7_besideOf x0 x1 σ = some (r, σ')) : Mt l yX7_besideOf cX7_besideOf 4 (some .int) 2 shM (fun ad => [.ref (ad x0), .int x1]) σ (fun ad => some (.int r)) σ' := mt_i (own := RX7) (by decide) rfl (fun _ => Nat.le_of_ble_eq_true rfl) (fun γ ad K hc hk => t_X7_besideOf hc ⟨_, _, h, hk⟩)

-- NetMapsModel.crowds(III)I
theorem dX7_crowds_0 : decode cX7_crowds 0 = .ok (.iload_n 1, 1) := by decide +kernel
theorem dX7_crowds_1 : decode cX7_crowds 1 = .ok (.iload_n 2, 1) := by decide +kernel
theorem dX7_crowds_2 : decode cX7_crowds 2 = .ok (.invokestatic 243, 3) := by decide +kernel
theorem dX7_crowds_5 : decode cX7_crowds 5 = .ok (.ifCond .eq 12, 3) := by decide +kernel
theorem dX7_crowds_8 : decode cX7_crowds 8 = .ok (.iload_n 3, 1) := by decide +kernel
theorem dX7_crowds_9 : decode cX7_crowds 9 = .ok (.iconst 0, 1) := by decide +kernel
theorem dX7_crowds_10 : decode cX7_crowds 10 = .ok (.iconst 3, 1) := by decide +kernel
theorem dX7_crowds_11 : decode cX7_crowds 11 = .ok (.invokestatic 81, 3) := by decide +kernel
theorem dX7_crowds_14 : decode cX7_crowds 14 = .ok (.ifCond .ne 5, 3) := by decide +kernel
theorem dX7_crowds_17 : decode cX7_crowds 17 = .ok (.iconst (-1), 1) := by decide +kernel
theorem dX7_crowds_18 : decode cX7_crowds 18 = .ok (.ireturn, 1) := by decide +kernel
theorem dX7_crowds_19 : decode cX7_crowds 19 = .ok (.aload_n 0, 1) := by decide +kernel
theorem dX7_crowds_20 : decode cX7_crowds 20 = .ok (.iload_n 1, 1) := by decide +kernel
theorem dX7_crowds_21 : decode cX7_crowds 21 = .ok (.iload_n 2, 1) := by decide +kernel
theorem dX7_crowds_22 : decode cX7_crowds 22 = .ok (.invokevirtual 246, 3) := by decide +kernel
theorem dX7_crowds_25 : decode cX7_crowds 25 = .ok (.ifCond .eq 6, 3) := by decide +kernel
theorem dX7_crowds_28 : decode cX7_crowds 28 = .ok (.bipush (-2), 2) := by decide +kernel
theorem dX7_crowds_30 : decode cX7_crowds 30 = .ok (.ireturn, 1) := by decide +kernel
theorem dX7_crowds_31 : decode cX7_crowds 31 = .ok (.aload_n 0, 1) := by decide +kernel
theorem dX7_crowds_32 : decode cX7_crowds 32 = .ok (.iload_n 1, 1) := by decide +kernel
theorem dX7_crowds_33 : decode cX7_crowds 33 = .ok (.iload_n 2, 1) := by decide +kernel
theorem dX7_crowds_34 : decode cX7_crowds 34 = .ok (.invokevirtual 288, 3) := by decide +kernel
theorem dX7_crowds_37 : decode cX7_crowds 37 = .ok (.aload_n 0, 1) := by decide +kernel
theorem dX7_crowds_38 : decode cX7_crowds 38 = .ok (.getfield 282, 3) := by decide +kernel
theorem dX7_crowds_41 : decode cX7_crowds 41 = .ok (.sipush 2000, 3) := by decide +kernel
theorem dX7_crowds_44 : decode cX7_crowds 44 = .ok (.if_icmp .le 6, 3) := by decide +kernel
theorem dX7_crowds_47 : decode cX7_crowds 47 = .ok (.bipush (-3), 2) := by decide +kernel
theorem dX7_crowds_49 : decode cX7_crowds 49 = .ok (.ireturn, 1) := by decide +kernel
theorem dX7_crowds_50 : decode cX7_crowds 50 = .ok (.iconst 0, 1) := by decide +kernel
theorem dX7_crowds_51 : decode cX7_crowds 51 = .ok (.istore 4, 2) := by decide +kernel
theorem dX7_crowds_53 : decode cX7_crowds 53 = .ok (.iconst 0, 1) := by decide +kernel
theorem dX7_crowds_54 : decode cX7_crowds 54 = .ok (.istore 5, 2) := by decide +kernel
theorem dX7_crowds_56 : decode cX7_crowds 56 = .ok (.aload_n 0, 1) := by decide +kernel
theorem dX7_crowds_57 : decode cX7_crowds 57 = .ok (.invokevirtual 291, 3) := by decide +kernel
theorem dX7_crowds_60 : decode cX7_crowds 60 = .ok (.iconst 0, 1) := by decide +kernel
theorem dX7_crowds_61 : decode cX7_crowds 61 = .ok (.istore 6, 2) := by decide +kernel
theorem dX7_crowds_63 : decode cX7_crowds 63 = .ok (.iload 6, 2) := by decide +kernel
theorem dX7_crowds_65 : decode cX7_crowds 65 = .ok (.aload_n 0, 1) := by decide +kernel
theorem dX7_crowds_66 : decode cX7_crowds 66 = .ok (.getfield 282, 3) := by decide +kernel
theorem dX7_crowds_69 : decode cX7_crowds 69 = .ok (.if_icmp .ge 95, 3) := by decide +kernel
theorem dX7_crowds_72 : decode cX7_crowds 72 = .ok (.iload_n 3, 1) := by decide +kernel
theorem dX7_crowds_73 : decode cX7_crowds 73 = .ok (.ifCond .eq 8, 3) := by decide +kernel
theorem dX7_crowds_76 : decode cX7_crowds 76 = .ok (.iload_n 3, 1) := by decide +kernel
theorem dX7_crowds_77 : decode cX7_crowds 77 = .ok (.iconst 3, 1) := by decide +kernel
theorem dX7_crowds_78 : decode cX7_crowds 78 = .ok (.if_icmp .ne 39, 3) := by decide +kernel
theorem dX7_crowds_81 : decode cX7_crowds 81 = .ok (.aload_n 0, 1) := by decide +kernel
theorem dX7_crowds_82 : decode cX7_crowds 82 = .ok (.iload 6, 2) := by decide +kernel
theorem dX7_crowds_84 : decode cX7_crowds 84 = .ok (.invokevirtual 297, 3) := by decide +kernel
theorem dX7_crowds_87 : decode cX7_crowds 87 = .ok (.istore 7, 2) := by decide +kernel
theorem dX7_crowds_89 : decode cX7_crowds 89 = .ok (.iload 4, 2) := by decide +kernel
theorem dX7_crowds_91 : decode cX7_crowds 91 = .ok (.iload_n 3, 1) := by decide +kernel
theorem dX7_crowds_92 : decode cX7_crowds 92 = .ok (.iconst 3, 1) := by decide +kernel
theorem dX7_crowds_93 : decode cX7_crowds 93 = .ok (.if_icmp .ne 8, 3) := by decide +kernel
theorem dX7_crowds_96 : decode cX7_crowds 96 = .ok (.iload 7, 2) := by decide +kernel
theorem dX7_crowds_98 : decode cX7_crowds 98 = .ok (.goto 13, 3) := by decide +kernel
theorem dX7_crowds_101 : decode cX7_crowds 101 = .ok (.iload 7, 2) := by decide +kernel
theorem dX7_crowds_103 : decode cX7_crowds 103 = .ok (.ifCond .ne 7, 3) := by decide +kernel
theorem dX7_crowds_106 : decode cX7_crowds 106 = .ok (.iconst 1, 1) := by decide +kernel
theorem dX7_crowds_107 : decode cX7_crowds 107 = .ok (.goto 4, 3) := by decide +kernel
theorem dX7_crowds_110 : decode cX7_crowds 110 = .ok (.iconst 0, 1) := by decide +kernel
theorem dX7_crowds_111 : decode cX7_crowds 111 = .ok (.iadd, 1) := by decide +kernel
theorem dX7_crowds_112 : decode cX7_crowds 112 = .ok (.istore 4, 2) := by decide +kernel
theorem dX7_crowds_114 : decode cX7_crowds 114 = .ok (.goto 44, 3) := by decide +kernel
theorem dX7_crowds_117 : decode cX7_crowds 117 = .ok (.aload_n 0, 1) := by decide +kernel
theorem dX7_crowds_118 : decode cX7_crowds 118 = .ok (.getfield 48, 3) := by decide +kernel
theorem dX7_crowds_121 : decode cX7_crowds 121 = .ok (.iload 6, 2) := by decide +kernel
theorem dX7_crowds_123 : decode cX7_crowds 123 = .ok (.iaload, 1) := by decide +kernel
theorem dX7_crowds_124 : decode cX7_crowds 124 = .ok (.iconst (-1), 1) := by decide +kernel
theorem dX7_crowds_125 : decode cX7_crowds 125 = .ok (.if_icmp .ne 33, 3) := by decide +kernel
theorem dX7_crowds_128 : decode cX7_crowds 128 = .ok (.aload_n 0, 1) := by decide +kernel
theorem dX7_crowds_129 : decode cX7_crowds 129 = .ok (.iload 6, 2) := by decide +kernel
theorem dX7_crowds_131 : decode cX7_crowds 131 = .ok (.invokevirtual 294, 3) := by decide +kernel
theorem dX7_crowds_134 : decode cX7_crowds 134 = .ok (.istore 7, 2) := by decide +kernel
theorem dX7_crowds_136 : decode cX7_crowds 136 = .ok (.iload 4, 2) := by decide +kernel
theorem dX7_crowds_138 : decode cX7_crowds 138 = .ok (.iconst 1, 1) := by decide +kernel
theorem dX7_crowds_139 : decode cX7_crowds 139 = .ok (.iadd, 1) := by decide +kernel
theorem dX7_crowds_140 : decode cX7_crowds 140 = .ok (.istore 4, 2) := by decide +kernel
theorem dX7_crowds_142 : decode cX7_crowds 142 = .ok (.iload 7, 2) := by decide +kernel
theorem dX7_crowds_144 : decode cX7_crowds 144 = .ok (.iload 5, 2) := by decide +kernel
theorem dX7_crowds_146 : decode cX7_crowds 146 = .ok (.if_icmp .le 8, 3) := by decide +kernel
theorem dX7_crowds_149 : decode cX7_crowds 149 = .ok (.iload 7, 2) := by decide +kernel
theorem dX7_crowds_151 : decode cX7_crowds 151 = .ok (.goto 5, 3) := by decide +kernel
theorem dX7_crowds_154 : decode cX7_crowds 154 = .ok (.iload 5, 2) := by decide +kernel
theorem dX7_crowds_156 : decode cX7_crowds 156 = .ok (.istore 5, 2) := by decide +kernel
theorem dX7_crowds_158 : decode cX7_crowds 158 = .ok (.iinc 6 1, 3) := by decide +kernel
theorem dX7_crowds_161 : decode cX7_crowds 161 = .ok (.goto (-98), 3) := by decide +kernel
theorem dX7_crowds_164 : decode cX7_crowds 164 = .ok (.iload_n 3, 1) := by decide +kernel
theorem dX7_crowds_165 : decode cX7_crowds 165 = .ok (.iconst 2, 1) := by decide +kernel
theorem dX7_crowds_166 : decode cX7_crowds 166 = .ok (.if_icmp .ne 8, 3) := by decide +kernel
theorem dX7_crowds_169 : decode cX7_crowds 169 = .ok (.iload 5, 2) := by decide +kernel
theorem dX7_crowds_171 : decode cX7_crowds 171 = .ok (.goto 17, 3) := by decide +kernel
theorem dX7_crowds_174 : decode cX7_crowds 174 = .ok (.iload_n 3, 1) := by decide +kernel
theorem dX7_crowds_175 : decode cX7_crowds 175 = .ok (.iconst 3, 1) := by decide +kernel
theorem dX7_crowds_176 : decode cX7_crowds 176 = .ok (.if_icmp .ne 10, 3) := by decide +kernel
theorem dX7_crowds_179 : decode cX7_crowds 179 = .ok (.iload 4, 2) := by decide +kernel
theorem dX7_crowds_181 : decode cX7_crowds 181 = .ok (.iconst 2, 1) := by decide +kernel
theorem dX7_crowds_182 : decode cX7_crowds 182 = .ok (.idiv, 1) := by decide +kernel
theorem dX7_crowds_183 : decode cX7_crowds 183 = .ok (.goto 5, 3) := by decide +kernel
theorem dX7_crowds_186 : decode cX7_crowds 186 = .ok (.iload 4, 2) := by decide +kernel
theorem dX7_crowds_188 : decode cX7_crowds 188 = .ok (.ireturn, 1) := by decide +kernel
noncomputable def f_X7_crowds_b17  (σ : Hp) : Option (Int32 × Hp) := some ((-1), σ)
set_option maxRecDepth 100000 in
set_option maxHeartbeats 4000000 in
theorem t_X7_crowds_b17 {l : Launch} {γ : Gm} {ad : Nat → Nat} {K : Option Value → Hp → Prop} (hc : Cx l γ 6 8 ad shM RX7 cX7_crowds (some .int) K)  {σ : Hp} (h : wpO (f_X7_crowds_b17  σ) (KI K)) : WW l γ 6 8 ad shM 17 [] [] σ := by
  unfold f_X7_crowds_b17 at h
  refine r_iconst hc (v := (-1)) (by decide) dX7_crowds_17 ?_
  have h := wp_v h
  exact r_iret hc h dX7_crowds_18
noncomputable def f_X7_crowds_b158 (x0 : Nat) (x3 : Int32) (x4 : Int32) (x5 : Int32) (x6 : Int32) (σ : Hp) : Option (((Int32 × Int32 × Int32) ⊕ (Int32 × Int32)) × Hp) := some (Sum.inl (x4, x5, (x6 + 1)), σ)
set_option maxRecDepth 100000 in
set_option maxHeartbeats 4000000 in
theorem t_X7_crowds_b158 {l : Launch} {γ : Gm} {ad : Nat → Nat} {K : Option Value → Hp → Prop} (hc : Cx l γ 6 8 ad shM RX7 cX7_crowds (some .int) K) {x0 : Nat} {x3 : Int32} {x4 : Int32} {x5 : Int32} {x6 : Int32}  {σ : Hp} {KL : ((Int32 × Int32 × Int32) ⊕ (Int32 × Int32)) → Hp → Prop} (h : wpO (f_X7_crowds_b158 x0 x3 x4 x5 x6 σ) KL) (kn : ∀ (v : (Int32 × Int32 × Int32)) (σ : Hp), KL (Sum.inl v) σ → WW l γ 6 8 ad shM 63 [(0, .ref (ad x0)), (3, .int x3), (4, .int v.1), (5, .int v.2.1), (6, .int v.2.2)] [] σ) (kx164 : ∀ (v : Int32 × Int32) (σ : Hp), KL (Sum.inr v) σ → WW l γ 6 8 ad shM 164 [(3, .int x3), (4, .int v.1), (5, .int v.2)] [] σ) : WW l γ 6 8 ad shM 158 [(0, .ref (ad x0)), (3, .int x3), (4, .int x4), (5, .int x5), (6, .int x6)] [] σ := by
  unfold f_X7_crowds_b158 at h
  refine r_iincE hc (j := 4) (w := 1) (lv' := [(6, .int (x6 + 1)), (0, .ref (ad x0)), (3, .int x3), (4, .int x4), (5, .int x5)]) rfl (by decide) rfl (by decide) rfl dX7_crowds_158 ?_
  refine r_goto hc (tgt := 63) dX7_crowds_161 (by decide) ?_
  refine r_sub [1, 2, 3, 4, 0] (lv' := [(0, .ref (ad x0)), (3, .int x3), (4, .int x4), (5, .int x5), (6, .int (x6 + 1))]) rfl ?_
  have h := wp_v h
  exact kn (x4, x5, (x6 + 1)) _ h
noncomputable def f_X7_crowds_b111 (x0 : Nat) (x3 : Int32) (x5 : Int32) (x6 : Int32) (s0 : Int32) (s1 : Int32) (σ : Hp) : Option (((Int32 × Int32 × Int32) ⊕ (Int32 × Int32)) × Hp) := f_X7_crowds_b158 x0 x3 (s0 + s1) x5 x6 σ
set_option maxRecDepth 100000 in
set_option maxHeartbeats 4000000 in
theorem t_X7_crowds_b111 {l : Launch} {γ : Gm} {ad : Nat → Nat} {K : Option Value → Hp → Prop} (hc : Cx l γ 6 8 ad shM RX7 cX7_crowds (some .int) K) {x0 : Nat} {x3 : Int32} {x5 : Int32} {x6 : Int32} {s0 : Int32} {s1 : Int32}  {σ : Hp} {KL : ((Int32 × Int32 × Int32) ⊕ (Int32 × Int32)) → Hp → Prop} (h : wpO (f_X7_crowds_b111 x0 x3 x5 x6 s0 s1 σ) KL) (kn : ∀ (v : (Int32 × Int32 × Int32)) (σ : Hp), KL (Sum.inl v) σ → WW l γ 6 8 ad shM 63 [(0, .ref (ad x0)), (3, .int x3), (4, .int v.1), (5, .int v.2.1), (6, .int v.2.2)] [] σ) (kx164 : ∀ (v : Int32 × Int32) (σ : Hp), KL (Sum.inr v) σ → WW l γ 6 8 ad shM 164 [(3, .int x3), (4, .int v.1), (5, .int v.2)] [] σ) : WW l γ 6 8 ad shM 111 [(0, .ref (ad x0)), (3, .int x3), (5, .int x5), (6, .int x6)] [.int s1, .int s0] σ := by
  unfold f_X7_crowds_b111 at h
  refine r_iadd hc dX7_crowds_111 ?_
  refine r_istoreE hc (i := 4) (lv' := [(4, .int (s0 + s1)), (0, .ref (ad x0)), (3, .int x3), (5, .int x5), (6, .int x6)]) rfl (by decide) rfl dX7_crowds_112 ?_
  refine r_goto hc (tgt := 158) dX7_crowds_114 (by decide) ?_
  refine r_sub [1, 2, 0, 3, 4] (lv' := [(0, .ref (ad x0)), (3, .int x3), (4, .int (s0 + s1)), (5, .int x5), (6, .int x6)]) rfl ?_
  exact t_X7_crowds_b158 hc h kn kx164
noncomputable def f_X7_crowds_b81 (x0 : Nat) (x3 : Int32) (x4 : Int32) (x5 : Int32) (x6 : Int32) (σ : Hp) : Option (((Int32 × Int32 × Int32) ⊕ (Int32 × Int32)) × Hp) := gO (chk shM x0 7) fun _ => bO (f_X7_besideOf x0 x6 σ) fun r1 σ2 => if x3 = 3 then (f_X7_crowds_b111 x0 x3 x5 x6 x4 r1 σ2) else (if r1 = 0 then (f_X7_crowds_b111 x0 x3 x5 x6 x4 1 σ2) else (f_X7_crowds_b111 x0 x3 x5 x6 x4 0 σ2))
set_option maxRecDepth 100000 in
set_option maxHeartbeats 4000000 in
theorem t_X7_crowds_b81 {l : Launch} {γ : Gm} {ad : Nat → Nat} {K : Option Value → Hp → Prop} (hc : Cx l γ 6 8 ad shM RX7 cX7_crowds (some .int) K) {x0 : Nat} {x3 : Int32} {x4 : Int32} {x5 : Int32} {x6 : Int32}  {σ : Hp} {KL : ((Int32 × Int32 × Int32) ⊕ (Int32 × Int32)) → Hp → Prop} (h : wpO (f_X7_crowds_b81 x0 x3 x4 x5 x6 σ) KL) (kn : ∀ (v : (Int32 × Int32 × Int32)) (σ : Hp), KL (Sum.inl v) σ → WW l γ 6 8 ad shM 63 [(0, .ref (ad x0)), (3, .int x3), (4, .int v.1), (5, .int v.2.1), (6, .int v.2.2)] [] σ) (kx164 : ∀ (v : Int32 × Int32) (σ : Hp), KL (Sum.inr v) σ → WW l γ 6 8 ad shM 164 [(3, .int x3), (4, .int v.1), (5, .int v.2)] [] σ) : WW l γ 6 8 ad shM 81 [(0, .ref (ad x0)), (3, .int x3), (4, .int x4), (5, .int x5), (6, .int x6)] [] σ := by
  unfold f_X7_crowds_b81 at h
  refine r_aload_n hc 0 rfl rfl dX7_crowds_81 ?_
  refine r_iload hc 4 rfl dX7_crowds_82 ?_
  obtain ⟨_, ek3, h⟩ := wp_g h
  obtain ⟨r1, σ2, er1, h⟩ := wp_b h
  refine r_callV hc (k0 := x0) mv_X7_besideOf ml_X7_297 (c_X7_besideOf er1) (chk_of ek3) cls_7.1 rfl rfl rfl (by decide) rfl (Nat.le_of_ble_eq_true rfl) dX7_crowds_84 ?_
  refine r_istoreE hc (i := 7) (lv' := [(7, .int r1), (0, .ref (ad x0)), (3, .int x3), (4, .int x4), (5, .int x5), (6, .int x6)]) rfl (by decide) rfl dX7_crowds_87 ?_
  refine r_iload hc 3 rfl dX7_crowds_89 ?_
  refine r_iload_n hc 2 rfl rfl dX7_crowds_91 ?_
  refine r_iconst hc (v := 3) (by decide) dX7_crowds_92 ?_
  refine r_icmp_ne hc (tgt := 101) dX7_crowds_93 (by decide) (fun c => ?_) (fun c => ?_)
  · have h := wp_f c h
    refine r_iload hc 0 rfl dX7_crowds_101 ?_
    refine r_if_ne hc (tgt := 110) dX7_crowds_103 (by decide) (fun c => ?_) (fun c => ?_)
    · have h := wp_f c h
      refine r_iconst hc (v := 0) (by decide) dX7_crowds_110 ?_
      refine r_sub [1, 2, 4, 5] (lv' := [(0, .ref (ad x0)), (3, .int x3), (5, .int x5), (6, .int x6)]) rfl ?_
      exact t_X7_crowds_b111 hc h kn kx164
    · have h := wp_t c h
      refine r_iconst hc (v := 1) (by decide) dX7_crowds_106 ?_
      refine r_goto hc (tgt := 111) dX7_crowds_107 (by decide) ?_
      refine r_sub [1, 2, 4, 5] (lv' := [(0, .ref (ad x0)), (3, .int x3), (5, .int x5), (6, .int x6)]) rfl ?_
      exact t_X7_crowds_b111 hc h kn kx164
  · have h := wp_t c h
    refine r_iload hc 0 rfl dX7_crowds_96 ?_
    refine r_goto hc (tgt := 111) dX7_crowds_98 (by decide) ?_
    refine r_sub [1, 2, 4, 5] (lv' := [(0, .ref (ad x0)), (3, .int x3), (5, .int x5), (6, .int x6)]) rfl ?_
    exact t_X7_crowds_b111 hc h kn kx164
noncomputable def f_X7_crowds_b156 (x0 : Nat) (x3 : Int32) (x4 : Int32) (x6 : Int32) (s0 : Int32) (σ : Hp) : Option (((Int32 × Int32 × Int32) ⊕ (Int32 × Int32)) × Hp) := f_X7_crowds_b158 x0 x3 x4 s0 x6 σ
set_option maxRecDepth 100000 in
set_option maxHeartbeats 4000000 in
theorem t_X7_crowds_b156 {l : Launch} {γ : Gm} {ad : Nat → Nat} {K : Option Value → Hp → Prop} (hc : Cx l γ 6 8 ad shM RX7 cX7_crowds (some .int) K) {x0 : Nat} {x3 : Int32} {x4 : Int32} {x6 : Int32} {s0 : Int32}  {σ : Hp} {KL : ((Int32 × Int32 × Int32) ⊕ (Int32 × Int32)) → Hp → Prop} (h : wpO (f_X7_crowds_b156 x0 x3 x4 x6 s0 σ) KL) (kn : ∀ (v : (Int32 × Int32 × Int32)) (σ : Hp), KL (Sum.inl v) σ → WW l γ 6 8 ad shM 63 [(0, .ref (ad x0)), (3, .int x3), (4, .int v.1), (5, .int v.2.1), (6, .int v.2.2)] [] σ) (kx164 : ∀ (v : Int32 × Int32) (σ : Hp), KL (Sum.inr v) σ → WW l γ 6 8 ad shM 164 [(3, .int x3), (4, .int v.1), (5, .int v.2)] [] σ) : WW l γ 6 8 ad shM 156 [(0, .ref (ad x0)), (3, .int x3), (4, .int x4), (6, .int x6)] [.int s0] σ := by
  unfold f_X7_crowds_b156 at h
  refine r_istoreE hc (i := 5) (lv' := [(5, .int s0), (0, .ref (ad x0)), (3, .int x3), (4, .int x4), (6, .int x6)]) rfl (by decide) rfl dX7_crowds_156 ?_
  refine r_sub [1, 2, 3, 0, 4] (lv' := [(0, .ref (ad x0)), (3, .int x3), (4, .int x4), (5, .int s0), (6, .int x6)]) rfl ?_
  exact t_X7_crowds_b158 hc h kn kx164
noncomputable def f_X7_crowds_L63 (x0 : Nat) (x3 : Int32) (v : (Int32 × Int32 × Int32)) (σ : Hp) : Option (((Int32 × Int32 × Int32) ⊕ (Int32 × Int32)) × Hp) := gO (getI shM 7 x0 24 σ) fun v1 => if v1 ≤ v.2.2 then (some (Sum.inr (v.1, v.2.1), σ)) else (if x3 = 0 then (f_X7_crowds_b81 x0 x3 v.1 v.2.1 v.2.2 σ) else (if x3 = 3 then (f_X7_crowds_b81 x0 x3 v.1 v.2.1 v.2.2 σ) else (gO (getR shM 7 x0 22 σ) fun v2 => gO (aldI shM 0 v2 v.2.2 σ) fun v3 => if v3 = (-1) then (gO (chk shM x0 7) fun _ => bO (f_X7_goes x0 v.2.2 σ) fun r4 σ5 => if r4 ≤ v.2.1 then (f_X7_crowds_b156 x0 x3 (v.1 + 1) v.2.2 v.2.1 σ5) else (f_X7_crowds_b156 x0 x3 (v.1 + 1) v.2.2 r4 σ5)) else (f_X7_crowds_b158 x0 x3 v.1 v.2.1 v.2.2 σ))))
set_option maxRecDepth 100000 in
set_option maxHeartbeats 4000000 in
theorem t_X7_crowds_L63 {l : Launch} {γ : Gm} {ad : Nat → Nat} {K : Option Value → Hp → Prop}  (hc : Cx l γ 6 8 ad shM RX7 cX7_crowds (some .int) K) {x0 : Nat} {x3 : Int32} {v : (Int32 × Int32 × Int32)} {σ : Hp} {KX : (Int32 × Int32) → Hp → Prop} (h : wpO (wh (f_X7_crowds_L63 x0 x3) v σ) KX) (kx164 : ∀ (v : Int32 × Int32) (σ : Hp), KX v σ → WW l γ 6 8 ad shM 164 [(3, .int x3), (4, .int v.1), (5, .int v.2)] [] σ) : WW l γ 6 8 ad shM 63 [(0, .ref (ad x0)), (3, .int x3), (4, .int v.1), (5, .int v.2.1), (6, .int v.2.2)] [] σ := by
  refine wh_W (P := fun v σ => WW l γ 6 8 ad shM 63 [(0, .ref (ad x0)), (3, .int x3), (4, .int v.1), (5, .int v.2.1), (6, .int v.2.2)] [] σ) (fun v σ h => ?_) h
  have kn : ∀ (v : (Int32 × Int32 × Int32)) (σ : Hp), WW l γ 6 8 ad shM 63 [(0, .ref (ad x0)), (3, .int x3), (4, .int v.1), (5, .int v.2.1), (6, .int v.2.2)] [] σ → WW l γ 6 8 ad shM 63 [(0, .ref (ad x0)), (3, .int x3), (4, .int v.1), (5, .int v.2.1), (6, .int v.2.2)] [] σ := fun _ _ h => h
  · unfold f_X7_crowds_L63 at h
    refine r_iload hc 4 rfl dX7_crowds_63 ?_
    refine r_aload_n hc 0 rfl rfl dX7_crowds_65 ?_
    obtain ⟨v1, ev1, h⟩ := wp_g h
    refine r_getI hc ev1 fl_X7_282 rfl dX7_crowds_66 ?_
    refine r_icmp_ge hc (tgt := 164) dX7_crowds_69 (by decide) (fun c => ?_) (fun c => ?_)
    · have h := wp_t c h
      refine r_sub [1, 2, 3] (lv' := [(3, .int x3), (4, .int v.1), (5, .int v.2.1)]) rfl ?_
      have h := wp_v h
      exact kx164 (v.1, v.2.1) _ h
    · have h := wp_f c h
      refine r_iload_n hc 1 rfl rfl dX7_crowds_72 ?_
      refine r_if_eq hc (tgt := 81) dX7_crowds_73 (by decide) (fun c => ?_) (fun c => ?_)
      · have h := wp_t c h
        exact t_X7_crowds_b81 hc h kn kx164
      · have h := wp_f c h
        refine r_iload_n hc 1 rfl rfl dX7_crowds_76 ?_
        refine r_iconst hc (v := 3) (by decide) dX7_crowds_77 ?_
        refine r_icmp_ne hc (tgt := 117) dX7_crowds_78 (by decide) (fun c => ?_) (fun c => ?_)
        · have h := wp_f c h
          refine r_aload_n hc 0 rfl rfl dX7_crowds_117 ?_
          obtain ⟨v2, ev2, h⟩ := wp_g h
          refine r_getR hc ev2 fl_X7_48 rfl dX7_crowds_118 ?_
          refine r_iload hc 4 rfl dX7_crowds_121 ?_
          obtain ⟨v3, ev3, h⟩ := wp_g h
          refine r_iald hc ev3 dX7_crowds_123 ?_
          refine r_iconst hc (v := (-1)) (by decide) dX7_crowds_124 ?_
          refine r_icmp_ne hc (tgt := 158) dX7_crowds_125 (by decide) (fun c => ?_) (fun c => ?_)
          · have h := wp_f c h
            exact t_X7_crowds_b158 hc h kn kx164
          · have h := wp_t c h
            refine r_aload_n hc 0 rfl rfl dX7_crowds_128 ?_
            refine r_iload hc 4 rfl dX7_crowds_129 ?_
            obtain ⟨_, ek6, h⟩ := wp_g h
            obtain ⟨r4, σ5, er4, h⟩ := wp_b h
            refine r_callV hc (k0 := x0) mv_X7_goes ml_X7_294 (c_X7_goes er4) (chk_of ek6) cls_7.1 rfl rfl rfl (by decide) rfl (Nat.le_of_ble_eq_true rfl) dX7_crowds_131 ?_
            refine r_istoreE hc (i := 7) (lv' := [(7, .int r4), (0, .ref (ad x0)), (3, .int x3), (4, .int v.1), (5, .int v.2.1), (6, .int v.2.2)]) rfl (by decide) rfl dX7_crowds_134 ?_
            refine r_iload hc 3 rfl dX7_crowds_136 ?_
            refine r_iconst hc (v := 1) (by decide) dX7_crowds_138 ?_
            refine r_iadd hc dX7_crowds_139 ?_
            refine r_istoreE hc (i := 4) (lv' := [(4, .int (v.1 + 1)), (7, .int r4), (0, .ref (ad x0)), (3, .int x3), (5, .int v.2.1), (6, .int v.2.2)]) rfl (by decide) rfl dX7_crowds_140 ?_
            refine r_iload hc 1 rfl dX7_crowds_142 ?_
            refine r_iload hc 4 rfl dX7_crowds_144 ?_
            refine r_icmp_le hc (tgt := 154) dX7_crowds_146 (by decide) (fun c => ?_) (fun c => ?_)
            · have h := wp_t c h
              refine r_iload hc 4 rfl dX7_crowds_154 ?_
              refine r_sub [2, 3, 0, 5] (lv' := [(0, .ref (ad x0)), (3, .int x3), (4, .int (v.1 + 1)), (6, .int v.2.2)]) rfl ?_
              exact t_X7_crowds_b156 hc h kn kx164
            · have h := wp_f c h
              refine r_iload hc 1 rfl dX7_crowds_149 ?_
              refine r_goto hc (tgt := 156) dX7_crowds_151 (by decide) ?_
              refine r_sub [2, 3, 0, 5] (lv' := [(0, .ref (ad x0)), (3, .int x3), (4, .int (v.1 + 1)), (6, .int v.2.2)]) rfl ?_
              exact t_X7_crowds_b156 hc h kn kx164
        · have h := wp_t c h
          exact t_X7_crowds_b81 hc h kn kx164
noncomputable def f_X7_crowds_b188 (s0 : Int32) (σ : Hp) : Option (Int32 × Hp) := some (s0, σ)
set_option maxRecDepth 100000 in
set_option maxHeartbeats 4000000 in
theorem t_X7_crowds_b188 {l : Launch} {γ : Gm} {ad : Nat → Nat} {K : Option Value → Hp → Prop} (hc : Cx l γ 6 8 ad shM RX7 cX7_crowds (some .int) K) {s0 : Int32} {σ : Hp} (h : wpO (f_X7_crowds_b188 s0 σ) (KI K)) : WW l γ 6 8 ad shM 188 [] [.int s0] σ := by
  unfold f_X7_crowds_b188 at h
  have h := wp_v h
  exact r_iret hc h dX7_crowds_188
noncomputable def f_X7_crowds (x0 : Nat) (x1 : Int32) (x2 : Int32) (x3 : Int32) (σ : Hp) : Option (Int32 × Hp) := bO (f_X7_areDrawers x1 x2 σ) fun r1 σ2 => if r1 = 0 then (f_X7_crowds_b17  σ2) else (bO (f_X7_in x3 0 3 σ2) fun r3 σ4 => if r3 = 0 then (f_X7_crowds_b17  σ4) else (gO (chk shM x0 7) fun _ => bO (f_X7_isOneEmpty x0 x1 x2 σ4) fun r5 σ6 => if r5 = 0 then (gO (chk shM x0 7) fun _ => bO (f_X7_laysCodes x0 x1 x2 σ6) fun _ σ9 => gO (getI shM 7 x0 24 σ9) fun v11 => if v11 ≤ 2000 then (gO (chk shM x0 7) fun _ => bO (f_X7_noneFar x0 σ9) fun _ σ13 => bO (wh (f_X7_crowds_L63 x0 x3) (0, 0, 0) σ13) fun y15 σ16 => (if x3 = 2 then (f_X7_crowds_b188 y15.2 σ16) else (if x3 = 3 then (gO (nz 2) fun z17 => f_X7_crowds_b188 (y15.1 / 2) σ16) else (f_X7_crowds_b188 y15.1 σ16)))) else (some ((-3), σ9))) else (some ((-2), σ6))))
set_option maxRecDepth 100000 in
set_option maxHeartbeats 4000000 in
theorem t_X7_crowds {l : Launch} {γ : Gm} {ad : Nat → Nat} {K : Option Value → Hp → Prop} (hc : Cx l γ 6 8 ad shM RX7 cX7_crowds (some .int) K) {x0 : Nat} {x1 : Int32} {x2 : Int32} {x3 : Int32} {σ : Hp} (h : wpO (f_X7_crowds x0 x1 x2 x3 σ) (KI K)) : WW l γ 6 8 ad shM 0 [(0, .ref (ad x0)), (1, .int x1), (2, .int x2), (3, .int x3)] [] σ := by
  unfold f_X7_crowds at h
  refine r_iload_n hc 1 rfl rfl dX7_crowds_0 ?_
  refine r_iload_n hc 2 rfl rfl dX7_crowds_1 ?_
  obtain ⟨r1, σ2, er1, h⟩ := wp_b h
  refine r_callS hc ms_X7_areDrawers ml_X7_243 (c_X7_areDrawers er1) rfl rfl (by decide) rfl (Nat.le_of_ble_eq_true rfl) dX7_crowds_2 ?_
  refine r_if_eq hc (tgt := 17) dX7_crowds_5 (by decide) (fun c => ?_) (fun c => ?_)
  · have h := wp_t c h
    refine r_sub [] (lv' := []) rfl ?_
    exact t_X7_crowds_b17 hc h
  · have h := wp_f c h
    refine r_iload_n hc 3 rfl rfl dX7_crowds_8 ?_
    refine r_iconst hc (v := 0) (by decide) dX7_crowds_9 ?_
    refine r_iconst hc (v := 3) (by decide) dX7_crowds_10 ?_
    obtain ⟨r3, σ4, er3, h⟩ := wp_b h
    refine r_callS hc ms_X7_in ml_X7_81 (c_X7_in er3) rfl rfl (by decide) rfl (Nat.le_of_ble_eq_true rfl) dX7_crowds_11 ?_
    refine r_if_ne hc (tgt := 19) dX7_crowds_14 (by decide) (fun c => ?_) (fun c => ?_)
    · have h := wp_f c h
      refine r_aload_n hc 0 rfl rfl dX7_crowds_19 ?_
      refine r_iload_n hc 1 rfl rfl dX7_crowds_20 ?_
      refine r_iload_n hc 2 rfl rfl dX7_crowds_21 ?_
      obtain ⟨_, ek7, h⟩ := wp_g h
      obtain ⟨r5, σ6, er5, h⟩ := wp_b h
      refine r_callV hc (k0 := x0) mv_X7_isOneEmpty ml_X7_246 (c_X7_isOneEmpty er5) (chk_of ek7) cls_7.1 rfl rfl rfl (by decide) rfl (Nat.le_of_ble_eq_true rfl) dX7_crowds_22 ?_
      refine r_if_eq hc (tgt := 31) dX7_crowds_25 (by decide) (fun c => ?_) (fun c => ?_)
      · have h := wp_t c h
        refine r_aload_n hc 0 rfl rfl dX7_crowds_31 ?_
        refine r_iload_n hc 1 rfl rfl dX7_crowds_32 ?_
        refine r_iload_n hc 2 rfl rfl dX7_crowds_33 ?_
        obtain ⟨_, ek10, h⟩ := wp_g h
        obtain ⟨_, σ9, er8, h⟩ := wp_b h
        refine r_callV hc (k0 := x0) mv_X7_laysCodes ml_X7_288 (c_X7_laysCodes er8) (chk_of ek10) cls_7.1 rfl rfl rfl (by decide) rfl (Nat.le_of_ble_eq_true rfl) dX7_crowds_34 ?_
        refine r_aload_n hc 0 rfl rfl dX7_crowds_37 ?_
        obtain ⟨v11, ev11, h⟩ := wp_g h
        refine r_getI hc ev11 fl_X7_282 rfl dX7_crowds_38 ?_
        refine r_sipush hc (v := 2000) (by decide) dX7_crowds_41 ?_
        refine r_icmp_le hc (tgt := 50) dX7_crowds_44 (by decide) (fun c => ?_) (fun c => ?_)
        · have h := wp_t c h
          refine r_iconst hc (v := 0) (by decide) dX7_crowds_50 ?_
          refine r_istoreE hc (i := 4) (lv' := [(4, .int 0), (0, .ref (ad x0)), (1, .int x1), (2, .int x2), (3, .int x3)]) rfl (by decide) rfl dX7_crowds_51 ?_
          refine r_iconst hc (v := 0) (by decide) dX7_crowds_53 ?_
          refine r_istoreE hc (i := 5) (lv' := [(5, .int 0), (4, .int 0), (0, .ref (ad x0)), (1, .int x1), (2, .int x2), (3, .int x3)]) rfl (by decide) rfl dX7_crowds_54 ?_
          refine r_aload_n hc 2 rfl rfl dX7_crowds_56 ?_
          obtain ⟨_, ek14, h⟩ := wp_g h
          obtain ⟨_, σ13, er12, h⟩ := wp_b h
          refine r_callV hc (k0 := x0) mv_X7_noneFar ml_X7_291 (c_X7_noneFar er12) (chk_of ek14) cls_7.1 rfl rfl rfl (by decide) rfl (Nat.le_of_ble_eq_true rfl) dX7_crowds_57 ?_
          refine r_iconst hc (v := 0) (by decide) dX7_crowds_60 ?_
          refine r_istoreE hc (i := 6) (lv' := [(6, .int 0), (5, .int 0), (4, .int 0), (0, .ref (ad x0)), (1, .int x1), (2, .int x2), (3, .int x3)]) rfl (by decide) rfl dX7_crowds_61 ?_
          refine r_sub [3, 6, 2, 1, 0] (lv' := [(0, .ref (ad x0)), (3, .int x3), (4, .int 0), (5, .int 0), (6, .int 0)]) rfl ?_
          refine t_X7_crowds_L63 hc (wp_bb h) ?_
          · intro y15 σ16 h
            refine r_iload_n hc 0 rfl rfl dX7_crowds_164 ?_
            refine r_iconst hc (v := 2) (by decide) dX7_crowds_165 ?_
            refine r_icmp_ne hc (tgt := 174) dX7_crowds_166 (by decide) (fun c => ?_) (fun c => ?_)
            · have h := wp_f c h
              refine r_iload_n hc 0 rfl rfl dX7_crowds_174 ?_
              refine r_iconst hc (v := 3) (by decide) dX7_crowds_175 ?_
              refine r_icmp_ne hc (tgt := 186) dX7_crowds_176 (by decide) (fun c => ?_) (fun c => ?_)
              · have h := wp_f c h
                refine r_iload hc 1 rfl dX7_crowds_186 ?_
                refine r_sub [] (lv' := []) rfl ?_
                exact t_X7_crowds_b188 hc h
              · have h := wp_t c h
                refine r_iload hc 1 rfl dX7_crowds_179 ?_
                refine r_iconst hc (v := 2) (by decide) dX7_crowds_181 ?_
                obtain ⟨z17, ez17, h⟩ := wp_g h
                refine r_idiv hc ez17 dX7_crowds_182 ?_
                refine r_goto hc (tgt := 188) dX7_crowds_183 (by decide) ?_
                refine r_sub [] (lv' := []) rfl ?_
                exact t_X7_crowds_b188 hc h
            · have h := wp_t c h
              refine r_iload hc 2 rfl dX7_crowds_169 ?_
              refine r_goto hc (tgt := 188) dX7_crowds_171 (by decide) ?_
              refine r_sub [] (lv' := []) rfl ?_
              exact t_X7_crowds_b188 hc h
        · have h := wp_f c h
          refine r_bipush hc (v := (-3)) (by decide) dX7_crowds_47 ?_
          have h := wp_v h
          exact r_iret hc h dX7_crowds_49
      · have h := wp_f c h
        refine r_bipush hc (v := (-2)) (by decide) dX7_crowds_28 ?_
        have h := wp_v h
        exact r_iret hc h dX7_crowds_30
    · have h := wp_t c h
      refine r_sub [] (lv' := []) rfl ?_
      exact t_X7_crowds_b17 hc h
theorem c_X7_crowds {l : Launch} {x0 : Nat} {x1 : Int32} {x2 : Int32} {x3 : Int32} {σ σ' : Hp} {r : Int32} (h : f_X7_crowds x0 x1 x2 x3 σ = some (r, σ')) : Mt l yX7_crowds cX7_crowds 8 (some .int) 6 shM (fun ad => [.ref (ad x0), .int x1, .int x2, .int x3]) σ (fun ad => some (.int r)) σ' := mt_i (own := RX7) (by decide) rfl (fun _ => Nat.le_of_ble_eq_true rfl) (fun γ ad K hc hk => t_X7_crowds hc ⟨_, _, h, hk⟩)

-- NetMapsModel.laysPlaces(II)V
theorem dX7_laysPlaces_0 : decode cX7_laysPlaces 0 = .ok (.aload_n 0, 1) := by decide +kernel
theorem dX7_laysPlaces_1 : decode cX7_laysPlaces 1 = .ok (.aload_n 0, 1) := by decide +kernel
theorem dX7_laysPlaces_2 : decode cX7_laysPlaces 2 = .ok (.getfield 7, 3) := by decide +kernel
theorem dX7_laysPlaces_5 : decode cX7_laysPlaces 5 = .ok (.iload_n 1, 1) := by decide +kernel
theorem dX7_laysPlaces_6 : decode cX7_laysPlaces 6 = .ok (.iaload, 1) := by decide +kernel
theorem dX7_laysPlaces_7 : decode cX7_laysPlaces 7 = .ok (.putfield 300, 3) := by decide +kernel
theorem dX7_laysPlaces_10 : decode cX7_laysPlaces 10 = .ok (.aload_n 0, 1) := by decide +kernel
theorem dX7_laysPlaces_11 : decode cX7_laysPlaces 11 = .ok (.iload_n 2, 1) := by decide +kernel
theorem dX7_laysPlaces_12 : decode cX7_laysPlaces 12 = .ok (.iconst 3, 1) := by decide +kernel
theorem dX7_laysPlaces_13 : decode cX7_laysPlaces 13 = .ok (.if_icmp .ne 20, 3) := by decide +kernel
theorem dX7_laysPlaces_16 : decode cX7_laysPlaces 16 = .ok (.aload_n 0, 1) := by decide +kernel
theorem dX7_laysPlaces_17 : decode cX7_laysPlaces 17 = .ok (.getfield 300, 3) := by decide +kernel
theorem dX7_laysPlaces_20 : decode cX7_laysPlaces 20 = .ok (.aload_n 0, 1) := by decide +kernel
theorem dX7_laysPlaces_21 : decode cX7_laysPlaces 21 = .ok (.getfield 300, 3) := by decide +kernel
theorem dX7_laysPlaces_24 : decode cX7_laysPlaces 24 = .ok (.imul, 1) := by decide +kernel
theorem dX7_laysPlaces_25 : decode cX7_laysPlaces 25 = .ok (.aload_n 0, 1) := by decide +kernel
theorem dX7_laysPlaces_26 : decode cX7_laysPlaces 26 = .ok (.getfield 300, 3) := by decide +kernel
theorem dX7_laysPlaces_29 : decode cX7_laysPlaces 29 = .ok (.imul, 1) := by decide +kernel
theorem dX7_laysPlaces_30 : decode cX7_laysPlaces 30 = .ok (.goto 12, 3) := by decide +kernel
theorem dX7_laysPlaces_33 : decode cX7_laysPlaces 33 = .ok (.aload_n 0, 1) := by decide +kernel
theorem dX7_laysPlaces_34 : decode cX7_laysPlaces 34 = .ok (.getfield 300, 3) := by decide +kernel
theorem dX7_laysPlaces_37 : decode cX7_laysPlaces 37 = .ok (.aload_n 0, 1) := by decide +kernel
theorem dX7_laysPlaces_38 : decode cX7_laysPlaces 38 = .ok (.getfield 300, 3) := by decide +kernel
theorem dX7_laysPlaces_41 : decode cX7_laysPlaces 41 = .ok (.imul, 1) := by decide +kernel
theorem dX7_laysPlaces_42 : decode cX7_laysPlaces 42 = .ok (.putfield 303, 3) := by decide +kernel
theorem dX7_laysPlaces_45 : decode cX7_laysPlaces 45 = .ok (.iconst 0, 1) := by decide +kernel
theorem dX7_laysPlaces_46 : decode cX7_laysPlaces 46 = .ok (.istore_n 3, 1) := by decide +kernel
theorem dX7_laysPlaces_47 : decode cX7_laysPlaces 47 = .ok (.iload_n 3, 1) := by decide +kernel
theorem dX7_laysPlaces_48 : decode cX7_laysPlaces 48 = .ok (.aload_n 0, 1) := by decide +kernel
theorem dX7_laysPlaces_49 : decode cX7_laysPlaces 49 = .ok (.getfield 303, 3) := by decide +kernel
theorem dX7_laysPlaces_52 : decode cX7_laysPlaces 52 = .ok (.if_icmp .ge 173, 3) := by decide +kernel
theorem dX7_laysPlaces_55 : decode cX7_laysPlaces 55 = .ok (.iload_n 2, 1) := by decide +kernel
theorem dX7_laysPlaces_56 : decode cX7_laysPlaces 56 = .ok (.iconst 3, 1) := by decide +kernel
theorem dX7_laysPlaces_57 : decode cX7_laysPlaces 57 = .ok (.if_icmp .ne 17, 3) := by decide +kernel
theorem dX7_laysPlaces_60 : decode cX7_laysPlaces 60 = .ok (.iload_n 3, 1) := by decide +kernel
theorem dX7_laysPlaces_61 : decode cX7_laysPlaces 61 = .ok (.aload_n 0, 1) := by decide +kernel
theorem dX7_laysPlaces_62 : decode cX7_laysPlaces 62 = .ok (.getfield 300, 3) := by decide +kernel
theorem dX7_laysPlaces_65 : decode cX7_laysPlaces 65 = .ok (.idiv, 1) := by decide +kernel
theorem dX7_laysPlaces_66 : decode cX7_laysPlaces 66 = .ok (.aload_n 0, 1) := by decide +kernel
theorem dX7_laysPlaces_67 : decode cX7_laysPlaces 67 = .ok (.getfield 300, 3) := by decide +kernel
theorem dX7_laysPlaces_70 : decode cX7_laysPlaces 70 = .ok (.idiv, 1) := by decide +kernel
theorem dX7_laysPlaces_71 : decode cX7_laysPlaces 71 = .ok (.goto 9, 3) := by decide +kernel
theorem dX7_laysPlaces_74 : decode cX7_laysPlaces 74 = .ok (.iload_n 3, 1) := by decide +kernel
theorem dX7_laysPlaces_75 : decode cX7_laysPlaces 75 = .ok (.aload_n 0, 1) := by decide +kernel
theorem dX7_laysPlaces_76 : decode cX7_laysPlaces 76 = .ok (.getfield 300, 3) := by decide +kernel
theorem dX7_laysPlaces_79 : decode cX7_laysPlaces 79 = .ok (.idiv, 1) := by decide +kernel
theorem dX7_laysPlaces_80 : decode cX7_laysPlaces 80 = .ok (.istore 4, 2) := by decide +kernel
theorem dX7_laysPlaces_82 : decode cX7_laysPlaces 82 = .ok (.iload_n 2, 1) := by decide +kernel
theorem dX7_laysPlaces_83 : decode cX7_laysPlaces 83 = .ok (.iconst 3, 1) := by decide +kernel
theorem dX7_laysPlaces_84 : decode cX7_laysPlaces 84 = .ok (.if_icmp .ne 17, 3) := by decide +kernel
theorem dX7_laysPlaces_87 : decode cX7_laysPlaces 87 = .ok (.iload_n 3, 1) := by decide +kernel
theorem dX7_laysPlaces_88 : decode cX7_laysPlaces 88 = .ok (.aload_n 0, 1) := by decide +kernel
theorem dX7_laysPlaces_89 : decode cX7_laysPlaces 89 = .ok (.getfield 300, 3) := by decide +kernel
theorem dX7_laysPlaces_92 : decode cX7_laysPlaces 92 = .ok (.idiv, 1) := by decide +kernel
theorem dX7_laysPlaces_93 : decode cX7_laysPlaces 93 = .ok (.aload_n 0, 1) := by decide +kernel
theorem dX7_laysPlaces_94 : decode cX7_laysPlaces 94 = .ok (.getfield 300, 3) := by decide +kernel
theorem dX7_laysPlaces_97 : decode cX7_laysPlaces 97 = .ok (.irem, 1) := by decide +kernel
theorem dX7_laysPlaces_98 : decode cX7_laysPlaces 98 = .ok (.goto 9, 3) := by decide +kernel
theorem dX7_laysPlaces_101 : decode cX7_laysPlaces 101 = .ok (.iload_n 3, 1) := by decide +kernel
theorem dX7_laysPlaces_102 : decode cX7_laysPlaces 102 = .ok (.aload_n 0, 1) := by decide +kernel
theorem dX7_laysPlaces_103 : decode cX7_laysPlaces 103 = .ok (.getfield 300, 3) := by decide +kernel
theorem dX7_laysPlaces_106 : decode cX7_laysPlaces 106 = .ok (.irem, 1) := by decide +kernel
theorem dX7_laysPlaces_107 : decode cX7_laysPlaces 107 = .ok (.istore 5, 2) := by decide +kernel
theorem dX7_laysPlaces_109 : decode cX7_laysPlaces 109 = .ok (.iload_n 3, 1) := by decide +kernel
theorem dX7_laysPlaces_110 : decode cX7_laysPlaces 110 = .ok (.aload_n 0, 1) := by decide +kernel
theorem dX7_laysPlaces_111 : decode cX7_laysPlaces 111 = .ok (.getfield 300, 3) := by decide +kernel
theorem dX7_laysPlaces_114 : decode cX7_laysPlaces 114 = .ok (.irem, 1) := by decide +kernel
theorem dX7_laysPlaces_115 : decode cX7_laysPlaces 115 = .ok (.istore 6, 2) := by decide +kernel
theorem dX7_laysPlaces_117 : decode cX7_laysPlaces 117 = .ok (.iload_n 2, 1) := by decide +kernel
theorem dX7_laysPlaces_118 : decode cX7_laysPlaces 118 = .ok (.iconst 3, 1) := by decide +kernel
theorem dX7_laysPlaces_119 : decode cX7_laysPlaces 119 = .ok (.if_icmp .ne 32, 3) := by decide +kernel
theorem dX7_laysPlaces_122 : decode cX7_laysPlaces 122 = .ok (.iload 4, 2) := by decide +kernel
theorem dX7_laysPlaces_124 : decode cX7_laysPlaces 124 = .ok (.iload 5, 2) := by decide +kernel
theorem dX7_laysPlaces_126 : decode cX7_laysPlaces 126 = .ok (.if_icmp .eq 17, 3) := by decide +kernel
theorem dX7_laysPlaces_129 : decode cX7_laysPlaces 129 = .ok (.iload 4, 2) := by decide +kernel
theorem dX7_laysPlaces_131 : decode cX7_laysPlaces 131 = .ok (.iload 6, 2) := by decide +kernel
theorem dX7_laysPlaces_133 : decode cX7_laysPlaces 133 = .ok (.if_icmp .eq 10, 3) := by decide +kernel
theorem dX7_laysPlaces_136 : decode cX7_laysPlaces 136 = .ok (.iload 5, 2) := by decide +kernel
theorem dX7_laysPlaces_138 : decode cX7_laysPlaces 138 = .ok (.iload 6, 2) := by decide +kernel
theorem dX7_laysPlaces_140 : decode cX7_laysPlaces 140 = .ok (.if_icmp .ne 7, 3) := by decide +kernel
theorem dX7_laysPlaces_143 : decode cX7_laysPlaces 143 = .ok (.iconst 1, 1) := by decide +kernel
theorem dX7_laysPlaces_144 : decode cX7_laysPlaces 144 = .ok (.goto 23, 3) := by decide +kernel
theorem dX7_laysPlaces_147 : decode cX7_laysPlaces 147 = .ok (.iconst 0, 1) := by decide +kernel
theorem dX7_laysPlaces_148 : decode cX7_laysPlaces 148 = .ok (.goto 19, 3) := by decide +kernel
theorem dX7_laysPlaces_151 : decode cX7_laysPlaces 151 = .ok (.iload_n 2, 1) := by decide +kernel
theorem dX7_laysPlaces_152 : decode cX7_laysPlaces 152 = .ok (.ifCond .le 14, 3) := by decide +kernel
theorem dX7_laysPlaces_155 : decode cX7_laysPlaces 155 = .ok (.iload 4, 2) := by decide +kernel
theorem dX7_laysPlaces_157 : decode cX7_laysPlaces 157 = .ok (.iload 5, 2) := by decide +kernel
theorem dX7_laysPlaces_159 : decode cX7_laysPlaces 159 = .ok (.if_icmp .ne 7, 3) := by decide +kernel
theorem dX7_laysPlaces_162 : decode cX7_laysPlaces 162 = .ok (.iconst 1, 1) := by decide +kernel
theorem dX7_laysPlaces_163 : decode cX7_laysPlaces 163 = .ok (.goto 4, 3) := by decide +kernel
theorem dX7_laysPlaces_166 : decode cX7_laysPlaces 166 = .ok (.iconst 0, 1) := by decide +kernel
theorem dX7_laysPlaces_167 : decode cX7_laysPlaces 167 = .ok (.istore 7, 2) := by decide +kernel
theorem dX7_laysPlaces_169 : decode cX7_laysPlaces 169 = .ok (.aload_n 0, 1) := by decide +kernel
theorem dX7_laysPlaces_170 : decode cX7_laysPlaces 170 = .ok (.getfield 57, 3) := by decide +kernel
theorem dX7_laysPlaces_173 : decode cX7_laysPlaces 173 = .ok (.iload_n 3, 1) := by decide +kernel
theorem dX7_laysPlaces_174 : decode cX7_laysPlaces 174 = .ok (.iload 7, 2) := by decide +kernel
theorem dX7_laysPlaces_176 : decode cX7_laysPlaces 176 = .ok (.ifCond .ne 7, 3) := by decide +kernel
theorem dX7_laysPlaces_179 : decode cX7_laysPlaces 179 = .ok (.iconst 1, 1) := by decide +kernel
theorem dX7_laysPlaces_180 : decode cX7_laysPlaces 180 = .ok (.goto 4, 3) := by decide +kernel
theorem dX7_laysPlaces_183 : decode cX7_laysPlaces 183 = .ok (.iconst 0, 1) := by decide +kernel
theorem dX7_laysPlaces_184 : decode cX7_laysPlaces 184 = .ok (.bastore, 1) := by decide +kernel
theorem dX7_laysPlaces_185 : decode cX7_laysPlaces 185 = .ok (.aload_n 0, 1) := by decide +kernel
theorem dX7_laysPlaces_186 : decode cX7_laysPlaces 186 = .ok (.getfield 54, 3) := by decide +kernel
theorem dX7_laysPlaces_189 : decode cX7_laysPlaces 189 = .ok (.iload_n 3, 1) := by decide +kernel
theorem dX7_laysPlaces_190 : decode cX7_laysPlaces 190 = .ok (.iload 7, 2) := by decide +kernel
theorem dX7_laysPlaces_192 : decode cX7_laysPlaces 192 = .ok (.ifCond .ne 7, 3) := by decide +kernel
theorem dX7_laysPlaces_195 : decode cX7_laysPlaces 195 = .ok (.iconst 0, 1) := by decide +kernel
theorem dX7_laysPlaces_196 : decode cX7_laysPlaces 196 = .ok (.goto 22, 3) := by decide +kernel
theorem dX7_laysPlaces_199 : decode cX7_laysPlaces 199 = .ok (.iload_n 2, 1) := by decide +kernel
theorem dX7_laysPlaces_200 : decode cX7_laysPlaces 200 = .ok (.iconst 3, 1) := by decide +kernel
theorem dX7_laysPlaces_201 : decode cX7_laysPlaces 201 = .ok (.if_icmp .ne 15, 3) := by decide +kernel
theorem dX7_laysPlaces_204 : decode cX7_laysPlaces 204 = .ok (.iload 4, 2) := by decide +kernel
theorem dX7_laysPlaces_206 : decode cX7_laysPlaces 206 = .ok (.iload 5, 2) := by decide +kernel
theorem dX7_laysPlaces_208 : decode cX7_laysPlaces 208 = .ok (.if_icmp .eq 8, 3) := by decide +kernel
theorem dX7_laysPlaces_211 : decode cX7_laysPlaces 211 = .ok (.iload 6, 2) := by decide +kernel
theorem dX7_laysPlaces_213 : decode cX7_laysPlaces 213 = .ok (.goto 5, 3) := by decide +kernel
theorem dX7_laysPlaces_216 : decode cX7_laysPlaces 216 = .ok (.iload 4, 2) := by decide +kernel
theorem dX7_laysPlaces_218 : decode cX7_laysPlaces 218 = .ok (.iastore, 1) := by decide +kernel
theorem dX7_laysPlaces_219 : decode cX7_laysPlaces 219 = .ok (.iinc 3 1, 3) := by decide +kernel
theorem dX7_laysPlaces_222 : decode cX7_laysPlaces 222 = .ok (.goto (-175), 3) := by decide +kernel
theorem dX7_laysPlaces_225 : decode cX7_laysPlaces 225 = .ok (.return_, 1) := by decide +kernel
noncomputable def f_X7_laysPlaces_b218 (x0 : Nat) (x2 : Int32) (x3 : Int32) (s0 : Nat) (s1 : Int32) (s2 : Int32) (σ : Hp) : Option (((Int32) ⊕ (Unit)) × Hp) := gO (astI shM 0 s0 s1 s2 σ) fun σ1 => some (Sum.inl (x3 + 1), σ1)
set_option maxRecDepth 100000 in
set_option maxHeartbeats 4000000 in
theorem t_X7_laysPlaces_b218 {l : Launch} {γ : Gm} {ad : Nat → Nat} {K : Option Value → Hp → Prop} (hc : Cx l γ 1 8 ad shM RX7 cX7_laysPlaces none K) {x0 : Nat} {x2 : Int32} {x3 : Int32} {s0 : Nat} {s1 : Int32} {s2 : Int32}  {σ : Hp} {KL : ((Int32) ⊕ (Unit)) → Hp → Prop} (h : wpO (f_X7_laysPlaces_b218 x0 x2 x3 s0 s1 s2 σ) KL) (kn : ∀ (v : (Int32)) (σ : Hp), KL (Sum.inl v) σ → WW l γ 1 8 ad shM 47 [(0, .ref (ad x0)), (2, .int x2), (3, .int v)] [] σ) (kx225 : ∀ (v : Unit) (σ : Hp), KL (Sum.inr v) σ → WW l γ 1 8 ad shM 225 [] [] σ) : WW l γ 1 8 ad shM 218 [(0, .ref (ad x0)), (2, .int x2), (3, .int x3)] [.int s2, .int s1, .ref (ad s0)] σ := by
  unfold f_X7_laysPlaces_b218 at h
  obtain ⟨σ1, eσ1, h⟩ := wp_g h
  refine r_iast hc eσ1 dX7_laysPlaces_218 ?_
  refine r_iincE hc (j := 2) (w := 1) (lv' := [(3, .int (x3 + 1)), (0, .ref (ad x0)), (2, .int x2)]) rfl (by decide) rfl (by decide) rfl dX7_laysPlaces_219 ?_
  refine r_goto hc (tgt := 47) dX7_laysPlaces_222 (by decide) ?_
  refine r_sub [1, 2, 0] (lv' := [(0, .ref (ad x0)), (2, .int x2), (3, .int (x3 + 1))]) rfl ?_
  have h := wp_v h
  exact kn (x3 + 1) _ h
noncomputable def f_X7_laysPlaces_b216 (x0 : Nat) (x2 : Int32) (x3 : Int32) (x4 : Int32) (s0 : Nat) (s1 : Int32) (σ : Hp) : Option (((Int32) ⊕ (Unit)) × Hp) := f_X7_laysPlaces_b218 x0 x2 x3 s0 s1 x4 σ
set_option maxRecDepth 100000 in
set_option maxHeartbeats 4000000 in
theorem t_X7_laysPlaces_b216 {l : Launch} {γ : Gm} {ad : Nat → Nat} {K : Option Value → Hp → Prop} (hc : Cx l γ 1 8 ad shM RX7 cX7_laysPlaces none K) {x0 : Nat} {x2 : Int32} {x3 : Int32} {x4 : Int32} {s0 : Nat} {s1 : Int32}  {σ : Hp} {KL : ((Int32) ⊕ (Unit)) → Hp → Prop} (h : wpO (f_X7_laysPlaces_b216 x0 x2 x3 x4 s0 s1 σ) KL) (kn : ∀ (v : (Int32)) (σ : Hp), KL (Sum.inl v) σ → WW l γ 1 8 ad shM 47 [(0, .ref (ad x0)), (2, .int x2), (3, .int v)] [] σ) (kx225 : ∀ (v : Unit) (σ : Hp), KL (Sum.inr v) σ → WW l γ 1 8 ad shM 225 [] [] σ) : WW l γ 1 8 ad shM 216 [(0, .ref (ad x0)), (2, .int x2), (3, .int x3), (4, .int x4)] [.int s1, .ref (ad s0)] σ := by
  unfold f_X7_laysPlaces_b216 at h
  refine r_iload hc 3 rfl dX7_laysPlaces_216 ?_
  refine r_sub [0, 1, 2] (lv' := [(0, .ref (ad x0)), (2, .int x2), (3, .int x3)]) rfl ?_
  exact t_X7_laysPlaces_b218 hc h kn kx225
noncomputable def f_X7_laysPlaces_b184 (x0 : Nat) (x2 : Int32) (x3 : Int32) (x4 : Int32) (x5 : Int32) (x6 : Int32) (x7 : Int32) (s0 : Nat) (s1 : Int32) (s2 : Int32) (σ : Hp) : Option (((Int32) ⊕ (Unit)) × Hp) := gO (astI shM 2 s0 s1 s2 σ) fun σ1 => gO (getR shM 7 x0 25 σ1) fun v2 => if x7 = 0 then (f_X7_laysPlaces_b218 x0 x2 x3 v2 x3 0 σ1) else (if x2 = 3 then (if x4 = x5 then (f_X7_laysPlaces_b216 x0 x2 x3 x4 v2 x3 σ1) else (f_X7_laysPlaces_b218 x0 x2 x3 v2 x3 x6 σ1)) else (f_X7_laysPlaces_b216 x0 x2 x3 x4 v2 x3 σ1))
set_option maxRecDepth 100000 in
set_option maxHeartbeats 4000000 in
theorem t_X7_laysPlaces_b184 {l : Launch} {γ : Gm} {ad : Nat → Nat} {K : Option Value → Hp → Prop} (hc : Cx l γ 1 8 ad shM RX7 cX7_laysPlaces none K) {x0 : Nat} {x2 : Int32} {x3 : Int32} {x4 : Int32} {x5 : Int32} {x6 : Int32} {x7 : Int32} {s0 : Nat} {s1 : Int32} {s2 : Int32}  {σ : Hp} {KL : ((Int32) ⊕ (Unit)) → Hp → Prop} (h : wpO (f_X7_laysPlaces_b184 x0 x2 x3 x4 x5 x6 x7 s0 s1 s2 σ) KL) (kn : ∀ (v : (Int32)) (σ : Hp), KL (Sum.inl v) σ → WW l γ 1 8 ad shM 47 [(0, .ref (ad x0)), (2, .int x2), (3, .int v)] [] σ) (kx225 : ∀ (v : Unit) (σ : Hp), KL (Sum.inr v) σ → WW l γ 1 8 ad shM 225 [] [] σ) : WW l γ 1 8 ad shM 184 [(0, .ref (ad x0)), (2, .int x2), (3, .int x3), (4, .int x4), (5, .int x5), (6, .int x6), (7, .int x7)] [.int s2, .int s1, .ref (ad s0)] σ := by
  unfold f_X7_laysPlaces_b184 at h
  obtain ⟨σ1, eσ1, h⟩ := wp_g h
  refine r_zast hc eσ1 dX7_laysPlaces_184 ?_
  refine r_aload_n hc 0 rfl rfl dX7_laysPlaces_185 ?_
  obtain ⟨v2, ev2, h⟩ := wp_g h
  refine r_getR hc ev2 fl_X7_54 rfl dX7_laysPlaces_186 ?_
  refine r_iload_n hc 2 rfl rfl dX7_laysPlaces_189 ?_
  refine r_iload hc 6 rfl dX7_laysPlaces_190 ?_
  refine r_if_ne hc (tgt := 199) dX7_laysPlaces_192 (by decide) (fun c => ?_) (fun c => ?_)
  · have h := wp_f c h
    refine r_iload_n hc 1 rfl rfl dX7_laysPlaces_199 ?_
    refine r_iconst hc (v := 3) (by decide) dX7_laysPlaces_200 ?_
    refine r_icmp_ne hc (tgt := 216) dX7_laysPlaces_201 (by decide) (fun c => ?_) (fun c => ?_)
    · have h := wp_f c h
      refine r_sub [0, 1, 2, 3] (lv' := [(0, .ref (ad x0)), (2, .int x2), (3, .int x3), (4, .int x4)]) rfl ?_
      exact t_X7_laysPlaces_b216 hc h kn kx225
    · have h := wp_t c h
      refine r_iload hc 3 rfl dX7_laysPlaces_204 ?_
      refine r_iload hc 4 rfl dX7_laysPlaces_206 ?_
      refine r_icmp_eq hc (tgt := 216) dX7_laysPlaces_208 (by decide) (fun c => ?_) (fun c => ?_)
      · have h := wp_t c h
        refine r_sub [0, 1, 2, 3] (lv' := [(0, .ref (ad x0)), (2, .int x2), (3, .int x3), (4, .int x4)]) rfl ?_
        exact t_X7_laysPlaces_b216 hc h kn kx225
      · have h := wp_f c h
        refine r_iload hc 5 rfl dX7_laysPlaces_211 ?_
        refine r_goto hc (tgt := 218) dX7_laysPlaces_213 (by decide) ?_
        refine r_sub [0, 1, 2] (lv' := [(0, .ref (ad x0)), (2, .int x2), (3, .int x3)]) rfl ?_
        exact t_X7_laysPlaces_b218 hc h kn kx225
  · have h := wp_t c h
    refine r_iconst hc (v := 0) (by decide) dX7_laysPlaces_195 ?_
    refine r_goto hc (tgt := 218) dX7_laysPlaces_196 (by decide) ?_
    refine r_sub [0, 1, 2] (lv' := [(0, .ref (ad x0)), (2, .int x2), (3, .int x3)]) rfl ?_
    exact t_X7_laysPlaces_b218 hc h kn kx225
noncomputable def f_X7_laysPlaces_b167 (x0 : Nat) (x2 : Int32) (x3 : Int32) (x4 : Int32) (x5 : Int32) (x6 : Int32) (s0 : Int32) (σ : Hp) : Option (((Int32) ⊕ (Unit)) × Hp) := gO (getR shM 7 x0 26 σ) fun v1 => if s0 = 0 then (f_X7_laysPlaces_b184 x0 x2 x3 x4 x5 x6 s0 v1 x3 1 σ) else (f_X7_laysPlaces_b184 x0 x2 x3 x4 x5 x6 s0 v1 x3 0 σ)
set_option maxRecDepth 100000 in
set_option maxHeartbeats 4000000 in
theorem t_X7_laysPlaces_b167 {l : Launch} {γ : Gm} {ad : Nat → Nat} {K : Option Value → Hp → Prop} (hc : Cx l γ 1 8 ad shM RX7 cX7_laysPlaces none K) {x0 : Nat} {x2 : Int32} {x3 : Int32} {x4 : Int32} {x5 : Int32} {x6 : Int32} {s0 : Int32}  {σ : Hp} {KL : ((Int32) ⊕ (Unit)) → Hp → Prop} (h : wpO (f_X7_laysPlaces_b167 x0 x2 x3 x4 x5 x6 s0 σ) KL) (kn : ∀ (v : (Int32)) (σ : Hp), KL (Sum.inl v) σ → WW l γ 1 8 ad shM 47 [(0, .ref (ad x0)), (2, .int x2), (3, .int v)] [] σ) (kx225 : ∀ (v : Unit) (σ : Hp), KL (Sum.inr v) σ → WW l γ 1 8 ad shM 225 [] [] σ) : WW l γ 1 8 ad shM 167 [(0, .ref (ad x0)), (2, .int x2), (3, .int x3), (4, .int x4), (5, .int x5), (6, .int x6)] [.int s0] σ := by
  unfold f_X7_laysPlaces_b167 at h
  refine r_istoreE hc (i := 7) (lv' := [(7, .int s0), (0, .ref (ad x0)), (2, .int x2), (3, .int x3), (4, .int x4), (5, .int x5), (6, .int x6)]) rfl (by decide) rfl dX7_laysPlaces_167 ?_
  refine r_aload_n hc 1 rfl rfl dX7_laysPlaces_169 ?_
  obtain ⟨v1, ev1, h⟩ := wp_g h
  refine r_getR hc ev1 fl_X7_57 rfl dX7_laysPlaces_170 ?_
  refine r_iload_n hc 3 rfl rfl dX7_laysPlaces_173 ?_
  refine r_iload hc 0 rfl dX7_laysPlaces_174 ?_
  refine r_if_ne hc (tgt := 183) dX7_laysPlaces_176 (by decide) (fun c => ?_) (fun c => ?_)
  · have h := wp_f c h
    refine r_iconst hc (v := 0) (by decide) dX7_laysPlaces_183 ?_
    refine r_sub [1, 2, 3, 4, 5, 6, 0] (lv' := [(0, .ref (ad x0)), (2, .int x2), (3, .int x3), (4, .int x4), (5, .int x5), (6, .int x6), (7, .int s0)]) rfl ?_
    exact t_X7_laysPlaces_b184 hc h kn kx225
  · have h := wp_t c h
    refine r_iconst hc (v := 1) (by decide) dX7_laysPlaces_179 ?_
    refine r_goto hc (tgt := 184) dX7_laysPlaces_180 (by decide) ?_
    refine r_sub [1, 2, 3, 4, 5, 6, 0] (lv' := [(0, .ref (ad x0)), (2, .int x2), (3, .int x3), (4, .int x4), (5, .int x5), (6, .int x6), (7, .int s0)]) rfl ?_
    exact t_X7_laysPlaces_b184 hc h kn kx225
noncomputable def f_X7_laysPlaces_b166 (x0 : Nat) (x2 : Int32) (x3 : Int32) (x4 : Int32) (x5 : Int32) (x6 : Int32) (σ : Hp) : Option (((Int32) ⊕ (Unit)) × Hp) := f_X7_laysPlaces_b167 x0 x2 x3 x4 x5 x6 0 σ
set_option maxRecDepth 100000 in
set_option maxHeartbeats 4000000 in
theorem t_X7_laysPlaces_b166 {l : Launch} {γ : Gm} {ad : Nat → Nat} {K : Option Value → Hp → Prop} (hc : Cx l γ 1 8 ad shM RX7 cX7_laysPlaces none K) {x0 : Nat} {x2 : Int32} {x3 : Int32} {x4 : Int32} {x5 : Int32} {x6 : Int32}  {σ : Hp} {KL : ((Int32) ⊕ (Unit)) → Hp → Prop} (h : wpO (f_X7_laysPlaces_b166 x0 x2 x3 x4 x5 x6 σ) KL) (kn : ∀ (v : (Int32)) (σ : Hp), KL (Sum.inl v) σ → WW l γ 1 8 ad shM 47 [(0, .ref (ad x0)), (2, .int x2), (3, .int v)] [] σ) (kx225 : ∀ (v : Unit) (σ : Hp), KL (Sum.inr v) σ → WW l γ 1 8 ad shM 225 [] [] σ) : WW l γ 1 8 ad shM 166 [(0, .ref (ad x0)), (2, .int x2), (3, .int x3), (4, .int x4), (5, .int x5), (6, .int x6)] [] σ := by
  unfold f_X7_laysPlaces_b166 at h
  refine r_iconst hc (v := 0) (by decide) dX7_laysPlaces_166 ?_
  exact t_X7_laysPlaces_b167 hc h kn kx225
noncomputable def f_X7_laysPlaces_b143 (x0 : Nat) (x2 : Int32) (x3 : Int32) (x4 : Int32) (x5 : Int32) (x6 : Int32) (σ : Hp) : Option (((Int32) ⊕ (Unit)) × Hp) := f_X7_laysPlaces_b167 x0 x2 x3 x4 x5 x6 1 σ
set_option maxRecDepth 100000 in
set_option maxHeartbeats 4000000 in
theorem t_X7_laysPlaces_b143 {l : Launch} {γ : Gm} {ad : Nat → Nat} {K : Option Value → Hp → Prop} (hc : Cx l γ 1 8 ad shM RX7 cX7_laysPlaces none K) {x0 : Nat} {x2 : Int32} {x3 : Int32} {x4 : Int32} {x5 : Int32} {x6 : Int32}  {σ : Hp} {KL : ((Int32) ⊕ (Unit)) → Hp → Prop} (h : wpO (f_X7_laysPlaces_b143 x0 x2 x3 x4 x5 x6 σ) KL) (kn : ∀ (v : (Int32)) (σ : Hp), KL (Sum.inl v) σ → WW l γ 1 8 ad shM 47 [(0, .ref (ad x0)), (2, .int x2), (3, .int v)] [] σ) (kx225 : ∀ (v : Unit) (σ : Hp), KL (Sum.inr v) σ → WW l γ 1 8 ad shM 225 [] [] σ) : WW l γ 1 8 ad shM 143 [(0, .ref (ad x0)), (2, .int x2), (3, .int x3), (4, .int x4), (5, .int x5), (6, .int x6)] [] σ := by
  unfold f_X7_laysPlaces_b143 at h
  refine r_iconst hc (v := 1) (by decide) dX7_laysPlaces_143 ?_
  refine r_goto hc (tgt := 167) dX7_laysPlaces_144 (by decide) ?_
  exact t_X7_laysPlaces_b167 hc h kn kx225
noncomputable def f_X7_laysPlaces_b107 (x0 : Nat) (x2 : Int32) (x3 : Int32) (x4 : Int32) (s0 : Int32) (σ : Hp) : Option (((Int32) ⊕ (Unit)) × Hp) := gO (getI shM 7 x0 28 σ) fun v1 => gO (nz v1) fun z2 => if x2 = 3 then (if x4 = s0 then (f_X7_laysPlaces_b143 x0 x2 x3 x4 s0 (irm x3 v1) σ) else (if x4 = (irm x3 v1) then (f_X7_laysPlaces_b143 x0 x2 x3 x4 s0 (irm x3 v1) σ) else (if s0 = (irm x3 v1) then (f_X7_laysPlaces_b143 x0 x2 x3 x4 s0 (irm x3 v1) σ) else (f_X7_laysPlaces_b167 x0 x2 x3 x4 s0 (irm x3 v1) 0 σ)))) else (if x2 ≤ 0 then (f_X7_laysPlaces_b166 x0 x2 x3 x4 s0 (irm x3 v1) σ) else (if x4 = s0 then (f_X7_laysPlaces_b167 x0 x2 x3 x4 s0 (irm x3 v1) 1 σ) else (f_X7_laysPlaces_b166 x0 x2 x3 x4 s0 (irm x3 v1) σ)))
set_option maxRecDepth 100000 in
set_option maxHeartbeats 4000000 in
theorem t_X7_laysPlaces_b107 {l : Launch} {γ : Gm} {ad : Nat → Nat} {K : Option Value → Hp → Prop} (hc : Cx l γ 1 8 ad shM RX7 cX7_laysPlaces none K) {x0 : Nat} {x2 : Int32} {x3 : Int32} {x4 : Int32} {s0 : Int32}  {σ : Hp} {KL : ((Int32) ⊕ (Unit)) → Hp → Prop} (h : wpO (f_X7_laysPlaces_b107 x0 x2 x3 x4 s0 σ) KL) (kn : ∀ (v : (Int32)) (σ : Hp), KL (Sum.inl v) σ → WW l γ 1 8 ad shM 47 [(0, .ref (ad x0)), (2, .int x2), (3, .int v)] [] σ) (kx225 : ∀ (v : Unit) (σ : Hp), KL (Sum.inr v) σ → WW l γ 1 8 ad shM 225 [] [] σ) : WW l γ 1 8 ad shM 107 [(0, .ref (ad x0)), (2, .int x2), (3, .int x3), (4, .int x4)] [.int s0] σ := by
  unfold f_X7_laysPlaces_b107 at h
  refine r_istoreE hc (i := 5) (lv' := [(5, .int s0), (0, .ref (ad x0)), (2, .int x2), (3, .int x3), (4, .int x4)]) rfl (by decide) rfl dX7_laysPlaces_107 ?_
  refine r_iload_n hc 3 rfl rfl dX7_laysPlaces_109 ?_
  refine r_aload_n hc 1 rfl rfl dX7_laysPlaces_110 ?_
  obtain ⟨v1, ev1, h⟩ := wp_g h
  refine r_getI hc ev1 fl_X7_300 rfl dX7_laysPlaces_111 ?_
  obtain ⟨z2, ez2, h⟩ := wp_g h
  refine r_irem hc ez2 dX7_laysPlaces_114 ?_
  refine r_istoreE hc (i := 6) (lv' := [(6, .int (irm x3 v1)), (5, .int s0), (0, .ref (ad x0)), (2, .int x2), (3, .int x3), (4, .int x4)]) rfl (by decide) rfl dX7_laysPlaces_115 ?_
  refine r_iload_n hc 3 rfl rfl dX7_laysPlaces_117 ?_
  refine r_iconst hc (v := 3) (by decide) dX7_laysPlaces_118 ?_
  refine r_icmp_ne hc (tgt := 151) dX7_laysPlaces_119 (by decide) (fun c => ?_) (fun c => ?_)
  · have h := wp_f c h
    refine r_iload_n hc 3 rfl rfl dX7_laysPlaces_151 ?_
    refine r_if_le hc (tgt := 166) dX7_laysPlaces_152 (by decide) (fun c => ?_) (fun c => ?_)
    · have h := wp_t c h
      refine r_sub [2, 3, 4, 5, 1, 0] (lv' := [(0, .ref (ad x0)), (2, .int x2), (3, .int x3), (4, .int x4), (5, .int s0), (6, .int (irm x3 v1))]) rfl ?_
      exact t_X7_laysPlaces_b166 hc h kn kx225
    · have h := wp_f c h
      refine r_iload hc 5 rfl dX7_laysPlaces_155 ?_
      refine r_iload hc 1 rfl dX7_laysPlaces_157 ?_
      refine r_icmp_ne hc (tgt := 166) dX7_laysPlaces_159 (by decide) (fun c => ?_) (fun c => ?_)
      · have h := wp_f c h
        refine r_sub [2, 3, 4, 5, 1, 0] (lv' := [(0, .ref (ad x0)), (2, .int x2), (3, .int x3), (4, .int x4), (5, .int s0), (6, .int (irm x3 v1))]) rfl ?_
        exact t_X7_laysPlaces_b166 hc h kn kx225
      · have h := wp_t c h
        refine r_iconst hc (v := 1) (by decide) dX7_laysPlaces_162 ?_
        refine r_goto hc (tgt := 167) dX7_laysPlaces_163 (by decide) ?_
        refine r_sub [2, 3, 4, 5, 1, 0] (lv' := [(0, .ref (ad x0)), (2, .int x2), (3, .int x3), (4, .int x4), (5, .int s0), (6, .int (irm x3 v1))]) rfl ?_
        exact t_X7_laysPlaces_b167 hc h kn kx225
  · have h := wp_t c h
    refine r_iload hc 5 rfl dX7_laysPlaces_122 ?_
    refine r_iload hc 1 rfl dX7_laysPlaces_124 ?_
    refine r_icmp_eq hc (tgt := 143) dX7_laysPlaces_126 (by decide) (fun c => ?_) (fun c => ?_)
    · have h := wp_t c h
      refine r_sub [2, 3, 4, 5, 1, 0] (lv' := [(0, .ref (ad x0)), (2, .int x2), (3, .int x3), (4, .int x4), (5, .int s0), (6, .int (irm x3 v1))]) rfl ?_
      exact t_X7_laysPlaces_b143 hc h kn kx225
    · have h := wp_f c h
      refine r_iload hc 5 rfl dX7_laysPlaces_129 ?_
      refine r_iload hc 0 rfl dX7_laysPlaces_131 ?_
      refine r_icmp_eq hc (tgt := 143) dX7_laysPlaces_133 (by decide) (fun c => ?_) (fun c => ?_)
      · have h := wp_t c h
        refine r_sub [2, 3, 4, 5, 1, 0] (lv' := [(0, .ref (ad x0)), (2, .int x2), (3, .int x3), (4, .int x4), (5, .int s0), (6, .int (irm x3 v1))]) rfl ?_
        exact t_X7_laysPlaces_b143 hc h kn kx225
      · have h := wp_f c h
        refine r_iload hc 1 rfl dX7_laysPlaces_136 ?_
        refine r_iload hc 0 rfl dX7_laysPlaces_138 ?_
        refine r_icmp_ne hc (tgt := 147) dX7_laysPlaces_140 (by decide) (fun c => ?_) (fun c => ?_)
        · have h := wp_f c h
          refine r_iconst hc (v := 0) (by decide) dX7_laysPlaces_147 ?_
          refine r_goto hc (tgt := 167) dX7_laysPlaces_148 (by decide) ?_
          refine r_sub [2, 3, 4, 5, 1, 0] (lv' := [(0, .ref (ad x0)), (2, .int x2), (3, .int x3), (4, .int x4), (5, .int s0), (6, .int (irm x3 v1))]) rfl ?_
          exact t_X7_laysPlaces_b167 hc h kn kx225
        · have h := wp_t c h
          refine r_sub [2, 3, 4, 5, 1, 0] (lv' := [(0, .ref (ad x0)), (2, .int x2), (3, .int x3), (4, .int x4), (5, .int s0), (6, .int (irm x3 v1))]) rfl ?_
          exact t_X7_laysPlaces_b143 hc h kn kx225
noncomputable def f_X7_laysPlaces_b80 (x0 : Nat) (x2 : Int32) (x3 : Int32) (s0 : Int32) (σ : Hp) : Option (((Int32) ⊕ (Unit)) × Hp) := if x2 = 3 then (gO (getI shM 7 x0 28 σ) fun v3 => gO (nz v3) fun z4 => gO (getI shM 7 x0 28 σ) fun v5 => gO (nz v5) fun z6 => f_X7_laysPlaces_b107 x0 x2 x3 s0 (irm (x3 / v3) v5) σ) else (gO (getI shM 7 x0 28 σ) fun v1 => gO (nz v1) fun z2 => f_X7_laysPlaces_b107 x0 x2 x3 s0 (irm x3 v1) σ)
set_option maxRecDepth 100000 in
set_option maxHeartbeats 4000000 in
theorem t_X7_laysPlaces_b80 {l : Launch} {γ : Gm} {ad : Nat → Nat} {K : Option Value → Hp → Prop} (hc : Cx l γ 1 8 ad shM RX7 cX7_laysPlaces none K) {x0 : Nat} {x2 : Int32} {x3 : Int32} {s0 : Int32}  {σ : Hp} {KL : ((Int32) ⊕ (Unit)) → Hp → Prop} (h : wpO (f_X7_laysPlaces_b80 x0 x2 x3 s0 σ) KL) (kn : ∀ (v : (Int32)) (σ : Hp), KL (Sum.inl v) σ → WW l γ 1 8 ad shM 47 [(0, .ref (ad x0)), (2, .int x2), (3, .int v)] [] σ) (kx225 : ∀ (v : Unit) (σ : Hp), KL (Sum.inr v) σ → WW l γ 1 8 ad shM 225 [] [] σ) : WW l γ 1 8 ad shM 80 [(0, .ref (ad x0)), (2, .int x2), (3, .int x3)] [.int s0] σ := by
  unfold f_X7_laysPlaces_b80 at h
  refine r_istoreE hc (i := 4) (lv' := [(4, .int s0), (0, .ref (ad x0)), (2, .int x2), (3, .int x3)]) rfl (by decide) rfl dX7_laysPlaces_80 ?_
  refine r_iload_n hc 2 rfl rfl dX7_laysPlaces_82 ?_
  refine r_iconst hc (v := 3) (by decide) dX7_laysPlaces_83 ?_
  refine r_icmp_ne hc (tgt := 101) dX7_laysPlaces_84 (by decide) (fun c => ?_) (fun c => ?_)
  · have h := wp_f c h
    refine r_iload_n hc 3 rfl rfl dX7_laysPlaces_101 ?_
    refine r_aload_n hc 1 rfl rfl dX7_laysPlaces_102 ?_
    obtain ⟨v1, ev1, h⟩ := wp_g h
    refine r_getI hc ev1 fl_X7_300 rfl dX7_laysPlaces_103 ?_
    obtain ⟨z2, ez2, h⟩ := wp_g h
    refine r_irem hc ez2 dX7_laysPlaces_106 ?_
    refine r_sub [1, 2, 3, 0] (lv' := [(0, .ref (ad x0)), (2, .int x2), (3, .int x3), (4, .int s0)]) rfl ?_
    exact t_X7_laysPlaces_b107 hc h kn kx225
  · have h := wp_t c h
    refine r_iload_n hc 3 rfl rfl dX7_laysPlaces_87 ?_
    refine r_aload_n hc 1 rfl rfl dX7_laysPlaces_88 ?_
    obtain ⟨v3, ev3, h⟩ := wp_g h
    refine r_getI hc ev3 fl_X7_300 rfl dX7_laysPlaces_89 ?_
    obtain ⟨z4, ez4, h⟩ := wp_g h
    refine r_idiv hc ez4 dX7_laysPlaces_92 ?_
    refine r_aload_n hc 1 rfl rfl dX7_laysPlaces_93 ?_
    obtain ⟨v5, ev5, h⟩ := wp_g h
    refine r_getI hc ev5 fl_X7_300 rfl dX7_laysPlaces_94 ?_
    obtain ⟨z6, ez6, h⟩ := wp_g h
    refine r_irem hc ez6 dX7_laysPlaces_97 ?_
    refine r_goto hc (tgt := 107) dX7_laysPlaces_98 (by decide) ?_
    refine r_sub [1, 2, 3, 0] (lv' := [(0, .ref (ad x0)), (2, .int x2), (3, .int x3), (4, .int s0)]) rfl ?_
    exact t_X7_laysPlaces_b107 hc h kn kx225
noncomputable def f_X7_laysPlaces_L47 (x0 : Nat) (x2 : Int32) (v : (Int32)) (σ : Hp) : Option (((Int32) ⊕ (Unit)) × Hp) := gO (getI shM 7 x0 27 σ) fun v1 => if v1 ≤ v then (some (Sum.inr (), σ)) else (if x2 = 3 then (gO (getI shM 7 x0 28 σ) fun v4 => gO (nz v4) fun z5 => gO (getI shM 7 x0 28 σ) fun v6 => gO (nz v6) fun z7 => f_X7_laysPlaces_b80 x0 x2 v ((v / v4) / v6) σ) else (gO (getI shM 7 x0 28 σ) fun v2 => gO (nz v2) fun z3 => f_X7_laysPlaces_b80 x0 x2 v (v / v2) σ))
set_option maxRecDepth 100000 in
set_option maxHeartbeats 4000000 in
theorem t_X7_laysPlaces_L47 {l : Launch} {γ : Gm} {ad : Nat → Nat} {K : Option Value → Hp → Prop}  (hc : Cx l γ 1 8 ad shM RX7 cX7_laysPlaces none K) {x0 : Nat} {x2 : Int32} {v : (Int32)} {σ : Hp} {KX : (Unit) → Hp → Prop} (h : wpO (wh (f_X7_laysPlaces_L47 x0 x2) v σ) KX) (kx225 : ∀ (v : Unit) (σ : Hp), KX v σ → WW l γ 1 8 ad shM 225 [] [] σ) : WW l γ 1 8 ad shM 47 [(0, .ref (ad x0)), (2, .int x2), (3, .int v)] [] σ := by
  refine wh_W (P := fun v σ => WW l γ 1 8 ad shM 47 [(0, .ref (ad x0)), (2, .int x2), (3, .int v)] [] σ) (fun v σ h => ?_) h
  have kn : ∀ (v : (Int32)) (σ : Hp), WW l γ 1 8 ad shM 47 [(0, .ref (ad x0)), (2, .int x2), (3, .int v)] [] σ → WW l γ 1 8 ad shM 47 [(0, .ref (ad x0)), (2, .int x2), (3, .int v)] [] σ := fun _ _ h => h
  · unfold f_X7_laysPlaces_L47 at h
    refine r_iload_n hc 2 rfl rfl dX7_laysPlaces_47 ?_
    refine r_aload_n hc 0 rfl rfl dX7_laysPlaces_48 ?_
    obtain ⟨v1, ev1, h⟩ := wp_g h
    refine r_getI hc ev1 fl_X7_303 rfl dX7_laysPlaces_49 ?_
    refine r_icmp_ge hc (tgt := 225) dX7_laysPlaces_52 (by decide) (fun c => ?_) (fun c => ?_)
    · have h := wp_t c h
      refine r_sub [] (lv' := []) rfl ?_
      have h := wp_v h
      exact kx225 () _ h
    · have h := wp_f c h
      refine r_iload_n hc 1 rfl rfl dX7_laysPlaces_55 ?_
      refine r_iconst hc (v := 3) (by decide) dX7_laysPlaces_56 ?_
      refine r_icmp_ne hc (tgt := 74) dX7_laysPlaces_57 (by decide) (fun c => ?_) (fun c => ?_)
      · have h := wp_f c h
        refine r_iload_n hc 2 rfl rfl dX7_laysPlaces_74 ?_
        refine r_aload_n hc 0 rfl rfl dX7_laysPlaces_75 ?_
        obtain ⟨v2, ev2, h⟩ := wp_g h
        refine r_getI hc ev2 fl_X7_300 rfl dX7_laysPlaces_76 ?_
        obtain ⟨z3, ez3, h⟩ := wp_g h
        refine r_idiv hc ez3 dX7_laysPlaces_79 ?_
        exact t_X7_laysPlaces_b80 hc h kn kx225
      · have h := wp_t c h
        refine r_iload_n hc 2 rfl rfl dX7_laysPlaces_60 ?_
        refine r_aload_n hc 0 rfl rfl dX7_laysPlaces_61 ?_
        obtain ⟨v4, ev4, h⟩ := wp_g h
        refine r_getI hc ev4 fl_X7_300 rfl dX7_laysPlaces_62 ?_
        obtain ⟨z5, ez5, h⟩ := wp_g h
        refine r_idiv hc ez5 dX7_laysPlaces_65 ?_
        refine r_aload_n hc 0 rfl rfl dX7_laysPlaces_66 ?_
        obtain ⟨v6, ev6, h⟩ := wp_g h
        refine r_getI hc ev6 fl_X7_300 rfl dX7_laysPlaces_67 ?_
        obtain ⟨z7, ez7, h⟩ := wp_g h
        refine r_idiv hc ez7 dX7_laysPlaces_70 ?_
        refine r_goto hc (tgt := 80) dX7_laysPlaces_71 (by decide) ?_
        exact t_X7_laysPlaces_b80 hc h kn kx225
noncomputable def f_X7_laysPlaces_b42 (x0 : Nat) (x2 : Int32) (s0 : Nat) (s1 : Int32) (σ : Hp) : Option (Unit × Hp) := gO (putI shM 7 s0 27 s1 σ) fun σ1 => bO (wh (f_X7_laysPlaces_L47 x0 x2) 0 σ1) fun y2 σ3 => (some ((), σ3))
set_option maxRecDepth 100000 in
set_option maxHeartbeats 4000000 in
theorem t_X7_laysPlaces_b42 {l : Launch} {γ : Gm} {ad : Nat → Nat} {K : Option Value → Hp → Prop} (hc : Cx l γ 1 8 ad shM RX7 cX7_laysPlaces none K) {x0 : Nat} {x2 : Int32} {s0 : Nat} {s1 : Int32} {σ : Hp} (h : wpO (f_X7_laysPlaces_b42 x0 x2 s0 s1 σ) (KU K)) : WW l γ 1 8 ad shM 42 [(0, .ref (ad x0)), (2, .int x2)] [.int s1, .ref (ad s0)] σ := by
  unfold f_X7_laysPlaces_b42 at h
  obtain ⟨σ1, eσ1, h⟩ := wp_g h
  refine r_putI hc eσ1 fp_X7_303 rfl dX7_laysPlaces_42 ?_
  refine r_iconst hc (v := 0) (by decide) dX7_laysPlaces_45 ?_
  refine r_istore_nE hc (i := 3) (lv' := [(3, .int 0), (0, .ref (ad x0)), (2, .int x2)]) rfl rfl (by decide) rfl dX7_laysPlaces_46 ?_
  refine r_sub [1, 2, 0] (lv' := [(0, .ref (ad x0)), (2, .int x2), (3, .int 0)]) rfl ?_
  refine t_X7_laysPlaces_L47 hc (wp_bb h) ?_
  · intro y2 σ3 h
    have h := wp_v h
    exact r_vret hc h dX7_laysPlaces_225
noncomputable def f_X7_laysPlaces (x0 : Nat) (x1 : Int32) (x2 : Int32) (σ : Hp) : Option (Unit × Hp) := gO (getR shM 7 x0 0 σ) fun v1 => gO (aldI shM 0 v1 x1 σ) fun v2 => gO (putI shM 7 x0 28 v2 σ) fun σ3 => if x2 = 3 then (gO (getI shM 7 x0 28 σ3) fun v6 => gO (getI shM 7 x0 28 σ3) fun v7 => gO (getI shM 7 x0 28 σ3) fun v8 => f_X7_laysPlaces_b42 x0 x2 x0 ((v6 * v7) * v8) σ3) else (gO (getI shM 7 x0 28 σ3) fun v4 => gO (getI shM 7 x0 28 σ3) fun v5 => f_X7_laysPlaces_b42 x0 x2 x0 (v4 * v5) σ3)
set_option maxRecDepth 100000 in
set_option maxHeartbeats 4000000 in
theorem t_X7_laysPlaces {l : Launch} {γ : Gm} {ad : Nat → Nat} {K : Option Value → Hp → Prop} (hc : Cx l γ 1 8 ad shM RX7 cX7_laysPlaces none K) {x0 : Nat} {x1 : Int32} {x2 : Int32} {σ : Hp} (h : wpO (f_X7_laysPlaces x0 x1 x2 σ) (KU K)) : WW l γ 1 8 ad shM 0 [(0, .ref (ad x0)), (1, .int x1), (2, .int x2)] [] σ := by
  unfold f_X7_laysPlaces at h
  refine r_aload_n hc 0 rfl rfl dX7_laysPlaces_0 ?_
  refine r_aload_n hc 0 rfl rfl dX7_laysPlaces_1 ?_
  obtain ⟨v1, ev1, h⟩ := wp_g h
  refine r_getR hc ev1 fl_X7_7 rfl dX7_laysPlaces_2 ?_
  refine r_iload_n hc 1 rfl rfl dX7_laysPlaces_5 ?_
  obtain ⟨v2, ev2, h⟩ := wp_g h
  refine r_iald hc ev2 dX7_laysPlaces_6 ?_
  obtain ⟨σ3, eσ3, h⟩ := wp_g h
  refine r_putI hc eσ3 fp_X7_300 rfl dX7_laysPlaces_7 ?_
  refine r_aload_n hc 0 rfl rfl dX7_laysPlaces_10 ?_
  refine r_iload_n hc 2 rfl rfl dX7_laysPlaces_11 ?_
  refine r_iconst hc (v := 3) (by decide) dX7_laysPlaces_12 ?_
  refine r_icmp_ne hc (tgt := 33) dX7_laysPlaces_13 (by decide) (fun c => ?_) (fun c => ?_)
  · have h := wp_f c h
    refine r_aload_n hc 0 rfl rfl dX7_laysPlaces_33 ?_
    obtain ⟨v4, ev4, h⟩ := wp_g h
    refine r_getI hc ev4 fl_X7_300 rfl dX7_laysPlaces_34 ?_
    refine r_aload_n hc 0 rfl rfl dX7_laysPlaces_37 ?_
    obtain ⟨v5, ev5, h⟩ := wp_g h
    refine r_getI hc ev5 fl_X7_300 rfl dX7_laysPlaces_38 ?_
    refine r_imul hc dX7_laysPlaces_41 ?_
    refine r_sub [0, 2] (lv' := [(0, .ref (ad x0)), (2, .int x2)]) rfl ?_
    exact t_X7_laysPlaces_b42 hc h
  · have h := wp_t c h
    refine r_aload_n hc 0 rfl rfl dX7_laysPlaces_16 ?_
    obtain ⟨v6, ev6, h⟩ := wp_g h
    refine r_getI hc ev6 fl_X7_300 rfl dX7_laysPlaces_17 ?_
    refine r_aload_n hc 0 rfl rfl dX7_laysPlaces_20 ?_
    obtain ⟨v7, ev7, h⟩ := wp_g h
    refine r_getI hc ev7 fl_X7_300 rfl dX7_laysPlaces_21 ?_
    refine r_imul hc dX7_laysPlaces_24 ?_
    refine r_aload_n hc 0 rfl rfl dX7_laysPlaces_25 ?_
    obtain ⟨v8, ev8, h⟩ := wp_g h
    refine r_getI hc ev8 fl_X7_300 rfl dX7_laysPlaces_26 ?_
    refine r_imul hc dX7_laysPlaces_29 ?_
    refine r_goto hc (tgt := 42) dX7_laysPlaces_30 (by decide) ?_
    refine r_sub [0, 2] (lv' := [(0, .ref (ad x0)), (2, .int x2)]) rfl ?_
    exact t_X7_laysPlaces_b42 hc h
theorem c_X7_laysPlaces {l : Launch} {x0 : Nat} {x1 : Int32} {x2 : Int32} {σ σ' : Hp} {r : Unit} (h : f_X7_laysPlaces x0 x1 x2 σ = some (r, σ')) : Mt l yX7_laysPlaces cX7_laysPlaces 8 none 1 shM (fun ad => [.ref (ad x0), .int x1, .int x2]) σ (fun ad => none) σ' := mt_i (own := RX7) (by decide) rfl (fun _ => Nat.le_of_ble_eq_true rfl) (fun γ ad K hc hk => t_X7_laysPlaces hc ⟨_, _, h, hk⟩)

-- NetMapsModel.goesUp()Z
theorem dX7_goesUp_0 : decode cX7_goesUp 0 = .ok (.aload_n 0, 1) := by decide +kernel
theorem dX7_goesUp_1 : decode cX7_goesUp 1 = .ok (.getfield 303, 3) := by decide +kernel
theorem dX7_goesUp_4 : decode cX7_goesUp 4 = .ok (.iconst 1, 1) := by decide +kernel
theorem dX7_goesUp_5 : decode cX7_goesUp 5 = .ok (.isub, 1) := by decide +kernel
theorem dX7_goesUp_6 : decode cX7_goesUp 6 = .ok (.istore_n 1, 1) := by decide +kernel
theorem dX7_goesUp_7 : decode cX7_goesUp 7 = .ok (.iload_n 1, 1) := by decide +kernel
theorem dX7_goesUp_8 : decode cX7_goesUp 8 = .ok (.ifCond .lt 55, 3) := by decide +kernel
theorem dX7_goesUp_11 : decode cX7_goesUp 11 = .ok (.aload_n 0, 1) := by decide +kernel
theorem dX7_goesUp_12 : decode cX7_goesUp 12 = .ok (.getfield 57, 3) := by decide +kernel
theorem dX7_goesUp_15 : decode cX7_goesUp 15 = .ok (.iload_n 1, 1) := by decide +kernel
theorem dX7_goesUp_16 : decode cX7_goesUp 16 = .ok (.baload, 1) := by decide +kernel
theorem dX7_goesUp_17 : decode cX7_goesUp 17 = .ok (.ifCond .eq 39, 3) := by decide +kernel
theorem dX7_goesUp_20 : decode cX7_goesUp 20 = .ok (.aload_n 0, 1) := by decide +kernel
theorem dX7_goesUp_21 : decode cX7_goesUp 21 = .ok (.getfield 54, 3) := by decide +kernel
theorem dX7_goesUp_24 : decode cX7_goesUp 24 = .ok (.iload_n 1, 1) := by decide +kernel
theorem dX7_goesUp_25 : decode cX7_goesUp 25 = .ok (.aload_n 0, 1) := by decide +kernel
theorem dX7_goesUp_26 : decode cX7_goesUp 26 = .ok (.getfield 54, 3) := by decide +kernel
theorem dX7_goesUp_29 : decode cX7_goesUp 29 = .ok (.iload_n 1, 1) := by decide +kernel
theorem dX7_goesUp_30 : decode cX7_goesUp 30 = .ok (.iaload, 1) := by decide +kernel
theorem dX7_goesUp_31 : decode cX7_goesUp 31 = .ok (.iconst 1, 1) := by decide +kernel
theorem dX7_goesUp_32 : decode cX7_goesUp 32 = .ok (.iadd, 1) := by decide +kernel
theorem dX7_goesUp_33 : decode cX7_goesUp 33 = .ok (.iastore, 1) := by decide +kernel
theorem dX7_goesUp_34 : decode cX7_goesUp 34 = .ok (.aload_n 0, 1) := by decide +kernel
theorem dX7_goesUp_35 : decode cX7_goesUp 35 = .ok (.getfield 54, 3) := by decide +kernel
theorem dX7_goesUp_38 : decode cX7_goesUp 38 = .ok (.iload_n 1, 1) := by decide +kernel
theorem dX7_goesUp_39 : decode cX7_goesUp 39 = .ok (.iaload, 1) := by decide +kernel
theorem dX7_goesUp_40 : decode cX7_goesUp 40 = .ok (.aload_n 0, 1) := by decide +kernel
theorem dX7_goesUp_41 : decode cX7_goesUp 41 = .ok (.getfield 300, 3) := by decide +kernel
theorem dX7_goesUp_44 : decode cX7_goesUp 44 = .ok (.if_icmp .ge 5, 3) := by decide +kernel
theorem dX7_goesUp_47 : decode cX7_goesUp 47 = .ok (.iconst 1, 1) := by decide +kernel
theorem dX7_goesUp_48 : decode cX7_goesUp 48 = .ok (.ireturn, 1) := by decide +kernel
theorem dX7_goesUp_49 : decode cX7_goesUp 49 = .ok (.aload_n 0, 1) := by decide +kernel
theorem dX7_goesUp_50 : decode cX7_goesUp 50 = .ok (.getfield 54, 3) := by decide +kernel
theorem dX7_goesUp_53 : decode cX7_goesUp 53 = .ok (.iload_n 1, 1) := by decide +kernel
theorem dX7_goesUp_54 : decode cX7_goesUp 54 = .ok (.iconst 0, 1) := by decide +kernel
theorem dX7_goesUp_55 : decode cX7_goesUp 55 = .ok (.iastore, 1) := by decide +kernel
theorem dX7_goesUp_56 : decode cX7_goesUp 56 = .ok (.iload_n 1, 1) := by decide +kernel
theorem dX7_goesUp_57 : decode cX7_goesUp 57 = .ok (.iconst 1, 1) := by decide +kernel
theorem dX7_goesUp_58 : decode cX7_goesUp 58 = .ok (.isub, 1) := by decide +kernel
theorem dX7_goesUp_59 : decode cX7_goesUp 59 = .ok (.istore_n 1, 1) := by decide +kernel
theorem dX7_goesUp_60 : decode cX7_goesUp 60 = .ok (.goto (-53), 3) := by decide +kernel
theorem dX7_goesUp_63 : decode cX7_goesUp 63 = .ok (.iconst 0, 1) := by decide +kernel
theorem dX7_goesUp_64 : decode cX7_goesUp 64 = .ok (.ireturn, 1) := by decide +kernel
noncomputable def f_X7_goesUp_b56 (x0 : Nat) (x1 : Int32) (σ : Hp) : Option (((Int32) ⊕ ((Unit) ⊕ (Unit))) × Hp) := some (Sum.inl (x1 - 1), σ)
set_option maxRecDepth 100000 in
set_option maxHeartbeats 4000000 in
theorem t_X7_goesUp_b56 {l : Launch} {γ : Gm} {ad : Nat → Nat} {K : Option Value → Hp → Prop} (hc : Cx l γ 1 2 ad shM RX7 cX7_goesUp (some .boolean) K) {x0 : Nat} {x1 : Int32}  {σ : Hp} {KL : ((Int32) ⊕ ((Unit) ⊕ (Unit))) → Hp → Prop} (h : wpO (f_X7_goesUp_b56 x0 x1 σ) KL) (kn : ∀ (v : (Int32)) (σ : Hp), KL (Sum.inl v) σ → WW l γ 1 2 ad shM 7 [(0, .ref (ad x0)), (1, .int v)] [] σ) (kx47 : ∀ (v : Unit) (σ : Hp), KL (Sum.inr (Sum.inl v)) σ → WW l γ 1 2 ad shM 47 [] [] σ) (kx63 : ∀ (v : Unit) (σ : Hp), KL (Sum.inr (Sum.inr v)) σ → WW l γ 1 2 ad shM 63 [] [] σ) : WW l γ 1 2 ad shM 56 [(0, .ref (ad x0)), (1, .int x1)] [] σ := by
  unfold f_X7_goesUp_b56 at h
  refine r_iload_n hc 1 rfl rfl dX7_goesUp_56 ?_
  refine r_iconst hc (v := 1) (by decide) dX7_goesUp_57 ?_
  refine r_isub hc dX7_goesUp_58 ?_
  refine r_istore_nE hc (i := 1) (lv' := [(1, .int (x1 - 1)), (0, .ref (ad x0))]) rfl rfl (by decide) rfl dX7_goesUp_59 ?_
  refine r_goto hc (tgt := 7) dX7_goesUp_60 (by decide) ?_
  refine r_sub [1, 0] (lv' := [(0, .ref (ad x0)), (1, .int (x1 - 1))]) rfl ?_
  have h := wp_v h
  exact kn (x1 - 1) _ h
noncomputable def f_X7_goesUp_L7 (x0 : Nat) (v : (Int32)) (σ : Hp) : Option (((Int32) ⊕ ((Unit) ⊕ (Unit))) × Hp) := if v < 0 then (some (Sum.inr (Sum.inr ()), σ)) else (gO (getR shM 7 x0 26 σ) fun v1 => gO (aldI shM 2 v1 v σ) fun v2 => if v2 = 0 then (f_X7_goesUp_b56 x0 v σ) else (gO (getR shM 7 x0 25 σ) fun v3 => gO (getR shM 7 x0 25 σ) fun v4 => gO (aldI shM 0 v4 v σ) fun v5 => gO (astI shM 0 v3 v (v5 + 1) σ) fun σ6 => gO (getR shM 7 x0 25 σ6) fun v7 => gO (aldI shM 0 v7 v σ6) fun v8 => gO (getI shM 7 x0 28 σ6) fun v9 => if v9 ≤ v8 then (gO (getR shM 7 x0 25 σ6) fun v10 => gO (astI shM 0 v10 v 0 σ6) fun σ11 => f_X7_goesUp_b56 x0 v σ11) else (some (Sum.inr (Sum.inl ()), σ6))))
set_option maxRecDepth 100000 in
set_option maxHeartbeats 4000000 in
theorem t_X7_goesUp_L7 {l : Launch} {γ : Gm} {ad : Nat → Nat} {K : Option Value → Hp → Prop}  (hc : Cx l γ 1 2 ad shM RX7 cX7_goesUp (some .boolean) K) {x0 : Nat} {v : (Int32)} {σ : Hp} {KX : ((Unit) ⊕ (Unit)) → Hp → Prop} (h : wpO (wh (f_X7_goesUp_L7 x0) v σ) KX) (kx47 : ∀ (v : Unit) (σ : Hp), KX (Sum.inl v) σ → WW l γ 1 2 ad shM 47 [] [] σ) (kx63 : ∀ (v : Unit) (σ : Hp), KX (Sum.inr v) σ → WW l γ 1 2 ad shM 63 [] [] σ) : WW l γ 1 2 ad shM 7 [(0, .ref (ad x0)), (1, .int v)] [] σ := by
  refine wh_W (P := fun v σ => WW l γ 1 2 ad shM 7 [(0, .ref (ad x0)), (1, .int v)] [] σ) (fun v σ h => ?_) h
  have kn : ∀ (v : (Int32)) (σ : Hp), WW l γ 1 2 ad shM 7 [(0, .ref (ad x0)), (1, .int v)] [] σ → WW l γ 1 2 ad shM 7 [(0, .ref (ad x0)), (1, .int v)] [] σ := fun _ _ h => h
  · unfold f_X7_goesUp_L7 at h
    refine r_iload_n hc 1 rfl rfl dX7_goesUp_7 ?_
    refine r_if_lt hc (tgt := 63) dX7_goesUp_8 (by decide) (fun c => ?_) (fun c => ?_)
    · have h := wp_t c h
      refine r_sub [] (lv' := []) rfl ?_
      have h := wp_v h
      exact kx63 () _ h
    · have h := wp_f c h
      refine r_aload_n hc 0 rfl rfl dX7_goesUp_11 ?_
      obtain ⟨v1, ev1, h⟩ := wp_g h
      refine r_getR hc ev1 fl_X7_57 rfl dX7_goesUp_12 ?_
      refine r_iload_n hc 1 rfl rfl dX7_goesUp_15 ?_
      obtain ⟨v2, ev2, h⟩ := wp_g h
      refine r_zald hc ev2 dX7_goesUp_16 ?_
      refine r_if_eq hc (tgt := 56) dX7_goesUp_17 (by decide) (fun c => ?_) (fun c => ?_)
      · have h := wp_t c h
        exact t_X7_goesUp_b56 hc h kn kx47 kx63
      · have h := wp_f c h
        refine r_aload_n hc 0 rfl rfl dX7_goesUp_20 ?_
        obtain ⟨v3, ev3, h⟩ := wp_g h
        refine r_getR hc ev3 fl_X7_54 rfl dX7_goesUp_21 ?_
        refine r_iload_n hc 1 rfl rfl dX7_goesUp_24 ?_
        refine r_aload_n hc 0 rfl rfl dX7_goesUp_25 ?_
        obtain ⟨v4, ev4, h⟩ := wp_g h
        refine r_getR hc ev4 fl_X7_54 rfl dX7_goesUp_26 ?_
        refine r_iload_n hc 1 rfl rfl dX7_goesUp_29 ?_
        obtain ⟨v5, ev5, h⟩ := wp_g h
        refine r_iald hc ev5 dX7_goesUp_30 ?_
        refine r_iconst hc (v := 1) (by decide) dX7_goesUp_31 ?_
        refine r_iadd hc dX7_goesUp_32 ?_
        obtain ⟨σ6, eσ6, h⟩ := wp_g h
        refine r_iast hc eσ6 dX7_goesUp_33 ?_
        refine r_aload_n hc 0 rfl rfl dX7_goesUp_34 ?_
        obtain ⟨v7, ev7, h⟩ := wp_g h
        refine r_getR hc ev7 fl_X7_54 rfl dX7_goesUp_35 ?_
        refine r_iload_n hc 1 rfl rfl dX7_goesUp_38 ?_
        obtain ⟨v8, ev8, h⟩ := wp_g h
        refine r_iald hc ev8 dX7_goesUp_39 ?_
        refine r_aload_n hc 0 rfl rfl dX7_goesUp_40 ?_
        obtain ⟨v9, ev9, h⟩ := wp_g h
        refine r_getI hc ev9 fl_X7_300 rfl dX7_goesUp_41 ?_
        refine r_icmp_ge hc (tgt := 49) dX7_goesUp_44 (by decide) (fun c => ?_) (fun c => ?_)
        · have h := wp_t c h
          refine r_aload_n hc 0 rfl rfl dX7_goesUp_49 ?_
          obtain ⟨v10, ev10, h⟩ := wp_g h
          refine r_getR hc ev10 fl_X7_54 rfl dX7_goesUp_50 ?_
          refine r_iload_n hc 1 rfl rfl dX7_goesUp_53 ?_
          refine r_iconst hc (v := 0) (by decide) dX7_goesUp_54 ?_
          obtain ⟨σ11, eσ11, h⟩ := wp_g h
          refine r_iast hc eσ11 dX7_goesUp_55 ?_
          exact t_X7_goesUp_b56 hc h kn kx47 kx63
        · have h := wp_f c h
          refine r_sub [] (lv' := []) rfl ?_
          have h := wp_v h
          exact kx47 () _ h
noncomputable def f_X7_goesUp (x0 : Nat) (σ : Hp) : Option (Int32 × Hp) := gO (getI shM 7 x0 27 σ) fun v1 => bO (wh (f_X7_goesUp_L7 x0) (v1 - 1) σ) fun y2 σ3 => (Sum.elim (fun y2' => (some (1, σ3))) (fun y4 => (some (0, σ3))) y2)
set_option maxRecDepth 100000 in
set_option maxHeartbeats 4000000 in
theorem t_X7_goesUp {l : Launch} {γ : Gm} {ad : Nat → Nat} {K : Option Value → Hp → Prop} (hc : Cx l γ 1 2 ad shM RX7 cX7_goesUp (some .boolean) K) {x0 : Nat} {σ : Hp} (h : wpO (f_X7_goesUp x0 σ) (KI K)) : WW l γ 1 2 ad shM 0 [(0, .ref (ad x0))] [] σ := by
  unfold f_X7_goesUp at h
  refine r_aload_n hc 0 rfl rfl dX7_goesUp_0 ?_
  obtain ⟨v1, ev1, h⟩ := wp_g h
  refine r_getI hc ev1 fl_X7_303 rfl dX7_goesUp_1 ?_
  refine r_iconst hc (v := 1) (by decide) dX7_goesUp_4 ?_
  refine r_isub hc dX7_goesUp_5 ?_
  refine r_istore_nE hc (i := 1) (lv' := [(1, .int (v1 - 1)), (0, .ref (ad x0))]) rfl rfl (by decide) rfl dX7_goesUp_6 ?_
  refine r_sub [1, 0] (lv' := [(0, .ref (ad x0)), (1, .int (v1 - 1))]) rfl ?_
  refine t_X7_goesUp_L7 hc (wp_bb h) ?_ ?_
  · intro y2' σ3 h
    have h := wp_sl h
    refine r_iconst hc (v := 1) (by decide) dX7_goesUp_47 ?_
    have h := wp_v h
    exact r_zret hc h (by decide) dX7_goesUp_48
  · intro y4 σ3 h
    have h := wp_sr h
    refine r_iconst hc (v := 0) (by decide) dX7_goesUp_63 ?_
    have h := wp_v h
    exact r_zret hc h (by decide) dX7_goesUp_64
theorem c_X7_goesUp {l : Launch} {x0 : Nat} {σ σ' : Hp} {r : Int32} (h : f_X7_goesUp x0 σ = some (r, σ')) : Mt l yX7_goesUp cX7_goesUp 2 (some .boolean) 1 shM (fun ad => [.ref (ad x0)]) σ (fun ad => some (.int r)) σ' := mt_i (own := RX7) (by decide) rfl (fun _ => Nat.le_of_ble_eq_true rfl) (fun γ ad K hc hk => t_X7_goesUp hc ⟨_, _, h, hk⟩)

-- NetMapsModel.keepsTwo(I)Z
theorem dX7_keepsTwo_0 : decode cX7_keepsTwo 0 = .ok (.iconst 0, 1) := by decide +kernel
theorem dX7_keepsTwo_1 : decode cX7_keepsTwo 1 = .ok (.istore_n 2, 1) := by decide +kernel
theorem dX7_keepsTwo_2 : decode cX7_keepsTwo 2 = .ok (.iload_n 2, 1) := by decide +kernel
theorem dX7_keepsTwo_3 : decode cX7_keepsTwo 3 = .ok (.aload_n 0, 1) := by decide +kernel
theorem dX7_keepsTwo_4 : decode cX7_keepsTwo 4 = .ok (.getfield 303, 3) := by decide +kernel
theorem dX7_keepsTwo_7 : decode cX7_keepsTwo 7 = .ok (.if_icmp .ge 87, 3) := by decide +kernel
theorem dX7_keepsTwo_10 : decode cX7_keepsTwo 10 = .ok (.iconst 0, 1) := by decide +kernel
theorem dX7_keepsTwo_11 : decode cX7_keepsTwo 11 = .ok (.istore_n 3, 1) := by decide +kernel
theorem dX7_keepsTwo_12 : decode cX7_keepsTwo 12 = .ok (.iload_n 3, 1) := by decide +kernel
theorem dX7_keepsTwo_13 : decode cX7_keepsTwo 13 = .ok (.aload_n 0, 1) := by decide +kernel
theorem dX7_keepsTwo_14 : decode cX7_keepsTwo 14 = .ok (.getfield 303, 3) := by decide +kernel
theorem dX7_keepsTwo_17 : decode cX7_keepsTwo 17 = .ok (.if_icmp .ge 71, 3) := by decide +kernel
theorem dX7_keepsTwo_20 : decode cX7_keepsTwo 20 = .ok (.aload_n 0, 1) := by decide +kernel
theorem dX7_keepsTwo_21 : decode cX7_keepsTwo 21 = .ok (.iload_n 1, 1) := by decide +kernel
theorem dX7_keepsTwo_22 : decode cX7_keepsTwo 22 = .ok (.iload_n 2, 1) := by decide +kernel
theorem dX7_keepsTwo_23 : decode cX7_keepsTwo 23 = .ok (.aload_n 0, 1) := by decide +kernel
theorem dX7_keepsTwo_24 : decode cX7_keepsTwo 24 = .ok (.getfield 300, 3) := by decide +kernel
theorem dX7_keepsTwo_27 : decode cX7_keepsTwo 27 = .ok (.idiv, 1) := by decide +kernel
theorem dX7_keepsTwo_28 : decode cX7_keepsTwo 28 = .ok (.iload_n 3, 1) := by decide +kernel
theorem dX7_keepsTwo_29 : decode cX7_keepsTwo 29 = .ok (.aload_n 0, 1) := by decide +kernel
theorem dX7_keepsTwo_30 : decode cX7_keepsTwo 30 = .ok (.getfield 300, 3) := by decide +kernel
theorem dX7_keepsTwo_33 : decode cX7_keepsTwo 33 = .ok (.idiv, 1) := by decide +kernel
theorem dX7_keepsTwo_34 : decode cX7_keepsTwo 34 = .ok (.invokevirtual 125, 3) := by decide +kernel
theorem dX7_keepsTwo_37 : decode cX7_keepsTwo 37 = .ok (.ifCond .eq 45, 3) := by decide +kernel
theorem dX7_keepsTwo_40 : decode cX7_keepsTwo 40 = .ok (.aload_n 0, 1) := by decide +kernel
theorem dX7_keepsTwo_41 : decode cX7_keepsTwo 41 = .ok (.iload_n 1, 1) := by decide +kernel
theorem dX7_keepsTwo_42 : decode cX7_keepsTwo 42 = .ok (.iload_n 2, 1) := by decide +kernel
theorem dX7_keepsTwo_43 : decode cX7_keepsTwo 43 = .ok (.aload_n 0, 1) := by decide +kernel
theorem dX7_keepsTwo_44 : decode cX7_keepsTwo 44 = .ok (.getfield 300, 3) := by decide +kernel
theorem dX7_keepsTwo_47 : decode cX7_keepsTwo 47 = .ok (.irem, 1) := by decide +kernel
theorem dX7_keepsTwo_48 : decode cX7_keepsTwo 48 = .ok (.iload_n 3, 1) := by decide +kernel
theorem dX7_keepsTwo_49 : decode cX7_keepsTwo 49 = .ok (.aload_n 0, 1) := by decide +kernel
theorem dX7_keepsTwo_50 : decode cX7_keepsTwo 50 = .ok (.getfield 300, 3) := by decide +kernel
theorem dX7_keepsTwo_53 : decode cX7_keepsTwo 53 = .ok (.irem, 1) := by decide +kernel
theorem dX7_keepsTwo_54 : decode cX7_keepsTwo 54 = .ok (.invokevirtual 125, 3) := by decide +kernel
theorem dX7_keepsTwo_57 : decode cX7_keepsTwo 57 = .ok (.ifCond .eq 25, 3) := by decide +kernel
theorem dX7_keepsTwo_60 : decode cX7_keepsTwo 60 = .ok (.aload_n 0, 1) := by decide +kernel
theorem dX7_keepsTwo_61 : decode cX7_keepsTwo 61 = .ok (.iload_n 1, 1) := by decide +kernel
theorem dX7_keepsTwo_62 : decode cX7_keepsTwo 62 = .ok (.aload_n 0, 1) := by decide +kernel
theorem dX7_keepsTwo_63 : decode cX7_keepsTwo 63 = .ok (.getfield 54, 3) := by decide +kernel
theorem dX7_keepsTwo_66 : decode cX7_keepsTwo 66 = .ok (.iload_n 2, 1) := by decide +kernel
theorem dX7_keepsTwo_67 : decode cX7_keepsTwo 67 = .ok (.iaload, 1) := by decide +kernel
theorem dX7_keepsTwo_68 : decode cX7_keepsTwo 68 = .ok (.aload_n 0, 1) := by decide +kernel
theorem dX7_keepsTwo_69 : decode cX7_keepsTwo 69 = .ok (.getfield 54, 3) := by decide +kernel
theorem dX7_keepsTwo_72 : decode cX7_keepsTwo 72 = .ok (.iload_n 3, 1) := by decide +kernel
theorem dX7_keepsTwo_73 : decode cX7_keepsTwo 73 = .ok (.iaload, 1) := by decide +kernel
theorem dX7_keepsTwo_74 : decode cX7_keepsTwo 74 = .ok (.invokevirtual 125, 3) := by decide +kernel
theorem dX7_keepsTwo_77 : decode cX7_keepsTwo 77 = .ok (.ifCond .ne 5, 3) := by decide +kernel
theorem dX7_keepsTwo_80 : decode cX7_keepsTwo 80 = .ok (.iconst 0, 1) := by decide +kernel
theorem dX7_keepsTwo_81 : decode cX7_keepsTwo 81 = .ok (.ireturn, 1) := by decide +kernel
theorem dX7_keepsTwo_82 : decode cX7_keepsTwo 82 = .ok (.iinc 3 1, 3) := by decide +kernel
theorem dX7_keepsTwo_85 : decode cX7_keepsTwo 85 = .ok (.goto (-73), 3) := by decide +kernel
theorem dX7_keepsTwo_88 : decode cX7_keepsTwo 88 = .ok (.iinc 2 1, 3) := by decide +kernel
theorem dX7_keepsTwo_91 : decode cX7_keepsTwo 91 = .ok (.goto (-89), 3) := by decide +kernel
theorem dX7_keepsTwo_94 : decode cX7_keepsTwo 94 = .ok (.iconst 1, 1) := by decide +kernel
theorem dX7_keepsTwo_95 : decode cX7_keepsTwo 95 = .ok (.ireturn, 1) := by decide +kernel
noncomputable def f_X7_keepsTwo_b82 (x0 : Nat) (x1 : Int32) (x2 : Int32) (x3 : Int32) (σ : Hp) : Option (((Int32) ⊕ ((Unit) ⊕ (Unit))) × Hp) := some (Sum.inl (x3 + 1), σ)
set_option maxRecDepth 100000 in
set_option maxHeartbeats 4000000 in
theorem t_X7_keepsTwo_b82 {l : Launch} {γ : Gm} {ad : Nat → Nat} {K : Option Value → Hp → Prop} (hc : Cx l γ 3 4 ad shM RX7 cX7_keepsTwo (some .boolean) K) {x0 : Nat} {x1 : Int32} {x2 : Int32} {x3 : Int32}  {σ : Hp} {KL : ((Int32) ⊕ ((Unit) ⊕ (Unit))) → Hp → Prop} (h : wpO (f_X7_keepsTwo_b82 x0 x1 x2 x3 σ) KL) (kn : ∀ (v : (Int32)) (σ : Hp), KL (Sum.inl v) σ → WW l γ 3 4 ad shM 12 [(0, .ref (ad x0)), (1, .int x1), (2, .int x2), (3, .int v)] [] σ) (kx80 : ∀ (v : Unit) (σ : Hp), KL (Sum.inr (Sum.inl v)) σ → WW l γ 3 4 ad shM 80 [] [] σ) (kx88 : ∀ (v : Unit) (σ : Hp), KL (Sum.inr (Sum.inr v)) σ → WW l γ 3 4 ad shM 88 [(0, .ref (ad x0)), (1, .int x1), (2, .int x2)] [] σ) : WW l γ 3 4 ad shM 82 [(0, .ref (ad x0)), (1, .int x1), (2, .int x2), (3, .int x3)] [] σ := by
  unfold f_X7_keepsTwo_b82 at h
  refine r_iincE hc (j := 3) (w := 1) (lv' := [(3, .int (x3 + 1)), (0, .ref (ad x0)), (1, .int x1), (2, .int x2)]) rfl (by decide) rfl (by decide) rfl dX7_keepsTwo_82 ?_
  refine r_goto hc (tgt := 12) dX7_keepsTwo_85 (by decide) ?_
  refine r_sub [1, 2, 3, 0] (lv' := [(0, .ref (ad x0)), (1, .int x1), (2, .int x2), (3, .int (x3 + 1))]) rfl ?_
  have h := wp_v h
  exact kn (x3 + 1) _ h
noncomputable def f_X7_keepsTwo_L12 (x0 : Nat) (x1 : Int32) (x2 : Int32) (v : (Int32)) (σ : Hp) : Option (((Int32) ⊕ ((Unit) ⊕ (Unit))) × Hp) := gO (getI shM 7 x0 27 σ) fun v1 => if v1 ≤ v then (some (Sum.inr (Sum.inr ()), σ)) else (gO (getI shM 7 x0 28 σ) fun v2 => gO (nz v2) fun z3 => gO (getI shM 7 x0 28 σ) fun v4 => gO (nz v4) fun z5 => gO (chk shM x0 7) fun _ => bO (f_X7_isLine x0 x1 (x2 / v2) (v / v4) σ) fun r6 σ7 => if r6 = 0 then (f_X7_keepsTwo_b82 x0 x1 x2 v σ7) else (gO (getI shM 7 x0 28 σ7) fun v9 => gO (nz v9) fun z10 => gO (getI shM 7 x0 28 σ7) fun v11 => gO (nz v11) fun z12 => gO (chk shM x0 7) fun _ => bO (f_X7_isLine x0 x1 (irm x2 v9) (irm v v11) σ7) fun r13 σ14 => if r13 = 0 then (f_X7_keepsTwo_b82 x0 x1 x2 v σ14) else (gO (getR shM 7 x0 25 σ14) fun v16 => gO (aldI shM 0 v16 x2 σ14) fun v17 => gO (getR shM 7 x0 25 σ14) fun v18 => gO (aldI shM 0 v18 v σ14) fun v19 => gO (chk shM x0 7) fun _ => bO (f_X7_isLine x0 x1 v17 v19 σ14) fun r20 σ21 => if r20 = 0 then (some (Sum.inr (Sum.inl ()), σ21)) else (f_X7_keepsTwo_b82 x0 x1 x2 v σ21))))
set_option maxRecDepth 100000 in
set_option maxHeartbeats 4000000 in
theorem t_X7_keepsTwo_L12 {l : Launch} {γ : Gm} {ad : Nat → Nat} {K : Option Value → Hp → Prop}  (hc : Cx l γ 3 4 ad shM RX7 cX7_keepsTwo (some .boolean) K) {x0 : Nat} {x1 : Int32} {x2 : Int32} {v : (Int32)} {σ : Hp} {KX : ((Unit) ⊕ (Unit)) → Hp → Prop} (h : wpO (wh (f_X7_keepsTwo_L12 x0 x1 x2) v σ) KX) (kx80 : ∀ (v : Unit) (σ : Hp), KX (Sum.inl v) σ → WW l γ 3 4 ad shM 80 [] [] σ) (kx88 : ∀ (v : Unit) (σ : Hp), KX (Sum.inr v) σ → WW l γ 3 4 ad shM 88 [(0, .ref (ad x0)), (1, .int x1), (2, .int x2)] [] σ) : WW l γ 3 4 ad shM 12 [(0, .ref (ad x0)), (1, .int x1), (2, .int x2), (3, .int v)] [] σ := by
  refine wh_W (P := fun v σ => WW l γ 3 4 ad shM 12 [(0, .ref (ad x0)), (1, .int x1), (2, .int x2), (3, .int v)] [] σ) (fun v σ h => ?_) h
  have kn : ∀ (v : (Int32)) (σ : Hp), WW l γ 3 4 ad shM 12 [(0, .ref (ad x0)), (1, .int x1), (2, .int x2), (3, .int v)] [] σ → WW l γ 3 4 ad shM 12 [(0, .ref (ad x0)), (1, .int x1), (2, .int x2), (3, .int v)] [] σ := fun _ _ h => h
  · unfold f_X7_keepsTwo_L12 at h
    refine r_iload_n hc 3 rfl rfl dX7_keepsTwo_12 ?_
    refine r_aload_n hc 0 rfl rfl dX7_keepsTwo_13 ?_
    obtain ⟨v1, ev1, h⟩ := wp_g h
    refine r_getI hc ev1 fl_X7_303 rfl dX7_keepsTwo_14 ?_
    refine r_icmp_ge hc (tgt := 88) dX7_keepsTwo_17 (by decide) (fun c => ?_) (fun c => ?_)
    · have h := wp_t c h
      refine r_sub [0, 1, 2] (lv' := [(0, .ref (ad x0)), (1, .int x1), (2, .int x2)]) rfl ?_
      have h := wp_v h
      exact kx88 () _ h
    · have h := wp_f c h
      refine r_aload_n hc 0 rfl rfl dX7_keepsTwo_20 ?_
      refine r_iload_n hc 1 rfl rfl dX7_keepsTwo_21 ?_
      refine r_iload_n hc 2 rfl rfl dX7_keepsTwo_22 ?_
      refine r_aload_n hc 0 rfl rfl dX7_keepsTwo_23 ?_
      obtain ⟨v2, ev2, h⟩ := wp_g h
      refine r_getI hc ev2 fl_X7_300 rfl dX7_keepsTwo_24 ?_
      obtain ⟨z3, ez3, h⟩ := wp_g h
      refine r_idiv hc ez3 dX7_keepsTwo_27 ?_
      refine r_iload_n hc 3 rfl rfl dX7_keepsTwo_28 ?_
      refine r_aload_n hc 0 rfl rfl dX7_keepsTwo_29 ?_
      obtain ⟨v4, ev4, h⟩ := wp_g h
      refine r_getI hc ev4 fl_X7_300 rfl dX7_keepsTwo_30 ?_
      obtain ⟨z5, ez5, h⟩ := wp_g h
      refine r_idiv hc ez5 dX7_keepsTwo_33 ?_
      obtain ⟨_, ek8, h⟩ := wp_g h
      obtain ⟨r6, σ7, er6, h⟩ := wp_b h
      refine r_callV hc (k0 := x0) mv_X7_isLine ml_X7_125 (c_X7_isLine er6) (chk_of ek8) cls_7.1 rfl rfl rfl (by decide) rfl (Nat.le_of_ble_eq_true rfl) dX7_keepsTwo_34 ?_
      refine r_if_eq hc (tgt := 82) dX7_keepsTwo_37 (by decide) (fun c => ?_) (fun c => ?_)
      · have h := wp_t c h
        exact t_X7_keepsTwo_b82 hc h kn kx80 kx88
      · have h := wp_f c h
        refine r_aload_n hc 0 rfl rfl dX7_keepsTwo_40 ?_
        refine r_iload_n hc 1 rfl rfl dX7_keepsTwo_41 ?_
        refine r_iload_n hc 2 rfl rfl dX7_keepsTwo_42 ?_
        refine r_aload_n hc 0 rfl rfl dX7_keepsTwo_43 ?_
        obtain ⟨v9, ev9, h⟩ := wp_g h
        refine r_getI hc ev9 fl_X7_300 rfl dX7_keepsTwo_44 ?_
        obtain ⟨z10, ez10, h⟩ := wp_g h
        refine r_irem hc ez10 dX7_keepsTwo_47 ?_
        refine r_iload_n hc 3 rfl rfl dX7_keepsTwo_48 ?_
        refine r_aload_n hc 0 rfl rfl dX7_keepsTwo_49 ?_
        obtain ⟨v11, ev11, h⟩ := wp_g h
        refine r_getI hc ev11 fl_X7_300 rfl dX7_keepsTwo_50 ?_
        obtain ⟨z12, ez12, h⟩ := wp_g h
        refine r_irem hc ez12 dX7_keepsTwo_53 ?_
        obtain ⟨_, ek15, h⟩ := wp_g h
        obtain ⟨r13, σ14, er13, h⟩ := wp_b h
        refine r_callV hc (k0 := x0) mv_X7_isLine ml_X7_125 (c_X7_isLine er13) (chk_of ek15) cls_7.1 rfl rfl rfl (by decide) rfl (Nat.le_of_ble_eq_true rfl) dX7_keepsTwo_54 ?_
        refine r_if_eq hc (tgt := 82) dX7_keepsTwo_57 (by decide) (fun c => ?_) (fun c => ?_)
        · have h := wp_t c h
          exact t_X7_keepsTwo_b82 hc h kn kx80 kx88
        · have h := wp_f c h
          refine r_aload_n hc 0 rfl rfl dX7_keepsTwo_60 ?_
          refine r_iload_n hc 1 rfl rfl dX7_keepsTwo_61 ?_
          refine r_aload_n hc 0 rfl rfl dX7_keepsTwo_62 ?_
          obtain ⟨v16, ev16, h⟩ := wp_g h
          refine r_getR hc ev16 fl_X7_54 rfl dX7_keepsTwo_63 ?_
          refine r_iload_n hc 2 rfl rfl dX7_keepsTwo_66 ?_
          obtain ⟨v17, ev17, h⟩ := wp_g h
          refine r_iald hc ev17 dX7_keepsTwo_67 ?_
          refine r_aload_n hc 0 rfl rfl dX7_keepsTwo_68 ?_
          obtain ⟨v18, ev18, h⟩ := wp_g h
          refine r_getR hc ev18 fl_X7_54 rfl dX7_keepsTwo_69 ?_
          refine r_iload_n hc 3 rfl rfl dX7_keepsTwo_72 ?_
          obtain ⟨v19, ev19, h⟩ := wp_g h
          refine r_iald hc ev19 dX7_keepsTwo_73 ?_
          obtain ⟨_, ek22, h⟩ := wp_g h
          obtain ⟨r20, σ21, er20, h⟩ := wp_b h
          refine r_callV hc (k0 := x0) mv_X7_isLine ml_X7_125 (c_X7_isLine er20) (chk_of ek22) cls_7.1 rfl rfl rfl (by decide) rfl (Nat.le_of_ble_eq_true rfl) dX7_keepsTwo_74 ?_
          refine r_if_ne hc (tgt := 82) dX7_keepsTwo_77 (by decide) (fun c => ?_) (fun c => ?_)
          · have h := wp_f c h
            exact t_X7_keepsTwo_b82 hc h kn kx80 kx88
          · have h := wp_t c h
            refine r_sub [] (lv' := []) rfl ?_
            have h := wp_v h
            exact kx80 () _ h
noncomputable def f_X7_keepsTwo_L2 (x0 : Nat) (x1 : Int32) (v : (Int32)) (σ : Hp) : Option (((Int32) ⊕ ((Unit) ⊕ (Unit))) × Hp) := gO (getI shM 7 x0 27 σ) fun v1 => if v1 ≤ v then (some (Sum.inr (Sum.inr ()), σ)) else (bO (wh (f_X7_keepsTwo_L12 x0 x1 v) 0 σ) fun y2 σ3 => (Sum.elim (fun y2' => (some (Sum.inr (Sum.inl ()), σ3))) (fun y4 => (some (Sum.inl (v + 1), σ3))) y2))
set_option maxRecDepth 100000 in
set_option maxHeartbeats 4000000 in
theorem t_X7_keepsTwo_L2 {l : Launch} {γ : Gm} {ad : Nat → Nat} {K : Option Value → Hp → Prop}  (hc : Cx l γ 3 4 ad shM RX7 cX7_keepsTwo (some .boolean) K) {x0 : Nat} {x1 : Int32} {v : (Int32)} {σ : Hp} {KX : ((Unit) ⊕ (Unit)) → Hp → Prop} (h : wpO (wh (f_X7_keepsTwo_L2 x0 x1) v σ) KX) (kx80 : ∀ (v : Unit) (σ : Hp), KX (Sum.inl v) σ → WW l γ 3 4 ad shM 80 [] [] σ) (kx94 : ∀ (v : Unit) (σ : Hp), KX (Sum.inr v) σ → WW l γ 3 4 ad shM 94 [] [] σ) : WW l γ 3 4 ad shM 2 [(0, .ref (ad x0)), (1, .int x1), (2, .int v)] [] σ := by
  refine wh_W (P := fun v σ => WW l γ 3 4 ad shM 2 [(0, .ref (ad x0)), (1, .int x1), (2, .int v)] [] σ) (fun v σ h => ?_) h
  have kn : ∀ (v : (Int32)) (σ : Hp), WW l γ 3 4 ad shM 2 [(0, .ref (ad x0)), (1, .int x1), (2, .int v)] [] σ → WW l γ 3 4 ad shM 2 [(0, .ref (ad x0)), (1, .int x1), (2, .int v)] [] σ := fun _ _ h => h
  · unfold f_X7_keepsTwo_L2 at h
    refine r_iload_n hc 2 rfl rfl dX7_keepsTwo_2 ?_
    refine r_aload_n hc 0 rfl rfl dX7_keepsTwo_3 ?_
    obtain ⟨v1, ev1, h⟩ := wp_g h
    refine r_getI hc ev1 fl_X7_303 rfl dX7_keepsTwo_4 ?_
    refine r_icmp_ge hc (tgt := 94) dX7_keepsTwo_7 (by decide) (fun c => ?_) (fun c => ?_)
    · have h := wp_t c h
      refine r_sub [] (lv' := []) rfl ?_
      have h := wp_v h
      exact kx94 () _ h
    · have h := wp_f c h
      refine r_iconst hc (v := 0) (by decide) dX7_keepsTwo_10 ?_
      refine r_istore_nE hc (i := 3) (lv' := [(3, .int 0), (0, .ref (ad x0)), (1, .int x1), (2, .int v)]) rfl rfl (by decide) rfl dX7_keepsTwo_11 ?_
      refine r_sub [1, 2, 3, 0] (lv' := [(0, .ref (ad x0)), (1, .int x1), (2, .int v), (3, .int 0)]) rfl ?_
      refine t_X7_keepsTwo_L12 hc (wp_bb h) ?_ ?_
      · intro y2' σ3 h
        have h := wp_sl h
        have h := wp_v h
        exact kx80 () _ h
      · intro y4 σ3 h
        have h := wp_sr h
        refine r_iincE hc (j := 2) (w := 1) (lv' := [(2, .int (v + 1)), (0, .ref (ad x0)), (1, .int x1)]) rfl (by decide) rfl (by decide) rfl dX7_keepsTwo_88 ?_
        refine r_goto hc (tgt := 2) dX7_keepsTwo_91 (by decide) ?_
        refine r_sub [1, 2, 0] (lv' := [(0, .ref (ad x0)), (1, .int x1), (2, .int (v + 1))]) rfl ?_
        have h := wp_v h
        exact kn (v + 1) _ h
noncomputable def f_X7_keepsTwo (x0 : Nat) (x1 : Int32) (σ : Hp) : Option (Int32 × Hp) := bO (wh (f_X7_keepsTwo_L2 x0 x1) 0 σ) fun y1 σ2 => (Sum.elim (fun y1' => (some (0, σ2))) (fun y3 => (some (1, σ2))) y1)
set_option maxRecDepth 100000 in
set_option maxHeartbeats 4000000 in
theorem t_X7_keepsTwo {l : Launch} {γ : Gm} {ad : Nat → Nat} {K : Option Value → Hp → Prop} (hc : Cx l γ 3 4 ad shM RX7 cX7_keepsTwo (some .boolean) K) {x0 : Nat} {x1 : Int32} {σ : Hp} (h : wpO (f_X7_keepsTwo x0 x1 σ) (KI K)) : WW l γ 3 4 ad shM 0 [(0, .ref (ad x0)), (1, .int x1)] [] σ := by
  unfold f_X7_keepsTwo at h
  refine r_iconst hc (v := 0) (by decide) dX7_keepsTwo_0 ?_
  refine r_istore_nE hc (i := 2) (lv' := [(2, .int 0), (0, .ref (ad x0)), (1, .int x1)]) rfl rfl (by decide) rfl dX7_keepsTwo_1 ?_
  refine r_sub [1, 2, 0] (lv' := [(0, .ref (ad x0)), (1, .int x1), (2, .int 0)]) rfl ?_
  refine t_X7_keepsTwo_L2 hc (wp_bb h) ?_ ?_
  · intro y1' σ2 h
    have h := wp_sl h
    refine r_iconst hc (v := 0) (by decide) dX7_keepsTwo_80 ?_
    have h := wp_v h
    exact r_zret hc h (by decide) dX7_keepsTwo_81
  · intro y3 σ2 h
    have h := wp_sr h
    refine r_iconst hc (v := 1) (by decide) dX7_keepsTwo_94 ?_
    have h := wp_v h
    exact r_zret hc h (by decide) dX7_keepsTwo_95
theorem c_X7_keepsTwo {l : Launch} {x0 : Nat} {x1 : Int32} {σ σ' : Hp} {r : Int32} (h : f_X7_keepsTwo x0 x1 σ = some (r, σ')) : Mt l yX7_keepsTwo cX7_keepsTwo 4 (some .boolean) 3 shM (fun ad => [.ref (ad x0), .int x1]) σ (fun ad => some (.int r)) σ' := mt_i (own := RX7) (by decide) rfl (fun _ => Nat.le_of_ble_eq_true rfl) (fun γ ad K hc hk => t_X7_keepsTwo hc ⟨_, _, h, hk⟩)

-- NetMapsModel.keepsThree(I)Z
theorem dX7_keepsThree_0 : decode cX7_keepsThree 0 = .ok (.aload_n 0, 1) := by decide +kernel
theorem dX7_keepsThree_1 : decode cX7_keepsThree 1 = .ok (.getfield 300, 3) := by decide +kernel
theorem dX7_keepsThree_4 : decode cX7_keepsThree 4 = .ok (.aload_n 0, 1) := by decide +kernel
theorem dX7_keepsThree_5 : decode cX7_keepsThree 5 = .ok (.getfield 300, 3) := by decide +kernel
theorem dX7_keepsThree_8 : decode cX7_keepsThree 8 = .ok (.imul, 1) := by decide +kernel
theorem dX7_keepsThree_9 : decode cX7_keepsThree 9 = .ok (.istore_n 2, 1) := by decide +kernel
theorem dX7_keepsThree_10 : decode cX7_keepsThree 10 = .ok (.iconst 0, 1) := by decide +kernel
theorem dX7_keepsThree_11 : decode cX7_keepsThree 11 = .ok (.istore_n 3, 1) := by decide +kernel
theorem dX7_keepsThree_12 : decode cX7_keepsThree 12 = .ok (.iload_n 3, 1) := by decide +kernel
theorem dX7_keepsThree_13 : decode cX7_keepsThree 13 = .ok (.aload_n 0, 1) := by decide +kernel
theorem dX7_keepsThree_14 : decode cX7_keepsThree 14 = .ok (.getfield 303, 3) := by decide +kernel
theorem dX7_keepsThree_17 : decode cX7_keepsThree 17 = .ok (.if_icmp .ge 129, 3) := by decide +kernel
theorem dX7_keepsThree_20 : decode cX7_keepsThree 20 = .ok (.iconst 0, 1) := by decide +kernel
theorem dX7_keepsThree_21 : decode cX7_keepsThree 21 = .ok (.istore 4, 2) := by decide +kernel
theorem dX7_keepsThree_23 : decode cX7_keepsThree 23 = .ok (.iload 4, 2) := by decide +kernel
theorem dX7_keepsThree_25 : decode cX7_keepsThree 25 = .ok (.aload_n 0, 1) := by decide +kernel
theorem dX7_keepsThree_26 : decode cX7_keepsThree 26 = .ok (.getfield 303, 3) := by decide +kernel
theorem dX7_keepsThree_29 : decode cX7_keepsThree 29 = .ok (.if_icmp .ge 111, 3) := by decide +kernel
theorem dX7_keepsThree_32 : decode cX7_keepsThree 32 = .ok (.aload_n 0, 1) := by decide +kernel
theorem dX7_keepsThree_33 : decode cX7_keepsThree 33 = .ok (.iload_n 1, 1) := by decide +kernel
theorem dX7_keepsThree_34 : decode cX7_keepsThree 34 = .ok (.iload_n 3, 1) := by decide +kernel
theorem dX7_keepsThree_35 : decode cX7_keepsThree 35 = .ok (.iload_n 2, 1) := by decide +kernel
theorem dX7_keepsThree_36 : decode cX7_keepsThree 36 = .ok (.idiv, 1) := by decide +kernel
theorem dX7_keepsThree_37 : decode cX7_keepsThree 37 = .ok (.iload 4, 2) := by decide +kernel
theorem dX7_keepsThree_39 : decode cX7_keepsThree 39 = .ok (.iload_n 2, 1) := by decide +kernel
theorem dX7_keepsThree_40 : decode cX7_keepsThree 40 = .ok (.idiv, 1) := by decide +kernel
theorem dX7_keepsThree_41 : decode cX7_keepsThree 41 = .ok (.invokevirtual 125, 3) := by decide +kernel
theorem dX7_keepsThree_44 : decode cX7_keepsThree 44 = .ok (.ifCond .eq 59, 3) := by decide +kernel
theorem dX7_keepsThree_47 : decode cX7_keepsThree 47 = .ok (.aload_n 0, 1) := by decide +kernel
theorem dX7_keepsThree_48 : decode cX7_keepsThree 48 = .ok (.iload_n 1, 1) := by decide +kernel
theorem dX7_keepsThree_49 : decode cX7_keepsThree 49 = .ok (.iload_n 3, 1) := by decide +kernel
theorem dX7_keepsThree_50 : decode cX7_keepsThree 50 = .ok (.aload_n 0, 1) := by decide +kernel
theorem dX7_keepsThree_51 : decode cX7_keepsThree 51 = .ok (.getfield 300, 3) := by decide +kernel
theorem dX7_keepsThree_54 : decode cX7_keepsThree 54 = .ok (.idiv, 1) := by decide +kernel
theorem dX7_keepsThree_55 : decode cX7_keepsThree 55 = .ok (.aload_n 0, 1) := by decide +kernel
theorem dX7_keepsThree_56 : decode cX7_keepsThree 56 = .ok (.getfield 300, 3) := by decide +kernel
theorem dX7_keepsThree_59 : decode cX7_keepsThree 59 = .ok (.irem, 1) := by decide +kernel
theorem dX7_keepsThree_60 : decode cX7_keepsThree 60 = .ok (.iload 4, 2) := by decide +kernel
theorem dX7_keepsThree_62 : decode cX7_keepsThree 62 = .ok (.aload_n 0, 1) := by decide +kernel
theorem dX7_keepsThree_63 : decode cX7_keepsThree 63 = .ok (.getfield 300, 3) := by decide +kernel
theorem dX7_keepsThree_66 : decode cX7_keepsThree 66 = .ok (.idiv, 1) := by decide +kernel
theorem dX7_keepsThree_67 : decode cX7_keepsThree 67 = .ok (.aload_n 0, 1) := by decide +kernel
theorem dX7_keepsThree_68 : decode cX7_keepsThree 68 = .ok (.getfield 300, 3) := by decide +kernel
theorem dX7_keepsThree_71 : decode cX7_keepsThree 71 = .ok (.irem, 1) := by decide +kernel
theorem dX7_keepsThree_72 : decode cX7_keepsThree 72 = .ok (.invokevirtual 125, 3) := by decide +kernel
theorem dX7_keepsThree_75 : decode cX7_keepsThree 75 = .ok (.ifCond .eq 28, 3) := by decide +kernel
theorem dX7_keepsThree_78 : decode cX7_keepsThree 78 = .ok (.aload_n 0, 1) := by decide +kernel
theorem dX7_keepsThree_79 : decode cX7_keepsThree 79 = .ok (.iload_n 1, 1) := by decide +kernel
theorem dX7_keepsThree_80 : decode cX7_keepsThree 80 = .ok (.iload_n 3, 1) := by decide +kernel
theorem dX7_keepsThree_81 : decode cX7_keepsThree 81 = .ok (.aload_n 0, 1) := by decide +kernel
theorem dX7_keepsThree_82 : decode cX7_keepsThree 82 = .ok (.getfield 300, 3) := by decide +kernel
theorem dX7_keepsThree_85 : decode cX7_keepsThree 85 = .ok (.irem, 1) := by decide +kernel
theorem dX7_keepsThree_86 : decode cX7_keepsThree 86 = .ok (.iload 4, 2) := by decide +kernel
theorem dX7_keepsThree_88 : decode cX7_keepsThree 88 = .ok (.aload_n 0, 1) := by decide +kernel
theorem dX7_keepsThree_89 : decode cX7_keepsThree 89 = .ok (.getfield 300, 3) := by decide +kernel
theorem dX7_keepsThree_92 : decode cX7_keepsThree 92 = .ok (.irem, 1) := by decide +kernel
theorem dX7_keepsThree_93 : decode cX7_keepsThree 93 = .ok (.invokevirtual 125, 3) := by decide +kernel
theorem dX7_keepsThree_96 : decode cX7_keepsThree 96 = .ok (.ifCond .eq 7, 3) := by decide +kernel
theorem dX7_keepsThree_99 : decode cX7_keepsThree 99 = .ok (.iconst 1, 1) := by decide +kernel
theorem dX7_keepsThree_100 : decode cX7_keepsThree 100 = .ok (.goto 4, 3) := by decide +kernel
theorem dX7_keepsThree_103 : decode cX7_keepsThree 103 = .ok (.iconst 0, 1) := by decide +kernel
theorem dX7_keepsThree_104 : decode cX7_keepsThree 104 = .ok (.istore 5, 2) := by decide +kernel
theorem dX7_keepsThree_106 : decode cX7_keepsThree 106 = .ok (.iload 5, 2) := by decide +kernel
theorem dX7_keepsThree_108 : decode cX7_keepsThree 108 = .ok (.ifCond .eq 26, 3) := by decide +kernel
theorem dX7_keepsThree_111 : decode cX7_keepsThree 111 = .ok (.aload_n 0, 1) := by decide +kernel
theorem dX7_keepsThree_112 : decode cX7_keepsThree 112 = .ok (.iload_n 1, 1) := by decide +kernel
theorem dX7_keepsThree_113 : decode cX7_keepsThree 113 = .ok (.aload_n 0, 1) := by decide +kernel
theorem dX7_keepsThree_114 : decode cX7_keepsThree 114 = .ok (.getfield 54, 3) := by decide +kernel
theorem dX7_keepsThree_117 : decode cX7_keepsThree 117 = .ok (.iload_n 3, 1) := by decide +kernel
theorem dX7_keepsThree_118 : decode cX7_keepsThree 118 = .ok (.iaload, 1) := by decide +kernel
theorem dX7_keepsThree_119 : decode cX7_keepsThree 119 = .ok (.aload_n 0, 1) := by decide +kernel
theorem dX7_keepsThree_120 : decode cX7_keepsThree 120 = .ok (.getfield 54, 3) := by decide +kernel
theorem dX7_keepsThree_123 : decode cX7_keepsThree 123 = .ok (.iload 4, 2) := by decide +kernel
theorem dX7_keepsThree_125 : decode cX7_keepsThree 125 = .ok (.iaload, 1) := by decide +kernel
theorem dX7_keepsThree_126 : decode cX7_keepsThree 126 = .ok (.invokevirtual 125, 3) := by decide +kernel
theorem dX7_keepsThree_129 : decode cX7_keepsThree 129 = .ok (.ifCond .ne 5, 3) := by decide +kernel
theorem dX7_keepsThree_132 : decode cX7_keepsThree 132 = .ok (.iconst 0, 1) := by decide +kernel
theorem dX7_keepsThree_133 : decode cX7_keepsThree 133 = .ok (.ireturn, 1) := by decide +kernel
theorem dX7_keepsThree_134 : decode cX7_keepsThree 134 = .ok (.iinc 4 1, 3) := by decide +kernel
theorem dX7_keepsThree_137 : decode cX7_keepsThree 137 = .ok (.goto (-114), 3) := by decide +kernel
theorem dX7_keepsThree_140 : decode cX7_keepsThree 140 = .ok (.iinc 3 1, 3) := by decide +kernel
theorem dX7_keepsThree_143 : decode cX7_keepsThree 143 = .ok (.goto (-131), 3) := by decide +kernel
theorem dX7_keepsThree_146 : decode cX7_keepsThree 146 = .ok (.iconst 1, 1) := by decide +kernel
theorem dX7_keepsThree_147 : decode cX7_keepsThree 147 = .ok (.ireturn, 1) := by decide +kernel
noncomputable def f_X7_keepsThree_b134 (x0 : Nat) (x1 : Int32) (x2 : Int32) (x3 : Int32) (x4 : Int32) (σ : Hp) : Option (((Int32) ⊕ ((Unit) ⊕ (Unit))) × Hp) := some (Sum.inl (x4 + 1), σ)
set_option maxRecDepth 100000 in
set_option maxHeartbeats 4000000 in
theorem t_X7_keepsThree_b134 {l : Launch} {γ : Gm} {ad : Nat → Nat} {K : Option Value → Hp → Prop} (hc : Cx l γ 3 6 ad shM RX7 cX7_keepsThree (some .boolean) K) {x0 : Nat} {x1 : Int32} {x2 : Int32} {x3 : Int32} {x4 : Int32}  {σ : Hp} {KL : ((Int32) ⊕ ((Unit) ⊕ (Unit))) → Hp → Prop} (h : wpO (f_X7_keepsThree_b134 x0 x1 x2 x3 x4 σ) KL) (kn : ∀ (v : (Int32)) (σ : Hp), KL (Sum.inl v) σ → WW l γ 3 6 ad shM 23 [(0, .ref (ad x0)), (1, .int x1), (2, .int x2), (3, .int x3), (4, .int v)] [] σ) (kx132 : ∀ (v : Unit) (σ : Hp), KL (Sum.inr (Sum.inl v)) σ → WW l γ 3 6 ad shM 132 [] [] σ) (kx140 : ∀ (v : Unit) (σ : Hp), KL (Sum.inr (Sum.inr v)) σ → WW l γ 3 6 ad shM 140 [(0, .ref (ad x0)), (1, .int x1), (2, .int x2), (3, .int x3)] [] σ) : WW l γ 3 6 ad shM 134 [(0, .ref (ad x0)), (1, .int x1), (2, .int x2), (3, .int x3), (4, .int x4)] [] σ := by
  unfold f_X7_keepsThree_b134 at h
  refine r_iincE hc (j := 4) (w := 1) (lv' := [(4, .int (x4 + 1)), (0, .ref (ad x0)), (1, .int x1), (2, .int x2), (3, .int x3)]) rfl (by decide) rfl (by decide) rfl dX7_keepsThree_134 ?_
  refine r_goto hc (tgt := 23) dX7_keepsThree_137 (by decide) ?_
  refine r_sub [1, 2, 3, 4, 0] (lv' := [(0, .ref (ad x0)), (1, .int x1), (2, .int x2), (3, .int x3), (4, .int (x4 + 1))]) rfl ?_
  have h := wp_v h
  exact kn (x4 + 1) _ h
noncomputable def f_X7_keepsThree_b104 (x0 : Nat) (x1 : Int32) (x2 : Int32) (x3 : Int32) (x4 : Int32) (s0 : Int32) (σ : Hp) : Option (((Int32) ⊕ ((Unit) ⊕ (Unit))) × Hp) := if s0 = 0 then (f_X7_keepsThree_b134 x0 x1 x2 x3 x4 σ) else (gO (getR shM 7 x0 25 σ) fun v1 => gO (aldI shM 0 v1 x3 σ) fun v2 => gO (getR shM 7 x0 25 σ) fun v3 => gO (aldI shM 0 v3 x4 σ) fun v4 => gO (chk shM x0 7) fun _ => bO (f_X7_isLine x0 x1 v2 v4 σ) fun r5 σ6 => if r5 = 0 then (some (Sum.inr (Sum.inl ()), σ6)) else (f_X7_keepsThree_b134 x0 x1 x2 x3 x4 σ6))
set_option maxRecDepth 100000 in
set_option maxHeartbeats 4000000 in
theorem t_X7_keepsThree_b104 {l : Launch} {γ : Gm} {ad : Nat → Nat} {K : Option Value → Hp → Prop} (hc : Cx l γ 3 6 ad shM RX7 cX7_keepsThree (some .boolean) K) {x0 : Nat} {x1 : Int32} {x2 : Int32} {x3 : Int32} {x4 : Int32} {s0 : Int32}  {σ : Hp} {KL : ((Int32) ⊕ ((Unit) ⊕ (Unit))) → Hp → Prop} (h : wpO (f_X7_keepsThree_b104 x0 x1 x2 x3 x4 s0 σ) KL) (kn : ∀ (v : (Int32)) (σ : Hp), KL (Sum.inl v) σ → WW l γ 3 6 ad shM 23 [(0, .ref (ad x0)), (1, .int x1), (2, .int x2), (3, .int x3), (4, .int v)] [] σ) (kx132 : ∀ (v : Unit) (σ : Hp), KL (Sum.inr (Sum.inl v)) σ → WW l γ 3 6 ad shM 132 [] [] σ) (kx140 : ∀ (v : Unit) (σ : Hp), KL (Sum.inr (Sum.inr v)) σ → WW l γ 3 6 ad shM 140 [(0, .ref (ad x0)), (1, .int x1), (2, .int x2), (3, .int x3)] [] σ) : WW l γ 3 6 ad shM 104 [(0, .ref (ad x0)), (1, .int x1), (2, .int x2), (3, .int x3), (4, .int x4)] [.int s0] σ := by
  unfold f_X7_keepsThree_b104 at h
  refine r_istoreE hc (i := 5) (lv' := [(5, .int s0), (0, .ref (ad x0)), (1, .int x1), (2, .int x2), (3, .int x3), (4, .int x4)]) rfl (by decide) rfl dX7_keepsThree_104 ?_
  refine r_iload hc 0 rfl dX7_keepsThree_106 ?_
  refine r_if_eq hc (tgt := 134) dX7_keepsThree_108 (by decide) (fun c => ?_) (fun c => ?_)
  · have h := wp_t c h
    refine r_sub [1, 2, 3, 4, 5] (lv' := [(0, .ref (ad x0)), (1, .int x1), (2, .int x2), (3, .int x3), (4, .int x4)]) rfl ?_
    exact t_X7_keepsThree_b134 hc h kn kx132 kx140
  · have h := wp_f c h
    refine r_aload_n hc 1 rfl rfl dX7_keepsThree_111 ?_
    refine r_iload_n hc 2 rfl rfl dX7_keepsThree_112 ?_
    refine r_aload_n hc 1 rfl rfl dX7_keepsThree_113 ?_
    obtain ⟨v1, ev1, h⟩ := wp_g h
    refine r_getR hc ev1 fl_X7_54 rfl dX7_keepsThree_114 ?_
    refine r_iload_n hc 4 rfl rfl dX7_keepsThree_117 ?_
    obtain ⟨v2, ev2, h⟩ := wp_g h
    refine r_iald hc ev2 dX7_keepsThree_118 ?_
    refine r_aload_n hc 1 rfl rfl dX7_keepsThree_119 ?_
    obtain ⟨v3, ev3, h⟩ := wp_g h
    refine r_getR hc ev3 fl_X7_54 rfl dX7_keepsThree_120 ?_
    refine r_iload hc 5 rfl dX7_keepsThree_123 ?_
    obtain ⟨v4, ev4, h⟩ := wp_g h
    refine r_iald hc ev4 dX7_keepsThree_125 ?_
    obtain ⟨_, ek7, h⟩ := wp_g h
    obtain ⟨r5, σ6, er5, h⟩ := wp_b h
    refine r_callV hc (k0 := x0) mv_X7_isLine ml_X7_125 (c_X7_isLine er5) (chk_of ek7) cls_7.1 rfl rfl rfl (by decide) rfl (Nat.le_of_ble_eq_true rfl) dX7_keepsThree_126 ?_
    refine r_if_ne hc (tgt := 134) dX7_keepsThree_129 (by decide) (fun c => ?_) (fun c => ?_)
    · have h := wp_f c h
      refine r_sub [1, 2, 3, 4, 5] (lv' := [(0, .ref (ad x0)), (1, .int x1), (2, .int x2), (3, .int x3), (4, .int x4)]) rfl ?_
      exact t_X7_keepsThree_b134 hc h kn kx132 kx140
    · have h := wp_t c h
      refine r_sub [] (lv' := []) rfl ?_
      have h := wp_v h
      exact kx132 () _ h
noncomputable def f_X7_keepsThree_b103 (x0 : Nat) (x1 : Int32) (x2 : Int32) (x3 : Int32) (x4 : Int32) (σ : Hp) : Option (((Int32) ⊕ ((Unit) ⊕ (Unit))) × Hp) := f_X7_keepsThree_b104 x0 x1 x2 x3 x4 0 σ
set_option maxRecDepth 100000 in
set_option maxHeartbeats 4000000 in
theorem t_X7_keepsThree_b103 {l : Launch} {γ : Gm} {ad : Nat → Nat} {K : Option Value → Hp → Prop} (hc : Cx l γ 3 6 ad shM RX7 cX7_keepsThree (some .boolean) K) {x0 : Nat} {x1 : Int32} {x2 : Int32} {x3 : Int32} {x4 : Int32}  {σ : Hp} {KL : ((Int32) ⊕ ((Unit) ⊕ (Unit))) → Hp → Prop} (h : wpO (f_X7_keepsThree_b103 x0 x1 x2 x3 x4 σ) KL) (kn : ∀ (v : (Int32)) (σ : Hp), KL (Sum.inl v) σ → WW l γ 3 6 ad shM 23 [(0, .ref (ad x0)), (1, .int x1), (2, .int x2), (3, .int x3), (4, .int v)] [] σ) (kx132 : ∀ (v : Unit) (σ : Hp), KL (Sum.inr (Sum.inl v)) σ → WW l γ 3 6 ad shM 132 [] [] σ) (kx140 : ∀ (v : Unit) (σ : Hp), KL (Sum.inr (Sum.inr v)) σ → WW l γ 3 6 ad shM 140 [(0, .ref (ad x0)), (1, .int x1), (2, .int x2), (3, .int x3)] [] σ) : WW l γ 3 6 ad shM 103 [(0, .ref (ad x0)), (1, .int x1), (2, .int x2), (3, .int x3), (4, .int x4)] [] σ := by
  unfold f_X7_keepsThree_b103 at h
  refine r_iconst hc (v := 0) (by decide) dX7_keepsThree_103 ?_
  exact t_X7_keepsThree_b104 hc h kn kx132 kx140
noncomputable def f_X7_keepsThree_L23 (x0 : Nat) (x1 : Int32) (x2 : Int32) (x3 : Int32) (v : (Int32)) (σ : Hp) : Option (((Int32) ⊕ ((Unit) ⊕ (Unit))) × Hp) := gO (getI shM 7 x0 27 σ) fun v1 => if v1 ≤ v then (some (Sum.inr (Sum.inr ()), σ)) else (gO (nz x2) fun z2 => gO (nz x2) fun z3 => gO (chk shM x0 7) fun _ => bO (f_X7_isLine x0 x1 (x3 / x2) (v / x2) σ) fun r4 σ5 => if r4 = 0 then (f_X7_keepsThree_b103 x0 x1 x2 x3 v σ5) else (gO (getI shM 7 x0 28 σ5) fun v7 => gO (nz v7) fun z8 => gO (getI shM 7 x0 28 σ5) fun v9 => gO (nz v9) fun z10 => gO (getI shM 7 x0 28 σ5) fun v11 => gO (nz v11) fun z12 => gO (getI shM 7 x0 28 σ5) fun v13 => gO (nz v13) fun z14 => gO (chk shM x0 7) fun _ => bO (f_X7_isLine x0 x1 (irm (x3 / v7) v9) (irm (v / v11) v13) σ5) fun r15 σ16 => if r15 = 0 then (f_X7_keepsThree_b103 x0 x1 x2 x3 v σ16) else (gO (getI shM 7 x0 28 σ16) fun v18 => gO (nz v18) fun z19 => gO (getI shM 7 x0 28 σ16) fun v20 => gO (nz v20) fun z21 => gO (chk shM x0 7) fun _ => bO (f_X7_isLine x0 x1 (irm x3 v18) (irm v v20) σ16) fun r22 σ23 => if r22 = 0 then (f_X7_keepsThree_b103 x0 x1 x2 x3 v σ23) else (f_X7_keepsThree_b104 x0 x1 x2 x3 v 1 σ23))))
set_option maxRecDepth 100000 in
set_option maxHeartbeats 4000000 in
theorem t_X7_keepsThree_L23 {l : Launch} {γ : Gm} {ad : Nat → Nat} {K : Option Value → Hp → Prop}  (hc : Cx l γ 3 6 ad shM RX7 cX7_keepsThree (some .boolean) K) {x0 : Nat} {x1 : Int32} {x2 : Int32} {x3 : Int32} {v : (Int32)} {σ : Hp} {KX : ((Unit) ⊕ (Unit)) → Hp → Prop} (h : wpO (wh (f_X7_keepsThree_L23 x0 x1 x2 x3) v σ) KX) (kx132 : ∀ (v : Unit) (σ : Hp), KX (Sum.inl v) σ → WW l γ 3 6 ad shM 132 [] [] σ) (kx140 : ∀ (v : Unit) (σ : Hp), KX (Sum.inr v) σ → WW l γ 3 6 ad shM 140 [(0, .ref (ad x0)), (1, .int x1), (2, .int x2), (3, .int x3)] [] σ) : WW l γ 3 6 ad shM 23 [(0, .ref (ad x0)), (1, .int x1), (2, .int x2), (3, .int x3), (4, .int v)] [] σ := by
  refine wh_W (P := fun v σ => WW l γ 3 6 ad shM 23 [(0, .ref (ad x0)), (1, .int x1), (2, .int x2), (3, .int x3), (4, .int v)] [] σ) (fun v σ h => ?_) h
  have kn : ∀ (v : (Int32)) (σ : Hp), WW l γ 3 6 ad shM 23 [(0, .ref (ad x0)), (1, .int x1), (2, .int x2), (3, .int x3), (4, .int v)] [] σ → WW l γ 3 6 ad shM 23 [(0, .ref (ad x0)), (1, .int x1), (2, .int x2), (3, .int x3), (4, .int v)] [] σ := fun _ _ h => h
  · unfold f_X7_keepsThree_L23 at h
    refine r_iload hc 4 rfl dX7_keepsThree_23 ?_
    refine r_aload_n hc 0 rfl rfl dX7_keepsThree_25 ?_
    obtain ⟨v1, ev1, h⟩ := wp_g h
    refine r_getI hc ev1 fl_X7_303 rfl dX7_keepsThree_26 ?_
    refine r_icmp_ge hc (tgt := 140) dX7_keepsThree_29 (by decide) (fun c => ?_) (fun c => ?_)
    · have h := wp_t c h
      refine r_sub [0, 1, 2, 3] (lv' := [(0, .ref (ad x0)), (1, .int x1), (2, .int x2), (3, .int x3)]) rfl ?_
      have h := wp_v h
      exact kx140 () _ h
    · have h := wp_f c h
      refine r_aload_n hc 0 rfl rfl dX7_keepsThree_32 ?_
      refine r_iload_n hc 1 rfl rfl dX7_keepsThree_33 ?_
      refine r_iload_n hc 3 rfl rfl dX7_keepsThree_34 ?_
      refine r_iload_n hc 2 rfl rfl dX7_keepsThree_35 ?_
      obtain ⟨z2, ez2, h⟩ := wp_g h
      refine r_idiv hc ez2 dX7_keepsThree_36 ?_
      refine r_iload hc 4 rfl dX7_keepsThree_37 ?_
      refine r_iload_n hc 2 rfl rfl dX7_keepsThree_39 ?_
      obtain ⟨z3, ez3, h⟩ := wp_g h
      refine r_idiv hc ez3 dX7_keepsThree_40 ?_
      obtain ⟨_, ek6, h⟩ := wp_g h
      obtain ⟨r4, σ5, er4, h⟩ := wp_b h
      refine r_callV hc (k0 := x0) mv_X7_isLine ml_X7_125 (c_X7_isLine er4) (chk_of ek6) cls_7.1 rfl rfl rfl (by decide) rfl (Nat.le_of_ble_eq_true rfl) dX7_keepsThree_41 ?_
      refine r_if_eq hc (tgt := 103) dX7_keepsThree_44 (by decide) (fun c => ?_) (fun c => ?_)
      · have h := wp_t c h
        exact t_X7_keepsThree_b103 hc h kn kx132 kx140
      · have h := wp_f c h
        refine r_aload_n hc 0 rfl rfl dX7_keepsThree_47 ?_
        refine r_iload_n hc 1 rfl rfl dX7_keepsThree_48 ?_
        refine r_iload_n hc 3 rfl rfl dX7_keepsThree_49 ?_
        refine r_aload_n hc 0 rfl rfl dX7_keepsThree_50 ?_
        obtain ⟨v7, ev7, h⟩ := wp_g h
        refine r_getI hc ev7 fl_X7_300 rfl dX7_keepsThree_51 ?_
        obtain ⟨z8, ez8, h⟩ := wp_g h
        refine r_idiv hc ez8 dX7_keepsThree_54 ?_
        refine r_aload_n hc 0 rfl rfl dX7_keepsThree_55 ?_
        obtain ⟨v9, ev9, h⟩ := wp_g h
        refine r_getI hc ev9 fl_X7_300 rfl dX7_keepsThree_56 ?_
        obtain ⟨z10, ez10, h⟩ := wp_g h
        refine r_irem hc ez10 dX7_keepsThree_59 ?_
        refine r_iload hc 4 rfl dX7_keepsThree_60 ?_
        refine r_aload_n hc 0 rfl rfl dX7_keepsThree_62 ?_
        obtain ⟨v11, ev11, h⟩ := wp_g h
        refine r_getI hc ev11 fl_X7_300 rfl dX7_keepsThree_63 ?_
        obtain ⟨z12, ez12, h⟩ := wp_g h
        refine r_idiv hc ez12 dX7_keepsThree_66 ?_
        refine r_aload_n hc 0 rfl rfl dX7_keepsThree_67 ?_
        obtain ⟨v13, ev13, h⟩ := wp_g h
        refine r_getI hc ev13 fl_X7_300 rfl dX7_keepsThree_68 ?_
        obtain ⟨z14, ez14, h⟩ := wp_g h
        refine r_irem hc ez14 dX7_keepsThree_71 ?_
        obtain ⟨_, ek17, h⟩ := wp_g h
        obtain ⟨r15, σ16, er15, h⟩ := wp_b h
        refine r_callV hc (k0 := x0) mv_X7_isLine ml_X7_125 (c_X7_isLine er15) (chk_of ek17) cls_7.1 rfl rfl rfl (by decide) rfl (Nat.le_of_ble_eq_true rfl) dX7_keepsThree_72 ?_
        refine r_if_eq hc (tgt := 103) dX7_keepsThree_75 (by decide) (fun c => ?_) (fun c => ?_)
        · have h := wp_t c h
          exact t_X7_keepsThree_b103 hc h kn kx132 kx140
        · have h := wp_f c h
          refine r_aload_n hc 0 rfl rfl dX7_keepsThree_78 ?_
          refine r_iload_n hc 1 rfl rfl dX7_keepsThree_79 ?_
          refine r_iload_n hc 3 rfl rfl dX7_keepsThree_80 ?_
          refine r_aload_n hc 0 rfl rfl dX7_keepsThree_81 ?_
          obtain ⟨v18, ev18, h⟩ := wp_g h
          refine r_getI hc ev18 fl_X7_300 rfl dX7_keepsThree_82 ?_
          obtain ⟨z19, ez19, h⟩ := wp_g h
          refine r_irem hc ez19 dX7_keepsThree_85 ?_
          refine r_iload hc 4 rfl dX7_keepsThree_86 ?_
          refine r_aload_n hc 0 rfl rfl dX7_keepsThree_88 ?_
          obtain ⟨v20, ev20, h⟩ := wp_g h
          refine r_getI hc ev20 fl_X7_300 rfl dX7_keepsThree_89 ?_
          obtain ⟨z21, ez21, h⟩ := wp_g h
          refine r_irem hc ez21 dX7_keepsThree_92 ?_
          obtain ⟨_, ek24, h⟩ := wp_g h
          obtain ⟨r22, σ23, er22, h⟩ := wp_b h
          refine r_callV hc (k0 := x0) mv_X7_isLine ml_X7_125 (c_X7_isLine er22) (chk_of ek24) cls_7.1 rfl rfl rfl (by decide) rfl (Nat.le_of_ble_eq_true rfl) dX7_keepsThree_93 ?_
          refine r_if_eq hc (tgt := 103) dX7_keepsThree_96 (by decide) (fun c => ?_) (fun c => ?_)
          · have h := wp_t c h
            exact t_X7_keepsThree_b103 hc h kn kx132 kx140
          · have h := wp_f c h
            refine r_iconst hc (v := 1) (by decide) dX7_keepsThree_99 ?_
            refine r_goto hc (tgt := 104) dX7_keepsThree_100 (by decide) ?_
            exact t_X7_keepsThree_b104 hc h kn kx132 kx140
noncomputable def f_X7_keepsThree_L12 (x0 : Nat) (x1 : Int32) (x2 : Int32) (v : (Int32)) (σ : Hp) : Option (((Int32) ⊕ ((Unit) ⊕ (Unit))) × Hp) := gO (getI shM 7 x0 27 σ) fun v1 => if v1 ≤ v then (some (Sum.inr (Sum.inr ()), σ)) else (bO (wh (f_X7_keepsThree_L23 x0 x1 x2 v) 0 σ) fun y2 σ3 => (Sum.elim (fun y2' => (some (Sum.inr (Sum.inl ()), σ3))) (fun y4 => (some (Sum.inl (v + 1), σ3))) y2))
set_option maxRecDepth 100000 in
set_option maxHeartbeats 4000000 in
theorem t_X7_keepsThree_L12 {l : Launch} {γ : Gm} {ad : Nat → Nat} {K : Option Value → Hp → Prop}  (hc : Cx l γ 3 6 ad shM RX7 cX7_keepsThree (some .boolean) K) {x0 : Nat} {x1 : Int32} {x2 : Int32} {v : (Int32)} {σ : Hp} {KX : ((Unit) ⊕ (Unit)) → Hp → Prop} (h : wpO (wh (f_X7_keepsThree_L12 x0 x1 x2) v σ) KX) (kx132 : ∀ (v : Unit) (σ : Hp), KX (Sum.inl v) σ → WW l γ 3 6 ad shM 132 [] [] σ) (kx146 : ∀ (v : Unit) (σ : Hp), KX (Sum.inr v) σ → WW l γ 3 6 ad shM 146 [] [] σ) : WW l γ 3 6 ad shM 12 [(0, .ref (ad x0)), (1, .int x1), (2, .int x2), (3, .int v)] [] σ := by
  refine wh_W (P := fun v σ => WW l γ 3 6 ad shM 12 [(0, .ref (ad x0)), (1, .int x1), (2, .int x2), (3, .int v)] [] σ) (fun v σ h => ?_) h
  have kn : ∀ (v : (Int32)) (σ : Hp), WW l γ 3 6 ad shM 12 [(0, .ref (ad x0)), (1, .int x1), (2, .int x2), (3, .int v)] [] σ → WW l γ 3 6 ad shM 12 [(0, .ref (ad x0)), (1, .int x1), (2, .int x2), (3, .int v)] [] σ := fun _ _ h => h
  · unfold f_X7_keepsThree_L12 at h
    refine r_iload_n hc 3 rfl rfl dX7_keepsThree_12 ?_
    refine r_aload_n hc 0 rfl rfl dX7_keepsThree_13 ?_
    obtain ⟨v1, ev1, h⟩ := wp_g h
    refine r_getI hc ev1 fl_X7_303 rfl dX7_keepsThree_14 ?_
    refine r_icmp_ge hc (tgt := 146) dX7_keepsThree_17 (by decide) (fun c => ?_) (fun c => ?_)
    · have h := wp_t c h
      refine r_sub [] (lv' := []) rfl ?_
      have h := wp_v h
      exact kx146 () _ h
    · have h := wp_f c h
      refine r_iconst hc (v := 0) (by decide) dX7_keepsThree_20 ?_
      refine r_istoreE hc (i := 4) (lv' := [(4, .int 0), (0, .ref (ad x0)), (1, .int x1), (2, .int x2), (3, .int v)]) rfl (by decide) rfl dX7_keepsThree_21 ?_
      refine r_sub [1, 2, 3, 4, 0] (lv' := [(0, .ref (ad x0)), (1, .int x1), (2, .int x2), (3, .int v), (4, .int 0)]) rfl ?_
      refine t_X7_keepsThree_L23 hc (wp_bb h) ?_ ?_
      · intro y2' σ3 h
        have h := wp_sl h
        have h := wp_v h
        exact kx132 () _ h
      · intro y4 σ3 h
        have h := wp_sr h
        refine r_iincE hc (j := 3) (w := 1) (lv' := [(3, .int (v + 1)), (0, .ref (ad x0)), (1, .int x1), (2, .int x2)]) rfl (by decide) rfl (by decide) rfl dX7_keepsThree_140 ?_
        refine r_goto hc (tgt := 12) dX7_keepsThree_143 (by decide) ?_
        refine r_sub [1, 2, 3, 0] (lv' := [(0, .ref (ad x0)), (1, .int x1), (2, .int x2), (3, .int (v + 1))]) rfl ?_
        have h := wp_v h
        exact kn (v + 1) _ h
noncomputable def f_X7_keepsThree (x0 : Nat) (x1 : Int32) (σ : Hp) : Option (Int32 × Hp) := gO (getI shM 7 x0 28 σ) fun v1 => gO (getI shM 7 x0 28 σ) fun v2 => bO (wh (f_X7_keepsThree_L12 x0 x1 (v1 * v2)) 0 σ) fun y3 σ4 => (Sum.elim (fun y3' => (some (0, σ4))) (fun y5 => (some (1, σ4))) y3)
set_option maxRecDepth 100000 in
set_option maxHeartbeats 4000000 in
theorem t_X7_keepsThree {l : Launch} {γ : Gm} {ad : Nat → Nat} {K : Option Value → Hp → Prop} (hc : Cx l γ 3 6 ad shM RX7 cX7_keepsThree (some .boolean) K) {x0 : Nat} {x1 : Int32} {σ : Hp} (h : wpO (f_X7_keepsThree x0 x1 σ) (KI K)) : WW l γ 3 6 ad shM 0 [(0, .ref (ad x0)), (1, .int x1)] [] σ := by
  unfold f_X7_keepsThree at h
  refine r_aload_n hc 0 rfl rfl dX7_keepsThree_0 ?_
  obtain ⟨v1, ev1, h⟩ := wp_g h
  refine r_getI hc ev1 fl_X7_300 rfl dX7_keepsThree_1 ?_
  refine r_aload_n hc 0 rfl rfl dX7_keepsThree_4 ?_
  obtain ⟨v2, ev2, h⟩ := wp_g h
  refine r_getI hc ev2 fl_X7_300 rfl dX7_keepsThree_5 ?_
  refine r_imul hc dX7_keepsThree_8 ?_
  refine r_istore_nE hc (i := 2) (lv' := [(2, .int (v1 * v2)), (0, .ref (ad x0)), (1, .int x1)]) rfl rfl (by decide) rfl dX7_keepsThree_9 ?_
  refine r_iconst hc (v := 0) (by decide) dX7_keepsThree_10 ?_
  refine r_istore_nE hc (i := 3) (lv' := [(3, .int 0), (2, .int (v1 * v2)), (0, .ref (ad x0)), (1, .int x1)]) rfl rfl (by decide) rfl dX7_keepsThree_11 ?_
  refine r_sub [2, 3, 1, 0] (lv' := [(0, .ref (ad x0)), (1, .int x1), (2, .int (v1 * v2)), (3, .int 0)]) rfl ?_
  refine t_X7_keepsThree_L12 hc (wp_bb h) ?_ ?_
  · intro y3' σ4 h
    have h := wp_sl h
    refine r_iconst hc (v := 0) (by decide) dX7_keepsThree_132 ?_
    have h := wp_v h
    exact r_zret hc h (by decide) dX7_keepsThree_133
  · intro y5 σ4 h
    have h := wp_sr h
    refine r_iconst hc (v := 1) (by decide) dX7_keepsThree_146 ?_
    have h := wp_v h
    exact r_zret hc h (by decide) dX7_keepsThree_147
theorem c_X7_keepsThree {l : Launch} {x0 : Nat} {x1 : Int32} {σ σ' : Hp} {r : Int32} (h : f_X7_keepsThree x0 x1 σ = some (r, σ')) : Mt l yX7_keepsThree cX7_keepsThree 6 (some .boolean) 3 shM (fun ad => [.ref (ad x0), .int x1]) σ (fun ad => some (.int r)) σ' := mt_i (own := RX7) (by decide) rfl (fun _ => Nat.le_of_ble_eq_true rfl) (fun γ ad K hc hk => t_X7_keepsThree hc ⟨_, _, h, hk⟩)

-- NetMapsModel.isFair()Z
theorem dX7_isFair_0 : decode cX7_isFair 0 = .ok (.iconst 1, 1) := by decide +kernel
theorem dX7_isFair_1 : decode cX7_isFair 1 = .ok (.istore_n 1, 1) := by decide +kernel
theorem dX7_isFair_2 : decode cX7_isFair 2 = .ok (.iconst 0, 1) := by decide +kernel
theorem dX7_isFair_3 : decode cX7_isFair 3 = .ok (.istore_n 2, 1) := by decide +kernel
theorem dX7_isFair_4 : decode cX7_isFair 4 = .ok (.iload_n 2, 1) := by decide +kernel
theorem dX7_isFair_5 : decode cX7_isFair 5 = .ok (.aload_n 0, 1) := by decide +kernel
theorem dX7_isFair_6 : decode cX7_isFair 6 = .ok (.getfield 303, 3) := by decide +kernel
theorem dX7_isFair_9 : decode cX7_isFair 9 = .ok (.if_icmp .ge 51, 3) := by decide +kernel
theorem dX7_isFair_12 : decode cX7_isFair 12 = .ok (.iload_n 1, 1) := by decide +kernel
theorem dX7_isFair_13 : decode cX7_isFair 13 = .ok (.ifCond .eq 39, 3) := by decide +kernel
theorem dX7_isFair_16 : decode cX7_isFair 16 = .ok (.aload_n 0, 1) := by decide +kernel
theorem dX7_isFair_17 : decode cX7_isFair 17 = .ok (.getfield 54, 3) := by decide +kernel
theorem dX7_isFair_20 : decode cX7_isFair 20 = .ok (.iload_n 2, 1) := by decide +kernel
theorem dX7_isFair_21 : decode cX7_isFair 21 = .ok (.iaload, 1) := by decide +kernel
theorem dX7_isFair_22 : decode cX7_isFair 22 = .ok (.aload_n 0, 1) := by decide +kernel
theorem dX7_isFair_23 : decode cX7_isFair 23 = .ok (.getfield 54, 3) := by decide +kernel
theorem dX7_isFair_26 : decode cX7_isFair 26 = .ok (.aload_n 0, 1) := by decide +kernel
theorem dX7_isFair_27 : decode cX7_isFair 27 = .ok (.getfield 300, 3) := by decide +kernel
theorem dX7_isFair_30 : decode cX7_isFair 30 = .ok (.iload_n 2, 1) := by decide +kernel
theorem dX7_isFair_31 : decode cX7_isFair 31 = .ok (.aload_n 0, 1) := by decide +kernel
theorem dX7_isFair_32 : decode cX7_isFair 32 = .ok (.getfield 300, 3) := by decide +kernel
theorem dX7_isFair_35 : decode cX7_isFair 35 = .ok (.irem, 1) := by decide +kernel
theorem dX7_isFair_36 : decode cX7_isFair 36 = .ok (.imul, 1) := by decide +kernel
theorem dX7_isFair_37 : decode cX7_isFair 37 = .ok (.iload_n 2, 1) := by decide +kernel
theorem dX7_isFair_38 : decode cX7_isFair 38 = .ok (.aload_n 0, 1) := by decide +kernel
theorem dX7_isFair_39 : decode cX7_isFair 39 = .ok (.getfield 300, 3) := by decide +kernel
theorem dX7_isFair_42 : decode cX7_isFair 42 = .ok (.idiv, 1) := by decide +kernel
theorem dX7_isFair_43 : decode cX7_isFair 43 = .ok (.iadd, 1) := by decide +kernel
theorem dX7_isFair_44 : decode cX7_isFair 44 = .ok (.iaload, 1) := by decide +kernel
theorem dX7_isFair_45 : decode cX7_isFair 45 = .ok (.if_icmp .ne 7, 3) := by decide +kernel
theorem dX7_isFair_48 : decode cX7_isFair 48 = .ok (.iconst 1, 1) := by decide +kernel
theorem dX7_isFair_49 : decode cX7_isFair 49 = .ok (.goto 4, 3) := by decide +kernel
theorem dX7_isFair_52 : decode cX7_isFair 52 = .ok (.iconst 0, 1) := by decide +kernel
theorem dX7_isFair_53 : decode cX7_isFair 53 = .ok (.istore_n 1, 1) := by decide +kernel
theorem dX7_isFair_54 : decode cX7_isFair 54 = .ok (.iinc 2 1, 3) := by decide +kernel
theorem dX7_isFair_57 : decode cX7_isFair 57 = .ok (.goto (-53), 3) := by decide +kernel
theorem dX7_isFair_60 : decode cX7_isFair 60 = .ok (.iload_n 1, 1) := by decide +kernel
theorem dX7_isFair_61 : decode cX7_isFair 61 = .ok (.ireturn, 1) := by decide +kernel
noncomputable def f_X7_isFair_b53 (x0 : Nat) (x2 : Int32) (s0 : Int32) (σ : Hp) : Option (((Int32 × Int32) ⊕ (Int32)) × Hp) := some (Sum.inl (s0, (x2 + 1)), σ)
set_option maxRecDepth 100000 in
set_option maxHeartbeats 4000000 in
theorem t_X7_isFair_b53 {l : Launch} {γ : Gm} {ad : Nat → Nat} {K : Option Value → Hp → Prop} (hc : Cx l γ 1 3 ad shM RX7 cX7_isFair (some .boolean) K) {x0 : Nat} {x2 : Int32} {s0 : Int32}  {σ : Hp} {KL : ((Int32 × Int32) ⊕ (Int32)) → Hp → Prop} (h : wpO (f_X7_isFair_b53 x0 x2 s0 σ) KL) (kn : ∀ (v : (Int32 × Int32)) (σ : Hp), KL (Sum.inl v) σ → WW l γ 1 3 ad shM 4 [(0, .ref (ad x0)), (1, .int v.1), (2, .int v.2)] [] σ) (kx60 : ∀ (v : Int32) (σ : Hp), KL (Sum.inr v) σ → WW l γ 1 3 ad shM 60 [(1, .int v)] [] σ) : WW l γ 1 3 ad shM 53 [(0, .ref (ad x0)), (2, .int x2)] [.int s0] σ := by
  unfold f_X7_isFair_b53 at h
  refine r_istore_nE hc (i := 1) (lv' := [(1, .int s0), (0, .ref (ad x0)), (2, .int x2)]) rfl rfl (by decide) rfl dX7_isFair_53 ?_
  refine r_iincE hc (j := 2) (w := 1) (lv' := [(2, .int (x2 + 1)), (1, .int s0), (0, .ref (ad x0))]) rfl (by decide) rfl (by decide) rfl dX7_isFair_54 ?_
  refine r_goto hc (tgt := 4) dX7_isFair_57 (by decide) ?_
  refine r_sub [2, 1, 0] (lv' := [(0, .ref (ad x0)), (1, .int s0), (2, .int (x2 + 1))]) rfl ?_
  have h := wp_v h
  exact kn (s0, (x2 + 1)) _ h
noncomputable def f_X7_isFair_b52 (x0 : Nat) (x2 : Int32) (σ : Hp) : Option (((Int32 × Int32) ⊕ (Int32)) × Hp) := f_X7_isFair_b53 x0 x2 0 σ
set_option maxRecDepth 100000 in
set_option maxHeartbeats 4000000 in
theorem t_X7_isFair_b52 {l : Launch} {γ : Gm} {ad : Nat → Nat} {K : Option Value → Hp → Prop} (hc : Cx l γ 1 3 ad shM RX7 cX7_isFair (some .boolean) K) {x0 : Nat} {x2 : Int32}  {σ : Hp} {KL : ((Int32 × Int32) ⊕ (Int32)) → Hp → Prop} (h : wpO (f_X7_isFair_b52 x0 x2 σ) KL) (kn : ∀ (v : (Int32 × Int32)) (σ : Hp), KL (Sum.inl v) σ → WW l γ 1 3 ad shM 4 [(0, .ref (ad x0)), (1, .int v.1), (2, .int v.2)] [] σ) (kx60 : ∀ (v : Int32) (σ : Hp), KL (Sum.inr v) σ → WW l γ 1 3 ad shM 60 [(1, .int v)] [] σ) : WW l γ 1 3 ad shM 52 [(0, .ref (ad x0)), (2, .int x2)] [] σ := by
  unfold f_X7_isFair_b52 at h
  refine r_iconst hc (v := 0) (by decide) dX7_isFair_52 ?_
  exact t_X7_isFair_b53 hc h kn kx60
noncomputable def f_X7_isFair_L4 (x0 : Nat) (v : (Int32 × Int32)) (σ : Hp) : Option (((Int32 × Int32) ⊕ (Int32)) × Hp) := gO (getI shM 7 x0 27 σ) fun v1 => if v1 ≤ v.2 then (some (Sum.inr v.1, σ)) else (if v.1 = 0 then (f_X7_isFair_b52 x0 v.2 σ) else (gO (getR shM 7 x0 25 σ) fun v2 => gO (aldI shM 0 v2 v.2 σ) fun v3 => gO (getR shM 7 x0 25 σ) fun v4 => gO (getI shM 7 x0 28 σ) fun v5 => gO (getI shM 7 x0 28 σ) fun v6 => gO (nz v6) fun z7 => gO (getI shM 7 x0 28 σ) fun v8 => gO (nz v8) fun z9 => gO (aldI shM 0 v4 ((v5 * (irm v.2 v6)) + (v.2 / v8)) σ) fun v10 => if v3 = v10 then (f_X7_isFair_b53 x0 v.2 1 σ) else (f_X7_isFair_b52 x0 v.2 σ)))
set_option maxRecDepth 100000 in
set_option maxHeartbeats 4000000 in
theorem t_X7_isFair_L4 {l : Launch} {γ : Gm} {ad : Nat → Nat} {K : Option Value → Hp → Prop}  (hc : Cx l γ 1 3 ad shM RX7 cX7_isFair (some .boolean) K) {x0 : Nat} {v : (Int32 × Int32)} {σ : Hp} {KX : (Int32) → Hp → Prop} (h : wpO (wh (f_X7_isFair_L4 x0) v σ) KX) (kx60 : ∀ (v : Int32) (σ : Hp), KX v σ → WW l γ 1 3 ad shM 60 [(1, .int v)] [] σ) : WW l γ 1 3 ad shM 4 [(0, .ref (ad x0)), (1, .int v.1), (2, .int v.2)] [] σ := by
  refine wh_W (P := fun v σ => WW l γ 1 3 ad shM 4 [(0, .ref (ad x0)), (1, .int v.1), (2, .int v.2)] [] σ) (fun v σ h => ?_) h
  have kn : ∀ (v : (Int32 × Int32)) (σ : Hp), WW l γ 1 3 ad shM 4 [(0, .ref (ad x0)), (1, .int v.1), (2, .int v.2)] [] σ → WW l γ 1 3 ad shM 4 [(0, .ref (ad x0)), (1, .int v.1), (2, .int v.2)] [] σ := fun _ _ h => h
  · unfold f_X7_isFair_L4 at h
    refine r_iload_n hc 2 rfl rfl dX7_isFair_4 ?_
    refine r_aload_n hc 0 rfl rfl dX7_isFair_5 ?_
    obtain ⟨v1, ev1, h⟩ := wp_g h
    refine r_getI hc ev1 fl_X7_303 rfl dX7_isFair_6 ?_
    refine r_icmp_ge hc (tgt := 60) dX7_isFair_9 (by decide) (fun c => ?_) (fun c => ?_)
    · have h := wp_t c h
      refine r_sub [1] (lv' := [(1, .int v.1)]) rfl ?_
      have h := wp_v h
      exact kx60 v.1 _ h
    · have h := wp_f c h
      refine r_iload_n hc 1 rfl rfl dX7_isFair_12 ?_
      refine r_if_eq hc (tgt := 52) dX7_isFair_13 (by decide) (fun c => ?_) (fun c => ?_)
      · have h := wp_t c h
        refine r_sub [0, 2] (lv' := [(0, .ref (ad x0)), (2, .int v.2)]) rfl ?_
        exact t_X7_isFair_b52 hc h kn kx60
      · have h := wp_f c h
        refine r_aload_n hc 0 rfl rfl dX7_isFair_16 ?_
        obtain ⟨v2, ev2, h⟩ := wp_g h
        refine r_getR hc ev2 fl_X7_54 rfl dX7_isFair_17 ?_
        refine r_iload_n hc 2 rfl rfl dX7_isFair_20 ?_
        obtain ⟨v3, ev3, h⟩ := wp_g h
        refine r_iald hc ev3 dX7_isFair_21 ?_
        refine r_aload_n hc 0 rfl rfl dX7_isFair_22 ?_
        obtain ⟨v4, ev4, h⟩ := wp_g h
        refine r_getR hc ev4 fl_X7_54 rfl dX7_isFair_23 ?_
        refine r_aload_n hc 0 rfl rfl dX7_isFair_26 ?_
        obtain ⟨v5, ev5, h⟩ := wp_g h
        refine r_getI hc ev5 fl_X7_300 rfl dX7_isFair_27 ?_
        refine r_iload_n hc 2 rfl rfl dX7_isFair_30 ?_
        refine r_aload_n hc 0 rfl rfl dX7_isFair_31 ?_
        obtain ⟨v6, ev6, h⟩ := wp_g h
        refine r_getI hc ev6 fl_X7_300 rfl dX7_isFair_32 ?_
        obtain ⟨z7, ez7, h⟩ := wp_g h
        refine r_irem hc ez7 dX7_isFair_35 ?_
        refine r_imul hc dX7_isFair_36 ?_
        refine r_iload_n hc 2 rfl rfl dX7_isFair_37 ?_
        refine r_aload_n hc 0 rfl rfl dX7_isFair_38 ?_
        obtain ⟨v8, ev8, h⟩ := wp_g h
        refine r_getI hc ev8 fl_X7_300 rfl dX7_isFair_39 ?_
        obtain ⟨z9, ez9, h⟩ := wp_g h
        refine r_idiv hc ez9 dX7_isFair_42 ?_
        refine r_iadd hc dX7_isFair_43 ?_
        obtain ⟨v10, ev10, h⟩ := wp_g h
        refine r_iald hc ev10 dX7_isFair_44 ?_
        refine r_icmp_ne hc (tgt := 52) dX7_isFair_45 (by decide) (fun c => ?_) (fun c => ?_)
        · have h := wp_f c h
          refine r_sub [0, 2] (lv' := [(0, .ref (ad x0)), (2, .int v.2)]) rfl ?_
          exact t_X7_isFair_b52 hc h kn kx60
        · have h := wp_t c h
          refine r_iconst hc (v := 1) (by decide) dX7_isFair_48 ?_
          refine r_goto hc (tgt := 53) dX7_isFair_49 (by decide) ?_
          refine r_sub [0, 2] (lv' := [(0, .ref (ad x0)), (2, .int v.2)]) rfl ?_
          exact t_X7_isFair_b53 hc h kn kx60
noncomputable def f_X7_isFair (x0 : Nat) (σ : Hp) : Option (Int32 × Hp) := bO (wh (f_X7_isFair_L4 x0) (1, 0) σ) fun y1 σ2 => (gO (zz y1) fun _ => some (y1, σ2))
set_option maxRecDepth 100000 in
set_option maxHeartbeats 4000000 in
theorem t_X7_isFair {l : Launch} {γ : Gm} {ad : Nat → Nat} {K : Option Value → Hp → Prop} (hc : Cx l γ 1 3 ad shM RX7 cX7_isFair (some .boolean) K) {x0 : Nat} {σ : Hp} (h : wpO (f_X7_isFair x0 σ) (KI K)) : WW l γ 1 3 ad shM 0 [(0, .ref (ad x0))] [] σ := by
  unfold f_X7_isFair at h
  refine r_iconst hc (v := 1) (by decide) dX7_isFair_0 ?_
  refine r_istore_nE hc (i := 1) (lv' := [(1, .int 1), (0, .ref (ad x0))]) rfl rfl (by decide) rfl dX7_isFair_1 ?_
  refine r_iconst hc (v := 0) (by decide) dX7_isFair_2 ?_
  refine r_istore_nE hc (i := 2) (lv' := [(2, .int 0), (1, .int 1), (0, .ref (ad x0))]) rfl rfl (by decide) rfl dX7_isFair_3 ?_
  refine r_sub [2, 1, 0] (lv' := [(0, .ref (ad x0)), (1, .int 1), (2, .int 0)]) rfl ?_
  refine t_X7_isFair_L4 hc (wp_bb h) ?_
  · intro y1 σ2 h
    refine r_iload_n hc 0 rfl rfl dX7_isFair_60 ?_
    obtain ⟨_, ek3, h⟩ := wp_g h
    have h := wp_v h
    exact r_zret hc h (zz_of ek3) dX7_isFair_61
theorem c_X7_isFair {l : Launch} {x0 : Nat} {σ σ' : Hp} {r : Int32} (h : f_X7_isFair x0 σ = some (r, σ')) : Mt l yX7_isFair cX7_isFair 3 (some .boolean) 1 shM (fun ad => [.ref (ad x0)]) σ (fun ad => some (.int r)) σ' := mt_i (own := RX7) (by decide) rfl (fun _ => Nat.le_of_ble_eq_true rfl) (fun γ ad K hc hk => t_X7_isFair hc ⟨_, _, h, hk⟩)

-- NetMapsModel.isOperation(II)Z
theorem dX7_isOperation_0 : decode cX7_isOperation 0 = .ok (.iload_n 2, 1) := by decide +kernel
theorem dX7_isOperation_1 : decode cX7_isOperation 1 = .ok (.iconst 3, 1) := by decide +kernel
theorem dX7_isOperation_2 : decode cX7_isOperation 2 = .ok (.if_icmp .ne 11, 3) := by decide +kernel
theorem dX7_isOperation_5 : decode cX7_isOperation 5 = .ok (.aload_n 0, 1) := by decide +kernel
theorem dX7_isOperation_6 : decode cX7_isOperation 6 = .ok (.iload_n 1, 1) := by decide +kernel
theorem dX7_isOperation_7 : decode cX7_isOperation 7 = .ok (.invokevirtual 306, 3) := by decide +kernel
theorem dX7_isOperation_10 : decode cX7_isOperation 10 = .ok (.goto 28, 3) := by decide +kernel
theorem dX7_isOperation_13 : decode cX7_isOperation 13 = .ok (.iload_n 2, 1) := by decide +kernel
theorem dX7_isOperation_14 : decode cX7_isOperation 14 = .ok (.iconst 2, 1) := by decide +kernel
theorem dX7_isOperation_15 : decode cX7_isOperation 15 = .ok (.if_icmp .lt 10, 3) := by decide +kernel
theorem dX7_isOperation_18 : decode cX7_isOperation 18 = .ok (.aload_n 0, 1) := by decide +kernel
theorem dX7_isOperation_19 : decode cX7_isOperation 19 = .ok (.invokevirtual 309, 3) := by decide +kernel
theorem dX7_isOperation_22 : decode cX7_isOperation 22 = .ok (.ifCond .eq 15, 3) := by decide +kernel
theorem dX7_isOperation_25 : decode cX7_isOperation 25 = .ok (.aload_n 0, 1) := by decide +kernel
theorem dX7_isOperation_26 : decode cX7_isOperation 26 = .ok (.iload_n 1, 1) := by decide +kernel
theorem dX7_isOperation_27 : decode cX7_isOperation 27 = .ok (.invokevirtual 312, 3) := by decide +kernel
theorem dX7_isOperation_30 : decode cX7_isOperation 30 = .ok (.ifCond .eq 7, 3) := by decide +kernel
theorem dX7_isOperation_33 : decode cX7_isOperation 33 = .ok (.iconst 1, 1) := by decide +kernel
theorem dX7_isOperation_34 : decode cX7_isOperation 34 = .ok (.goto 4, 3) := by decide +kernel
theorem dX7_isOperation_37 : decode cX7_isOperation 37 = .ok (.iconst 0, 1) := by decide +kernel
theorem dX7_isOperation_38 : decode cX7_isOperation 38 = .ok (.ireturn, 1) := by decide +kernel
noncomputable def f_X7_isOperation_b38 (s0 : Int32) (σ : Hp) : Option (Int32 × Hp) := gO (zz s0) fun _ => some (s0, σ)
set_option maxRecDepth 100000 in
set_option maxHeartbeats 4000000 in
theorem t_X7_isOperation_b38 {l : Launch} {γ : Gm} {ad : Nat → Nat} {K : Option Value → Hp → Prop} (hc : Cx l γ 4 3 ad shM RX7 cX7_isOperation (some .boolean) K) {s0 : Int32} {σ : Hp} (h : wpO (f_X7_isOperation_b38 s0 σ) (KI K)) : WW l γ 4 3 ad shM 38 [] [.int s0] σ := by
  unfold f_X7_isOperation_b38 at h
  obtain ⟨_, ek1, h⟩ := wp_g h
  have h := wp_v h
  exact r_zret hc h (zz_of ek1) dX7_isOperation_38
noncomputable def f_X7_isOperation_b37  (σ : Hp) : Option (Int32 × Hp) := f_X7_isOperation_b38 0 σ
set_option maxRecDepth 100000 in
set_option maxHeartbeats 4000000 in
theorem t_X7_isOperation_b37 {l : Launch} {γ : Gm} {ad : Nat → Nat} {K : Option Value → Hp → Prop} (hc : Cx l γ 4 3 ad shM RX7 cX7_isOperation (some .boolean) K)  {σ : Hp} (h : wpO (f_X7_isOperation_b37  σ) (KI K)) : WW l γ 4 3 ad shM 37 [] [] σ := by
  unfold f_X7_isOperation_b37 at h
  refine r_iconst hc (v := 0) (by decide) dX7_isOperation_37 ?_
  exact t_X7_isOperation_b38 hc h
noncomputable def f_X7_isOperation_b25 (x0 : Nat) (x1 : Int32) (σ : Hp) : Option (Int32 × Hp) := gO (chk shM x0 7) fun _ => bO (f_X7_keepsTwo x0 x1 σ) fun r1 σ2 => if r1 = 0 then (f_X7_isOperation_b37  σ2) else (f_X7_isOperation_b38 1 σ2)
set_option maxRecDepth 100000 in
set_option maxHeartbeats 4000000 in
theorem t_X7_isOperation_b25 {l : Launch} {γ : Gm} {ad : Nat → Nat} {K : Option Value → Hp → Prop} (hc : Cx l γ 4 3 ad shM RX7 cX7_isOperation (some .boolean) K) {x0 : Nat} {x1 : Int32} {σ : Hp} (h : wpO (f_X7_isOperation_b25 x0 x1 σ) (KI K)) : WW l γ 4 3 ad shM 25 [(0, .ref (ad x0)), (1, .int x1)] [] σ := by
  unfold f_X7_isOperation_b25 at h
  refine r_aload_n hc 0 rfl rfl dX7_isOperation_25 ?_
  refine r_iload_n hc 1 rfl rfl dX7_isOperation_26 ?_
  obtain ⟨_, ek3, h⟩ := wp_g h
  obtain ⟨r1, σ2, er1, h⟩ := wp_b h
  refine r_callV hc (k0 := x0) mv_X7_keepsTwo ml_X7_312 (c_X7_keepsTwo er1) (chk_of ek3) cls_7.1 rfl rfl rfl (by decide) rfl (Nat.le_of_ble_eq_true rfl) dX7_isOperation_27 ?_
  refine r_if_eq hc (tgt := 37) dX7_isOperation_30 (by decide) (fun c => ?_) (fun c => ?_)
  · have h := wp_t c h
    refine r_sub [] (lv' := []) rfl ?_
    exact t_X7_isOperation_b37 hc h
  · have h := wp_f c h
    refine r_iconst hc (v := 1) (by decide) dX7_isOperation_33 ?_
    refine r_goto hc (tgt := 38) dX7_isOperation_34 (by decide) ?_
    refine r_sub [] (lv' := []) rfl ?_
    exact t_X7_isOperation_b38 hc h
noncomputable def f_X7_isOperation (x0 : Nat) (x1 : Int32) (x2 : Int32) (σ : Hp) : Option (Int32 × Hp) := if x2 = 3 then (gO (chk shM x0 7) fun _ => bO (f_X7_keepsThree x0 x1 σ) fun r4 σ5 => f_X7_isOperation_b38 r4 σ5) else (if x2 < 2 then (f_X7_isOperation_b25 x0 x1 σ) else (gO (chk shM x0 7) fun _ => bO (f_X7_isFair x0 σ) fun r1 σ2 => if r1 = 0 then (f_X7_isOperation_b37  σ2) else (f_X7_isOperation_b25 x0 x1 σ2)))
set_option maxRecDepth 100000 in
set_option maxHeartbeats 4000000 in
theorem t_X7_isOperation {l : Launch} {γ : Gm} {ad : Nat → Nat} {K : Option Value → Hp → Prop} (hc : Cx l γ 4 3 ad shM RX7 cX7_isOperation (some .boolean) K) {x0 : Nat} {x1 : Int32} {x2 : Int32} {σ : Hp} (h : wpO (f_X7_isOperation x0 x1 x2 σ) (KI K)) : WW l γ 4 3 ad shM 0 [(0, .ref (ad x0)), (1, .int x1), (2, .int x2)] [] σ := by
  unfold f_X7_isOperation at h
  refine r_iload_n hc 2 rfl rfl dX7_isOperation_0 ?_
  refine r_iconst hc (v := 3) (by decide) dX7_isOperation_1 ?_
  refine r_icmp_ne hc (tgt := 13) dX7_isOperation_2 (by decide) (fun c => ?_) (fun c => ?_)
  · have h := wp_f c h
    refine r_iload_n hc 2 rfl rfl dX7_isOperation_13 ?_
    refine r_iconst hc (v := 2) (by decide) dX7_isOperation_14 ?_
    refine r_icmp_lt hc (tgt := 25) dX7_isOperation_15 (by decide) (fun c => ?_) (fun c => ?_)
    · have h := wp_t c h
      refine r_sub [0, 1] (lv' := [(0, .ref (ad x0)), (1, .int x1)]) rfl ?_
      exact t_X7_isOperation_b25 hc h
    · have h := wp_f c h
      refine r_aload_n hc 0 rfl rfl dX7_isOperation_18 ?_
      obtain ⟨_, ek3, h⟩ := wp_g h
      obtain ⟨r1, σ2, er1, h⟩ := wp_b h
      refine r_callV hc (k0 := x0) mv_X7_isFair ml_X7_309 (c_X7_isFair er1) (chk_of ek3) cls_7.1 rfl rfl rfl (by decide) rfl (Nat.le_of_ble_eq_true rfl) dX7_isOperation_19 ?_
      refine r_if_eq hc (tgt := 37) dX7_isOperation_22 (by decide) (fun c => ?_) (fun c => ?_)
      · have h := wp_t c h
        refine r_sub [] (lv' := []) rfl ?_
        exact t_X7_isOperation_b37 hc h
      · have h := wp_f c h
        refine r_sub [0, 1] (lv' := [(0, .ref (ad x0)), (1, .int x1)]) rfl ?_
        exact t_X7_isOperation_b25 hc h
  · have h := wp_t c h
    refine r_aload_n hc 0 rfl rfl dX7_isOperation_5 ?_
    refine r_iload_n hc 1 rfl rfl dX7_isOperation_6 ?_
    obtain ⟨_, ek6, h⟩ := wp_g h
    obtain ⟨r4, σ5, er4, h⟩ := wp_b h
    refine r_callV hc (k0 := x0) mv_X7_keepsThree ml_X7_306 (c_X7_keepsThree er4) (chk_of ek6) cls_7.1 rfl rfl rfl (by decide) rfl (Nat.le_of_ble_eq_true rfl) dX7_isOperation_7 ?_
    refine r_goto hc (tgt := 38) dX7_isOperation_10 (by decide) ?_
    refine r_sub [] (lv' := []) rfl ?_
    exact t_X7_isOperation_b38 hc h
theorem c_X7_isOperation {l : Launch} {x0 : Nat} {x1 : Int32} {x2 : Int32} {σ σ' : Hp} {r : Int32} (h : f_X7_isOperation x0 x1 x2 σ = some (r, σ')) : Mt l yX7_isOperation cX7_isOperation 3 (some .boolean) 4 shM (fun ad => [.ref (ad x0), .int x1, .int x2]) σ (fun ad => some (.int r)) σ' := mt_i (own := RX7) (by decide) rfl (fun _ => Nat.le_of_ble_eq_true rfl) (fun γ ad K hc hk => t_X7_isOperation hc ⟨_, _, h, hk⟩)

-- NetMapsModel.operationsTo(III)I
theorem dX7_operationsTo_0 : decode cX7_operationsTo 0 = .ok (.aload_n 0, 1) := by decide +kernel
theorem dX7_operationsTo_1 : decode cX7_operationsTo 1 = .ok (.iload_n 1, 1) := by decide +kernel
theorem dX7_operationsTo_2 : decode cX7_operationsTo 2 = .ok (.iload_n 2, 1) := by decide +kernel
theorem dX7_operationsTo_3 : decode cX7_operationsTo 3 = .ok (.invokevirtual 315, 3) := by decide +kernel
theorem dX7_operationsTo_6 : decode cX7_operationsTo 6 = .ok (.iconst 0, 1) := by decide +kernel
theorem dX7_operationsTo_7 : decode cX7_operationsTo 7 = .ok (.istore 4, 2) := by decide +kernel
theorem dX7_operationsTo_9 : decode cX7_operationsTo 9 = .ok (.iconst 1, 1) := by decide +kernel
theorem dX7_operationsTo_10 : decode cX7_operationsTo 10 = .ok (.istore 5, 2) := by decide +kernel
theorem dX7_operationsTo_12 : decode cX7_operationsTo 12 = .ok (.iload 5, 2) := by decide +kernel
theorem dX7_operationsTo_14 : decode cX7_operationsTo 14 = .ok (.ifCond .eq 35, 3) := by decide +kernel
theorem dX7_operationsTo_17 : decode cX7_operationsTo 17 = .ok (.aload_n 0, 1) := by decide +kernel
theorem dX7_operationsTo_18 : decode cX7_operationsTo 18 = .ok (.iload_n 1, 1) := by decide +kernel
theorem dX7_operationsTo_19 : decode cX7_operationsTo 19 = .ok (.iload_n 2, 1) := by decide +kernel
theorem dX7_operationsTo_20 : decode cX7_operationsTo 20 = .ok (.invokevirtual 318, 3) := by decide +kernel
theorem dX7_operationsTo_23 : decode cX7_operationsTo 23 = .ok (.ifCond .eq 17, 3) := by decide +kernel
theorem dX7_operationsTo_26 : decode cX7_operationsTo 26 = .ok (.iload 4, 2) := by decide +kernel
theorem dX7_operationsTo_28 : decode cX7_operationsTo 28 = .ok (.iload_n 3, 1) := by decide +kernel
theorem dX7_operationsTo_29 : decode cX7_operationsTo 29 = .ok (.if_icmp .ne 5, 3) := by decide +kernel
theorem dX7_operationsTo_32 : decode cX7_operationsTo 32 = .ok (.iconst (-1), 1) := by decide +kernel
theorem dX7_operationsTo_33 : decode cX7_operationsTo 33 = .ok (.ireturn, 1) := by decide +kernel
theorem dX7_operationsTo_34 : decode cX7_operationsTo 34 = .ok (.iload 4, 2) := by decide +kernel
theorem dX7_operationsTo_36 : decode cX7_operationsTo 36 = .ok (.iconst 1, 1) := by decide +kernel
theorem dX7_operationsTo_37 : decode cX7_operationsTo 37 = .ok (.iadd, 1) := by decide +kernel
theorem dX7_operationsTo_38 : decode cX7_operationsTo 38 = .ok (.istore 4, 2) := by decide +kernel
theorem dX7_operationsTo_40 : decode cX7_operationsTo 40 = .ok (.aload_n 0, 1) := by decide +kernel
theorem dX7_operationsTo_41 : decode cX7_operationsTo 41 = .ok (.invokevirtual 321, 3) := by decide +kernel
theorem dX7_operationsTo_44 : decode cX7_operationsTo 44 = .ok (.istore 5, 2) := by decide +kernel
theorem dX7_operationsTo_46 : decode cX7_operationsTo 46 = .ok (.goto (-34), 3) := by decide +kernel
theorem dX7_operationsTo_49 : decode cX7_operationsTo 49 = .ok (.iload 4, 2) := by decide +kernel
theorem dX7_operationsTo_51 : decode cX7_operationsTo 51 = .ok (.ireturn, 1) := by decide +kernel
noncomputable def f_X7_operationsTo_b40 (x0 : Nat) (x1 : Int32) (x2 : Int32) (x3 : Int32) (x4 : Int32) (σ : Hp) : Option (((Int32 × Int32) ⊕ ((Unit) ⊕ (Int32))) × Hp) := gO (chk shM x0 7) fun _ => bO (f_X7_goesUp x0 σ) fun r1 σ2 => some (Sum.inl (x4, r1), σ2)
set_option maxRecDepth 100000 in
set_option maxHeartbeats 4000000 in
theorem t_X7_operationsTo_b40 {l : Launch} {γ : Gm} {ad : Nat → Nat} {K : Option Value → Hp → Prop} (hc : Cx l γ 5 6 ad shM RX7 cX7_operationsTo (some .int) K) {x0 : Nat} {x1 : Int32} {x2 : Int32} {x3 : Int32} {x4 : Int32}  {σ : Hp} {KL : ((Int32 × Int32) ⊕ ((Unit) ⊕ (Int32))) → Hp → Prop} (h : wpO (f_X7_operationsTo_b40 x0 x1 x2 x3 x4 σ) KL) (kn : ∀ (v : (Int32 × Int32)) (σ : Hp), KL (Sum.inl v) σ → WW l γ 5 6 ad shM 12 [(0, .ref (ad x0)), (1, .int x1), (2, .int x2), (3, .int x3), (4, .int v.1), (5, .int v.2)] [] σ) (kx32 : ∀ (v : Unit) (σ : Hp), KL (Sum.inr (Sum.inl v)) σ → WW l γ 5 6 ad shM 32 [] [] σ) (kx49 : ∀ (v : Int32) (σ : Hp), KL (Sum.inr (Sum.inr v)) σ → WW l γ 5 6 ad shM 49 [(4, .int v)] [] σ) : WW l γ 5 6 ad shM 40 [(0, .ref (ad x0)), (1, .int x1), (2, .int x2), (3, .int x3), (4, .int x4)] [] σ := by
  unfold f_X7_operationsTo_b40 at h
  refine r_aload_n hc 0 rfl rfl dX7_operationsTo_40 ?_
  obtain ⟨_, ek3, h⟩ := wp_g h
  obtain ⟨r1, σ2, er1, h⟩ := wp_b h
  refine r_callV hc (k0 := x0) mv_X7_goesUp ml_X7_321 (c_X7_goesUp er1) (chk_of ek3) cls_7.1 rfl rfl rfl (by decide) rfl (Nat.le_of_ble_eq_true rfl) dX7_operationsTo_41 ?_
  refine r_istoreE hc (i := 5) (lv' := [(5, .int r1), (0, .ref (ad x0)), (1, .int x1), (2, .int x2), (3, .int x3), (4, .int x4)]) rfl (by decide) rfl dX7_operationsTo_44 ?_
  refine r_goto hc (tgt := 12) dX7_operationsTo_46 (by decide) ?_
  refine r_sub [1, 2, 3, 4, 5, 0] (lv' := [(0, .ref (ad x0)), (1, .int x1), (2, .int x2), (3, .int x3), (4, .int x4), (5, .int r1)]) rfl ?_
  have h := wp_v h
  exact kn (x4, r1) _ h
noncomputable def f_X7_operationsTo_L12 (x0 : Nat) (x1 : Int32) (x2 : Int32) (x3 : Int32) (v : (Int32 × Int32)) (σ : Hp) : Option (((Int32 × Int32) ⊕ ((Unit) ⊕ (Int32))) × Hp) := if v.2 = 0 then (some (Sum.inr (Sum.inr v.1), σ)) else (gO (chk shM x0 7) fun _ => bO (f_X7_isOperation x0 x1 x2 σ) fun r1 σ2 => if r1 = 0 then (f_X7_operationsTo_b40 x0 x1 x2 x3 v.1 σ2) else (if v.1 = x3 then (some (Sum.inr (Sum.inl ()), σ2)) else (f_X7_operationsTo_b40 x0 x1 x2 x3 (v.1 + 1) σ2)))
set_option maxRecDepth 100000 in
set_option maxHeartbeats 4000000 in
theorem t_X7_operationsTo_L12 {l : Launch} {γ : Gm} {ad : Nat → Nat} {K : Option Value → Hp → Prop}  (hc : Cx l γ 5 6 ad shM RX7 cX7_operationsTo (some .int) K) {x0 : Nat} {x1 : Int32} {x2 : Int32} {x3 : Int32} {v : (Int32 × Int32)} {σ : Hp} {KX : ((Unit) ⊕ (Int32)) → Hp → Prop} (h : wpO (wh (f_X7_operationsTo_L12 x0 x1 x2 x3) v σ) KX) (kx32 : ∀ (v : Unit) (σ : Hp), KX (Sum.inl v) σ → WW l γ 5 6 ad shM 32 [] [] σ) (kx49 : ∀ (v : Int32) (σ : Hp), KX (Sum.inr v) σ → WW l γ 5 6 ad shM 49 [(4, .int v)] [] σ) : WW l γ 5 6 ad shM 12 [(0, .ref (ad x0)), (1, .int x1), (2, .int x2), (3, .int x3), (4, .int v.1), (5, .int v.2)] [] σ := by
  refine wh_W (P := fun v σ => WW l γ 5 6 ad shM 12 [(0, .ref (ad x0)), (1, .int x1), (2, .int x2), (3, .int x3), (4, .int v.1), (5, .int v.2)] [] σ) (fun v σ h => ?_) h
  have kn : ∀ (v : (Int32 × Int32)) (σ : Hp), WW l γ 5 6 ad shM 12 [(0, .ref (ad x0)), (1, .int x1), (2, .int x2), (3, .int x3), (4, .int v.1), (5, .int v.2)] [] σ → WW l γ 5 6 ad shM 12 [(0, .ref (ad x0)), (1, .int x1), (2, .int x2), (3, .int x3), (4, .int v.1), (5, .int v.2)] [] σ := fun _ _ h => h
  · unfold f_X7_operationsTo_L12 at h
    refine r_iload hc 5 rfl dX7_operationsTo_12 ?_
    refine r_if_eq hc (tgt := 49) dX7_operationsTo_14 (by decide) (fun c => ?_) (fun c => ?_)
    · have h := wp_t c h
      refine r_sub [4] (lv' := [(4, .int v.1)]) rfl ?_
      have h := wp_v h
      exact kx49 v.1 _ h
    · have h := wp_f c h
      refine r_aload_n hc 0 rfl rfl dX7_operationsTo_17 ?_
      refine r_iload_n hc 1 rfl rfl dX7_operationsTo_18 ?_
      refine r_iload_n hc 2 rfl rfl dX7_operationsTo_19 ?_
      obtain ⟨_, ek3, h⟩ := wp_g h
      obtain ⟨r1, σ2, er1, h⟩ := wp_b h
      refine r_callV hc (k0 := x0) mv_X7_isOperation ml_X7_318 (c_X7_isOperation er1) (chk_of ek3) cls_7.1 rfl rfl rfl (by decide) rfl (Nat.le_of_ble_eq_true rfl) dX7_operationsTo_20 ?_
      refine r_if_eq hc (tgt := 40) dX7_operationsTo_23 (by decide) (fun c => ?_) (fun c => ?_)
      · have h := wp_t c h
        refine r_sub [0, 1, 2, 3, 4] (lv' := [(0, .ref (ad x0)), (1, .int x1), (2, .int x2), (3, .int x3), (4, .int v.1)]) rfl ?_
        exact t_X7_operationsTo_b40 hc h kn kx32 kx49
      · have h := wp_f c h
        refine r_iload hc 4 rfl dX7_operationsTo_26 ?_
        refine r_iload_n hc 3 rfl rfl dX7_operationsTo_28 ?_
        refine r_icmp_ne hc (tgt := 34) dX7_operationsTo_29 (by decide) (fun c => ?_) (fun c => ?_)
        · have h := wp_f c h
          refine r_iload hc 4 rfl dX7_operationsTo_34 ?_
          refine r_iconst hc (v := 1) (by decide) dX7_operationsTo_36 ?_
          refine r_iadd hc dX7_operationsTo_37 ?_
          refine r_istoreE hc (i := 4) (lv' := [(4, .int (v.1 + 1)), (0, .ref (ad x0)), (1, .int x1), (2, .int x2), (3, .int x3), (5, .int v.2)]) rfl (by decide) rfl dX7_operationsTo_38 ?_
          refine r_sub [1, 2, 3, 4, 0] (lv' := [(0, .ref (ad x0)), (1, .int x1), (2, .int x2), (3, .int x3), (4, .int (v.1 + 1))]) rfl ?_
          exact t_X7_operationsTo_b40 hc h kn kx32 kx49
        · have h := wp_t c h
          refine r_sub [] (lv' := []) rfl ?_
          have h := wp_v h
          exact kx32 () _ h
noncomputable def f_X7_operationsTo (x0 : Nat) (x1 : Int32) (x2 : Int32) (x3 : Int32) (σ : Hp) : Option (Int32 × Hp) := gO (chk shM x0 7) fun _ => bO (f_X7_laysPlaces x0 x1 x2 σ) fun _ σ2 => bO (wh (f_X7_operationsTo_L12 x0 x1 x2 x3) (0, 1) σ2) fun y4 σ5 => (Sum.elim (fun y4' => (some ((-1), σ5))) (fun y6 => (some (y6, σ5))) y4)
set_option maxRecDepth 100000 in
set_option maxHeartbeats 4000000 in
theorem t_X7_operationsTo {l : Launch} {γ : Gm} {ad : Nat → Nat} {K : Option Value → Hp → Prop} (hc : Cx l γ 5 6 ad shM RX7 cX7_operationsTo (some .int) K) {x0 : Nat} {x1 : Int32} {x2 : Int32} {x3 : Int32} {σ : Hp} (h : wpO (f_X7_operationsTo x0 x1 x2 x3 σ) (KI K)) : WW l γ 5 6 ad shM 0 [(0, .ref (ad x0)), (1, .int x1), (2, .int x2), (3, .int x3)] [] σ := by
  unfold f_X7_operationsTo at h
  refine r_aload_n hc 0 rfl rfl dX7_operationsTo_0 ?_
  refine r_iload_n hc 1 rfl rfl dX7_operationsTo_1 ?_
  refine r_iload_n hc 2 rfl rfl dX7_operationsTo_2 ?_
  obtain ⟨_, ek3, h⟩ := wp_g h
  obtain ⟨_, σ2, er1, h⟩ := wp_b h
  refine r_callV hc (k0 := x0) mv_X7_laysPlaces ml_X7_315 (c_X7_laysPlaces er1) (chk_of ek3) cls_7.1 rfl rfl rfl (by decide) rfl (Nat.le_of_ble_eq_true rfl) dX7_operationsTo_3 ?_
  refine r_iconst hc (v := 0) (by decide) dX7_operationsTo_6 ?_
  refine r_istoreE hc (i := 4) (lv' := [(4, .int 0), (0, .ref (ad x0)), (1, .int x1), (2, .int x2), (3, .int x3)]) rfl (by decide) rfl dX7_operationsTo_7 ?_
  refine r_iconst hc (v := 1) (by decide) dX7_operationsTo_9 ?_
  refine r_istoreE hc (i := 5) (lv' := [(5, .int 1), (4, .int 0), (0, .ref (ad x0)), (1, .int x1), (2, .int x2), (3, .int x3)]) rfl (by decide) rfl dX7_operationsTo_10 ?_
  refine r_sub [2, 3, 4, 5, 1, 0] (lv' := [(0, .ref (ad x0)), (1, .int x1), (2, .int x2), (3, .int x3), (4, .int 0), (5, .int 1)]) rfl ?_
  refine t_X7_operationsTo_L12 hc (wp_bb h) ?_ ?_
  · intro y4' σ5 h
    have h := wp_sl h
    refine r_iconst hc (v := (-1)) (by decide) dX7_operationsTo_32 ?_
    have h := wp_v h
    exact r_iret hc h dX7_operationsTo_33
  · intro y6 σ5 h
    have h := wp_sr h
    refine r_iload hc 0 rfl dX7_operationsTo_49 ?_
    have h := wp_v h
    exact r_iret hc h dX7_operationsTo_51
theorem c_X7_operationsTo {l : Launch} {x0 : Nat} {x1 : Int32} {x2 : Int32} {x3 : Int32} {σ σ' : Hp} {r : Int32} (h : f_X7_operationsTo x0 x1 x2 x3 σ = some (r, σ')) : Mt l yX7_operationsTo cX7_operationsTo 6 (some .int) 5 shM (fun ad => [.ref (ad x0), .int x1, .int x2, .int x3]) σ (fun ad => some (.int r)) σ' := mt_i (own := RX7) (by decide) rfl (fun _ => Nat.le_of_ble_eq_true rfl) (fun γ ad K hc hk => t_X7_operationsTo hc ⟨_, _, h, hk⟩)

-- NetMapsModel.operations(II)I
theorem dX7_operations_0 : decode cX7_operations 0 = .ok (.iload_n 1, 1) := by decide +kernel
theorem dX7_operations_1 : decode cX7_operations 1 = .ok (.invokestatic 132, 3) := by decide +kernel
theorem dX7_operations_4 : decode cX7_operations 4 = .ok (.ifCond .eq 12, 3) := by decide +kernel
theorem dX7_operations_7 : decode cX7_operations 7 = .ok (.iload_n 2, 1) := by decide +kernel
theorem dX7_operations_8 : decode cX7_operations 8 = .ok (.iconst 0, 1) := by decide +kernel
theorem dX7_operations_9 : decode cX7_operations 9 = .ok (.iconst 3, 1) := by decide +kernel
theorem dX7_operations_10 : decode cX7_operations 10 = .ok (.invokestatic 81, 3) := by decide +kernel
theorem dX7_operations_13 : decode cX7_operations 13 = .ok (.ifCond .ne 5, 3) := by decide +kernel
theorem dX7_operations_16 : decode cX7_operations 16 = .ok (.iconst (-1), 1) := by decide +kernel
theorem dX7_operations_17 : decode cX7_operations 17 = .ok (.ireturn, 1) := by decide +kernel
theorem dX7_operations_18 : decode cX7_operations 18 = .ok (.aload_n 0, 1) := by decide +kernel
theorem dX7_operations_19 : decode cX7_operations 19 = .ok (.iload_n 1, 1) := by decide +kernel
theorem dX7_operations_20 : decode cX7_operations 20 = .ok (.invokevirtual 85, 3) := by decide +kernel
theorem dX7_operations_23 : decode cX7_operations 23 = .ok (.ifCond .eq 6, 3) := by decide +kernel
theorem dX7_operations_26 : decode cX7_operations 26 = .ok (.bipush (-2), 2) := by decide +kernel
theorem dX7_operations_28 : decode cX7_operations 28 = .ok (.ireturn, 1) := by decide +kernel
theorem dX7_operations_29 : decode cX7_operations 29 = .ok (.aload_n 0, 1) := by decide +kernel
theorem dX7_operations_30 : decode cX7_operations 30 = .ok (.getfield 7, 3) := by decide +kernel
theorem dX7_operations_33 : decode cX7_operations 33 = .ok (.iload_n 1, 1) := by decide +kernel
theorem dX7_operations_34 : decode cX7_operations 34 = .ok (.iaload, 1) := by decide +kernel
theorem dX7_operations_35 : decode cX7_operations 35 = .ok (.iconst 3, 1) := by decide +kernel
theorem dX7_operations_36 : decode cX7_operations 36 = .ok (.if_icmp .le 8, 3) := by decide +kernel
theorem dX7_operations_39 : decode cX7_operations 39 = .ok (.bipush (-3), 2) := by decide +kernel
theorem dX7_operations_41 : decode cX7_operations 41 = .ok (.goto 10, 3) := by decide +kernel
theorem dX7_operations_44 : decode cX7_operations 44 = .ok (.aload_n 0, 1) := by decide +kernel
theorem dX7_operations_45 : decode cX7_operations 45 = .ok (.iload_n 1, 1) := by decide +kernel
theorem dX7_operations_46 : decode cX7_operations 46 = .ok (.iload_n 2, 1) := by decide +kernel
theorem dX7_operations_47 : decode cX7_operations 47 = .ok (.iconst (-1), 1) := by decide +kernel
theorem dX7_operations_48 : decode cX7_operations 48 = .ok (.invokevirtual 324, 3) := by decide +kernel
theorem dX7_operations_51 : decode cX7_operations 51 = .ok (.ireturn, 1) := by decide +kernel
noncomputable def f_X7_operations_b16  (σ : Hp) : Option (Int32 × Hp) := some ((-1), σ)
set_option maxRecDepth 100000 in
set_option maxHeartbeats 4000000 in
theorem t_X7_operations_b16 {l : Launch} {γ : Gm} {ad : Nat → Nat} {K : Option Value → Hp → Prop} (hc : Cx l γ 6 3 ad shM RX7 cX7_operations (some .int) K)  {σ : Hp} (h : wpO (f_X7_operations_b16  σ) (KI K)) : WW l γ 6 3 ad shM 16 [] [] σ := by
  unfold f_X7_operations_b16 at h
  refine r_iconst hc (v := (-1)) (by decide) dX7_operations_16 ?_
  have h := wp_v h
  exact r_iret hc h dX7_operations_17
noncomputable def f_X7_operations_b51 (s0 : Int32) (σ : Hp) : Option (Int32 × Hp) := some (s0, σ)
set_option maxRecDepth 100000 in
set_option maxHeartbeats 4000000 in
theorem t_X7_operations_b51 {l : Launch} {γ : Gm} {ad : Nat → Nat} {K : Option Value → Hp → Prop} (hc : Cx l γ 6 3 ad shM RX7 cX7_operations (some .int) K) {s0 : Int32} {σ : Hp} (h : wpO (f_X7_operations_b51 s0 σ) (KI K)) : WW l γ 6 3 ad shM 51 [] [.int s0] σ := by
  unfold f_X7_operations_b51 at h
  have h := wp_v h
  exact r_iret hc h dX7_operations_51
noncomputable def f_X7_operations (x0 : Nat) (x1 : Int32) (x2 : Int32) (σ : Hp) : Option (Int32 × Hp) := bO (f_X7_isDrawer x1 σ) fun r1 σ2 => if r1 = 0 then (f_X7_operations_b16  σ2) else (bO (f_X7_in x2 0 3 σ2) fun r3 σ4 => if r3 = 0 then (f_X7_operations_b16  σ4) else (gO (chk shM x0 7) fun _ => bO (f_X7_isEmpty x0 x1 σ4) fun r5 σ6 => if r5 = 0 then (gO (getR shM 7 x0 0 σ6) fun v8 => gO (aldI shM 0 v8 x1 σ6) fun v9 => if v9 ≤ 3 then (gO (chk shM x0 7) fun _ => bO (f_X7_operationsTo x0 x1 x2 (-1) σ6) fun r10 σ11 => f_X7_operations_b51 r10 σ11) else (f_X7_operations_b51 (-3) σ6)) else (some ((-2), σ6))))
set_option maxRecDepth 100000 in
set_option maxHeartbeats 4000000 in
theorem t_X7_operations {l : Launch} {γ : Gm} {ad : Nat → Nat} {K : Option Value → Hp → Prop} (hc : Cx l γ 6 3 ad shM RX7 cX7_operations (some .int) K) {x0 : Nat} {x1 : Int32} {x2 : Int32} {σ : Hp} (h : wpO (f_X7_operations x0 x1 x2 σ) (KI K)) : WW l γ 6 3 ad shM 0 [(0, .ref (ad x0)), (1, .int x1), (2, .int x2)] [] σ := by
  unfold f_X7_operations at h
  refine r_iload_n hc 1 rfl rfl dX7_operations_0 ?_
  obtain ⟨r1, σ2, er1, h⟩ := wp_b h
  refine r_callS hc ms_X7_isDrawer ml_X7_132 (c_X7_isDrawer er1) rfl rfl (by decide) rfl (Nat.le_of_ble_eq_true rfl) dX7_operations_1 ?_
  refine r_if_eq hc (tgt := 16) dX7_operations_4 (by decide) (fun c => ?_) (fun c => ?_)
  · have h := wp_t c h
    refine r_sub [] (lv' := []) rfl ?_
    exact t_X7_operations_b16 hc h
  · have h := wp_f c h
    refine r_iload_n hc 2 rfl rfl dX7_operations_7 ?_
    refine r_iconst hc (v := 0) (by decide) dX7_operations_8 ?_
    refine r_iconst hc (v := 3) (by decide) dX7_operations_9 ?_
    obtain ⟨r3, σ4, er3, h⟩ := wp_b h
    refine r_callS hc ms_X7_in ml_X7_81 (c_X7_in er3) rfl rfl (by decide) rfl (Nat.le_of_ble_eq_true rfl) dX7_operations_10 ?_
    refine r_if_ne hc (tgt := 18) dX7_operations_13 (by decide) (fun c => ?_) (fun c => ?_)
    · have h := wp_f c h
      refine r_aload_n hc 0 rfl rfl dX7_operations_18 ?_
      refine r_iload_n hc 1 rfl rfl dX7_operations_19 ?_
      obtain ⟨_, ek7, h⟩ := wp_g h
      obtain ⟨r5, σ6, er5, h⟩ := wp_b h
      refine r_callV hc (k0 := x0) mv_X7_isEmpty ml_X7_85 (c_X7_isEmpty er5) (chk_of ek7) cls_7.1 rfl rfl rfl (by decide) rfl (Nat.le_of_ble_eq_true rfl) dX7_operations_20 ?_
      refine r_if_eq hc (tgt := 29) dX7_operations_23 (by decide) (fun c => ?_) (fun c => ?_)
      · have h := wp_t c h
        refine r_aload_n hc 0 rfl rfl dX7_operations_29 ?_
        obtain ⟨v8, ev8, h⟩ := wp_g h
        refine r_getR hc ev8 fl_X7_7 rfl dX7_operations_30 ?_
        refine r_iload_n hc 1 rfl rfl dX7_operations_33 ?_
        obtain ⟨v9, ev9, h⟩ := wp_g h
        refine r_iald hc ev9 dX7_operations_34 ?_
        refine r_iconst hc (v := 3) (by decide) dX7_operations_35 ?_
        refine r_icmp_le hc (tgt := 44) dX7_operations_36 (by decide) (fun c => ?_) (fun c => ?_)
        · have h := wp_t c h
          refine r_aload_n hc 0 rfl rfl dX7_operations_44 ?_
          refine r_iload_n hc 1 rfl rfl dX7_operations_45 ?_
          refine r_iload_n hc 2 rfl rfl dX7_operations_46 ?_
          refine r_iconst hc (v := (-1)) (by decide) dX7_operations_47 ?_
          obtain ⟨_, ek12, h⟩ := wp_g h
          obtain ⟨r10, σ11, er10, h⟩ := wp_b h
          refine r_callV hc (k0 := x0) mv_X7_operationsTo ml_X7_324 (c_X7_operationsTo er10) (chk_of ek12) cls_7.1 rfl rfl rfl (by decide) rfl (Nat.le_of_ble_eq_true rfl) dX7_operations_48 ?_
          refine r_sub [] (lv' := []) rfl ?_
          exact t_X7_operations_b51 hc h
        · have h := wp_f c h
          refine r_bipush hc (v := (-3)) (by decide) dX7_operations_39 ?_
          refine r_goto hc (tgt := 51) dX7_operations_41 (by decide) ?_
          refine r_sub [] (lv' := []) rfl ?_
          exact t_X7_operations_b51 hc h
      · have h := wp_f c h
        refine r_bipush hc (v := (-2)) (by decide) dX7_operations_26 ?_
        have h := wp_v h
        exact r_iret hc h dX7_operations_28
    · have h := wp_t c h
      refine r_sub [] (lv' := []) rfl ?_
      exact t_X7_operations_b16 hc h
theorem c_X7_operations {l : Launch} {x0 : Nat} {x1 : Int32} {x2 : Int32} {σ σ' : Hp} {r : Int32} (h : f_X7_operations x0 x1 x2 σ = some (r, σ')) : Mt l yX7_operations cX7_operations 3 (some .int) 6 shM (fun ad => [.ref (ad x0), .int x1, .int x2]) σ (fun ad => some (.int r)) σ' := mt_i (own := RX7) (by decide) rfl (fun _ => Nat.le_of_ble_eq_true rfl) (fun γ ad K hc hk => t_X7_operations hc ⟨_, _, h, hk⟩)

-- NetMapsModel.operation(IIIIII)I
theorem dX7_operation_0 : decode cX7_operation 0 = .ok (.iload_n 1, 1) := by decide +kernel
theorem dX7_operation_1 : decode cX7_operation 1 = .ok (.invokestatic 132, 3) := by decide +kernel
theorem dX7_operation_4 : decode cX7_operation 4 = .ok (.ifCond .eq 51, 3) := by decide +kernel
theorem dX7_operation_7 : decode cX7_operation 7 = .ok (.iload_n 2, 1) := by decide +kernel
theorem dX7_operation_8 : decode cX7_operation 8 = .ok (.iconst 0, 1) := by decide +kernel
theorem dX7_operation_9 : decode cX7_operation 9 = .ok (.iconst 3, 1) := by decide +kernel
theorem dX7_operation_10 : decode cX7_operation 10 = .ok (.invokestatic 81, 3) := by decide +kernel
theorem dX7_operation_13 : decode cX7_operation 13 = .ok (.ifCond .eq 42, 3) := by decide +kernel
theorem dX7_operation_16 : decode cX7_operation 16 = .ok (.iload_n 3, 1) := by decide +kernel
theorem dX7_operation_17 : decode cX7_operation 17 = .ok (.ifCond .lt 38, 3) := by decide +kernel
theorem dX7_operation_20 : decode cX7_operation 20 = .ok (.aload_n 0, 1) := by decide +kernel
theorem dX7_operation_21 : decode cX7_operation 21 = .ok (.iload_n 1, 1) := by decide +kernel
theorem dX7_operation_22 : decode cX7_operation 22 = .ok (.iload 4, 2) := by decide +kernel
theorem dX7_operation_24 : decode cX7_operation 24 = .ok (.invokevirtual 144, 3) := by decide +kernel
theorem dX7_operation_27 : decode cX7_operation 27 = .ok (.ifCond .eq 28, 3) := by decide +kernel
theorem dX7_operation_30 : decode cX7_operation 30 = .ok (.aload_n 0, 1) := by decide +kernel
theorem dX7_operation_31 : decode cX7_operation 31 = .ok (.iload_n 1, 1) := by decide +kernel
theorem dX7_operation_32 : decode cX7_operation 32 = .ok (.iload 5, 2) := by decide +kernel
theorem dX7_operation_34 : decode cX7_operation 34 = .ok (.invokevirtual 144, 3) := by decide +kernel
theorem dX7_operation_37 : decode cX7_operation 37 = .ok (.ifCond .eq 18, 3) := by decide +kernel
theorem dX7_operation_40 : decode cX7_operation 40 = .ok (.iload_n 2, 1) := by decide +kernel
theorem dX7_operation_41 : decode cX7_operation 41 = .ok (.iconst 3, 1) := by decide +kernel
theorem dX7_operation_42 : decode cX7_operation 42 = .ok (.if_icmp .ne 15, 3) := by decide +kernel
theorem dX7_operation_45 : decode cX7_operation 45 = .ok (.aload_n 0, 1) := by decide +kernel
theorem dX7_operation_46 : decode cX7_operation 46 = .ok (.iload_n 1, 1) := by decide +kernel
theorem dX7_operation_47 : decode cX7_operation 47 = .ok (.iload 6, 2) := by decide +kernel
theorem dX7_operation_49 : decode cX7_operation 49 = .ok (.invokevirtual 144, 3) := by decide +kernel
theorem dX7_operation_52 : decode cX7_operation 52 = .ok (.ifCond .ne 5, 3) := by decide +kernel
theorem dX7_operation_55 : decode cX7_operation 55 = .ok (.iconst (-1), 1) := by decide +kernel
theorem dX7_operation_56 : decode cX7_operation 56 = .ok (.ireturn, 1) := by decide +kernel
theorem dX7_operation_57 : decode cX7_operation 57 = .ok (.aload_n 0, 1) := by decide +kernel
theorem dX7_operation_58 : decode cX7_operation 58 = .ok (.iload_n 1, 1) := by decide +kernel
theorem dX7_operation_59 : decode cX7_operation 59 = .ok (.invokevirtual 85, 3) := by decide +kernel
theorem dX7_operation_62 : decode cX7_operation 62 = .ok (.ifCond .eq 6, 3) := by decide +kernel
theorem dX7_operation_65 : decode cX7_operation 65 = .ok (.bipush (-2), 2) := by decide +kernel
theorem dX7_operation_67 : decode cX7_operation 67 = .ok (.ireturn, 1) := by decide +kernel
theorem dX7_operation_68 : decode cX7_operation 68 = .ok (.aload_n 0, 1) := by decide +kernel
theorem dX7_operation_69 : decode cX7_operation 69 = .ok (.getfield 7, 3) := by decide +kernel
theorem dX7_operation_72 : decode cX7_operation 72 = .ok (.iload_n 1, 1) := by decide +kernel
theorem dX7_operation_73 : decode cX7_operation 73 = .ok (.iaload, 1) := by decide +kernel
theorem dX7_operation_74 : decode cX7_operation 74 = .ok (.iconst 3, 1) := by decide +kernel
theorem dX7_operation_75 : decode cX7_operation 75 = .ok (.if_icmp .le 6, 3) := by decide +kernel
theorem dX7_operation_78 : decode cX7_operation 78 = .ok (.bipush (-3), 2) := by decide +kernel
theorem dX7_operation_80 : decode cX7_operation 80 = .ok (.ireturn, 1) := by decide +kernel
theorem dX7_operation_81 : decode cX7_operation 81 = .ok (.aload_n 0, 1) := by decide +kernel
theorem dX7_operation_82 : decode cX7_operation 82 = .ok (.iload_n 1, 1) := by decide +kernel
theorem dX7_operation_83 : decode cX7_operation 83 = .ok (.iload_n 2, 1) := by decide +kernel
theorem dX7_operation_84 : decode cX7_operation 84 = .ok (.iload_n 3, 1) := by decide +kernel
theorem dX7_operation_85 : decode cX7_operation 85 = .ok (.invokevirtual 324, 3) := by decide +kernel
theorem dX7_operation_88 : decode cX7_operation 88 = .ok (.iconst (-1), 1) := by decide +kernel
theorem dX7_operation_89 : decode cX7_operation 89 = .ok (.if_icmp .eq 6, 3) := by decide +kernel
theorem dX7_operation_92 : decode cX7_operation 92 = .ok (.bipush (-4), 2) := by decide +kernel
theorem dX7_operation_94 : decode cX7_operation 94 = .ok (.ireturn, 1) := by decide +kernel
theorem dX7_operation_95 : decode cX7_operation 95 = .ok (.aload_n 0, 1) := by decide +kernel
theorem dX7_operation_96 : decode cX7_operation 96 = .ok (.getfield 54, 3) := by decide +kernel
theorem dX7_operation_99 : decode cX7_operation 99 = .ok (.iload_n 2, 1) := by decide +kernel
theorem dX7_operation_100 : decode cX7_operation 100 = .ok (.iconst 3, 1) := by decide +kernel
theorem dX7_operation_101 : decode cX7_operation 101 = .ok (.if_icmp .ne 24, 3) := by decide +kernel
theorem dX7_operation_104 : decode cX7_operation 104 = .ok (.aload_n 0, 1) := by decide +kernel
theorem dX7_operation_105 : decode cX7_operation 105 = .ok (.getfield 300, 3) := by decide +kernel
theorem dX7_operation_108 : decode cX7_operation 108 = .ok (.aload_n 0, 1) := by decide +kernel
theorem dX7_operation_109 : decode cX7_operation 109 = .ok (.getfield 300, 3) := by decide +kernel
theorem dX7_operation_112 : decode cX7_operation 112 = .ok (.iload 4, 2) := by decide +kernel
theorem dX7_operation_114 : decode cX7_operation 114 = .ok (.imul, 1) := by decide +kernel
theorem dX7_operation_115 : decode cX7_operation 115 = .ok (.iload 5, 2) := by decide +kernel
theorem dX7_operation_117 : decode cX7_operation 117 = .ok (.iadd, 1) := by decide +kernel
theorem dX7_operation_118 : decode cX7_operation 118 = .ok (.imul, 1) := by decide +kernel
theorem dX7_operation_119 : decode cX7_operation 119 = .ok (.iload 6, 2) := by decide +kernel
theorem dX7_operation_121 : decode cX7_operation 121 = .ok (.iadd, 1) := by decide +kernel
theorem dX7_operation_122 : decode cX7_operation 122 = .ok (.goto 13, 3) := by decide +kernel
theorem dX7_operation_125 : decode cX7_operation 125 = .ok (.aload_n 0, 1) := by decide +kernel
theorem dX7_operation_126 : decode cX7_operation 126 = .ok (.getfield 300, 3) := by decide +kernel
theorem dX7_operation_129 : decode cX7_operation 129 = .ok (.iload 4, 2) := by decide +kernel
theorem dX7_operation_131 : decode cX7_operation 131 = .ok (.imul, 1) := by decide +kernel
theorem dX7_operation_132 : decode cX7_operation 132 = .ok (.iload 5, 2) := by decide +kernel
theorem dX7_operation_134 : decode cX7_operation 134 = .ok (.iadd, 1) := by decide +kernel
theorem dX7_operation_135 : decode cX7_operation 135 = .ok (.iaload, 1) := by decide +kernel
theorem dX7_operation_136 : decode cX7_operation 136 = .ok (.ireturn, 1) := by decide +kernel
noncomputable def f_X7_operation_b55  (σ : Hp) : Option (Int32 × Hp) := some ((-1), σ)
set_option maxRecDepth 100000 in
set_option maxHeartbeats 4000000 in
theorem t_X7_operation_b55 {l : Launch} {γ : Gm} {ad : Nat → Nat} {K : Option Value → Hp → Prop} (hc : Cx l γ 6 7 ad shM RX7 cX7_operation (some .int) K)  {σ : Hp} (h : wpO (f_X7_operation_b55  σ) (KI K)) : WW l γ 6 7 ad shM 55 [] [] σ := by
  unfold f_X7_operation_b55 at h
  refine r_iconst hc (v := (-1)) (by decide) dX7_operation_55 ?_
  have h := wp_v h
  exact r_iret hc h dX7_operation_56
noncomputable def f_X7_operation_b135 (s0 : Nat) (s1 : Int32) (σ : Hp) : Option (Int32 × Hp) := gO (aldI shM 0 s0 s1 σ) fun v1 => some (v1, σ)
set_option maxRecDepth 100000 in
set_option maxHeartbeats 4000000 in
theorem t_X7_operation_b135 {l : Launch} {γ : Gm} {ad : Nat → Nat} {K : Option Value → Hp → Prop} (hc : Cx l γ 6 7 ad shM RX7 cX7_operation (some .int) K) {s0 : Nat} {s1 : Int32} {σ : Hp} (h : wpO (f_X7_operation_b135 s0 s1 σ) (KI K)) : WW l γ 6 7 ad shM 135 [] [.int s1, .ref (ad s0)] σ := by
  unfold f_X7_operation_b135 at h
  obtain ⟨v1, ev1, h⟩ := wp_g h
  refine r_iald hc ev1 dX7_operation_135 ?_
  have h := wp_v h
  exact r_iret hc h dX7_operation_136
noncomputable def f_X7_operation_b57 (x0 : Nat) (x1 : Int32) (x2 : Int32) (x3 : Int32) (x4 : Int32) (x5 : Int32) (x6 : Int32) (σ : Hp) : Option (Int32 × Hp) := gO (chk shM x0 7) fun _ => bO (f_X7_isEmpty x0 x1 σ) fun r1 σ2 => if r1 = 0 then (gO (getR shM 7 x0 0 σ2) fun v4 => gO (aldI shM 0 v4 x1 σ2) fun v5 => if v5 ≤ 3 then (gO (chk shM x0 7) fun _ => bO (f_X7_operationsTo x0 x1 x2 x3 σ2) fun r6 σ7 => if r6 = (-1) then (gO (getR shM 7 x0 25 σ7) fun v9 => if x2 = 3 then (gO (getI shM 7 x0 28 σ7) fun v11 => gO (getI shM 7 x0 28 σ7) fun v12 => f_X7_operation_b135 v9 ((v11 * ((v12 * x4) + x5)) + x6) σ7) else (gO (getI shM 7 x0 28 σ7) fun v10 => f_X7_operation_b135 v9 ((v10 * x4) + x5) σ7)) else (some ((-4), σ7))) else (some ((-3), σ2))) else (some ((-2), σ2))
set_option maxRecDepth 100000 in
set_option maxHeartbeats 4000000 in
theorem t_X7_operation_b57 {l : Launch} {γ : Gm} {ad : Nat → Nat} {K : Option Value → Hp → Prop} (hc : Cx l γ 6 7 ad shM RX7 cX7_operation (some .int) K) {x0 : Nat} {x1 : Int32} {x2 : Int32} {x3 : Int32} {x4 : Int32} {x5 : Int32} {x6 : Int32} {σ : Hp} (h : wpO (f_X7_operation_b57 x0 x1 x2 x3 x4 x5 x6 σ) (KI K)) : WW l γ 6 7 ad shM 57 [(0, .ref (ad x0)), (1, .int x1), (2, .int x2), (3, .int x3), (4, .int x4), (5, .int x5), (6, .int x6)] [] σ := by
  unfold f_X7_operation_b57 at h
  refine r_aload_n hc 0 rfl rfl dX7_operation_57 ?_
  refine r_iload_n hc 1 rfl rfl dX7_operation_58 ?_
  obtain ⟨_, ek3, h⟩ := wp_g h
  obtain ⟨r1, σ2, er1, h⟩ := wp_b h
  refine r_callV hc (k0 := x0) mv_X7_isEmpty ml_X7_85 (c_X7_isEmpty er1) (chk_of ek3) cls_7.1 rfl rfl rfl (by decide) rfl (Nat.le_of_ble_eq_true rfl) dX7_operation_59 ?_
  refine r_if_eq hc (tgt := 68) dX7_operation_62 (by decide) (fun c => ?_) (fun c => ?_)
  · have h := wp_t c h
    refine r_aload_n hc 0 rfl rfl dX7_operation_68 ?_
    obtain ⟨v4, ev4, h⟩ := wp_g h
    refine r_getR hc ev4 fl_X7_7 rfl dX7_operation_69 ?_
    refine r_iload_n hc 1 rfl rfl dX7_operation_72 ?_
    obtain ⟨v5, ev5, h⟩ := wp_g h
    refine r_iald hc ev5 dX7_operation_73 ?_
    refine r_iconst hc (v := 3) (by decide) dX7_operation_74 ?_
    refine r_icmp_le hc (tgt := 81) dX7_operation_75 (by decide) (fun c => ?_) (fun c => ?_)
    · have h := wp_t c h
      refine r_aload_n hc 0 rfl rfl dX7_operation_81 ?_
      refine r_iload_n hc 1 rfl rfl dX7_operation_82 ?_
      refine r_iload_n hc 2 rfl rfl dX7_operation_83 ?_
      refine r_iload_n hc 3 rfl rfl dX7_operation_84 ?_
      obtain ⟨_, ek8, h⟩ := wp_g h
      obtain ⟨r6, σ7, er6, h⟩ := wp_b h
      refine r_callV hc (k0 := x0) mv_X7_operationsTo ml_X7_324 (c_X7_operationsTo er6) (chk_of ek8) cls_7.1 rfl rfl rfl (by decide) rfl (Nat.le_of_ble_eq_true rfl) dX7_operation_85 ?_
      refine r_iconst hc (v := (-1)) (by decide) dX7_operation_88 ?_
      refine r_icmp_eq hc (tgt := 95) dX7_operation_89 (by decide) (fun c => ?_) (fun c => ?_)
      · have h := wp_t c h
        refine r_aload_n hc 0 rfl rfl dX7_operation_95 ?_
        obtain ⟨v9, ev9, h⟩ := wp_g h
        refine r_getR hc ev9 fl_X7_54 rfl dX7_operation_96 ?_
        refine r_iload_n hc 2 rfl rfl dX7_operation_99 ?_
        refine r_iconst hc (v := 3) (by decide) dX7_operation_100 ?_
        refine r_icmp_ne hc (tgt := 125) dX7_operation_101 (by decide) (fun c => ?_) (fun c => ?_)
        · have h := wp_f c h
          refine r_aload_n hc 0 rfl rfl dX7_operation_125 ?_
          obtain ⟨v10, ev10, h⟩ := wp_g h
          refine r_getI hc ev10 fl_X7_300 rfl dX7_operation_126 ?_
          refine r_iload hc 4 rfl dX7_operation_129 ?_
          refine r_imul hc dX7_operation_131 ?_
          refine r_iload hc 5 rfl dX7_operation_132 ?_
          refine r_iadd hc dX7_operation_134 ?_
          refine r_sub [] (lv' := []) rfl ?_
          exact t_X7_operation_b135 hc h
        · have h := wp_t c h
          refine r_aload_n hc 0 rfl rfl dX7_operation_104 ?_
          obtain ⟨v11, ev11, h⟩ := wp_g h
          refine r_getI hc ev11 fl_X7_300 rfl dX7_operation_105 ?_
          refine r_aload_n hc 0 rfl rfl dX7_operation_108 ?_
          obtain ⟨v12, ev12, h⟩ := wp_g h
          refine r_getI hc ev12 fl_X7_300 rfl dX7_operation_109 ?_
          refine r_iload hc 4 rfl dX7_operation_112 ?_
          refine r_imul hc dX7_operation_114 ?_
          refine r_iload hc 5 rfl dX7_operation_115 ?_
          refine r_iadd hc dX7_operation_117 ?_
          refine r_imul hc dX7_operation_118 ?_
          refine r_iload hc 6 rfl dX7_operation_119 ?_
          refine r_iadd hc dX7_operation_121 ?_
          refine r_goto hc (tgt := 135) dX7_operation_122 (by decide) ?_
          refine r_sub [] (lv' := []) rfl ?_
          exact t_X7_operation_b135 hc h
      · have h := wp_f c h
        refine r_bipush hc (v := (-4)) (by decide) dX7_operation_92 ?_
        have h := wp_v h
        exact r_iret hc h dX7_operation_94
    · have h := wp_f c h
      refine r_bipush hc (v := (-3)) (by decide) dX7_operation_78 ?_
      have h := wp_v h
      exact r_iret hc h dX7_operation_80
  · have h := wp_f c h
    refine r_bipush hc (v := (-2)) (by decide) dX7_operation_65 ?_
    have h := wp_v h
    exact r_iret hc h dX7_operation_67
noncomputable def f_X7_operation (x0 : Nat) (x1 : Int32) (x2 : Int32) (x3 : Int32) (x4 : Int32) (x5 : Int32) (x6 : Int32) (σ : Hp) : Option (Int32 × Hp) := bO (f_X7_isDrawer x1 σ) fun r1 σ2 => if r1 = 0 then (f_X7_operation_b55  σ2) else (bO (f_X7_in x2 0 3 σ2) fun r3 σ4 => if r3 = 0 then (f_X7_operation_b55  σ4) else (if x3 < 0 then (f_X7_operation_b55  σ4) else (gO (chk shM x0 7) fun _ => bO (f_X7_isNode x0 x1 x4 σ4) fun r5 σ6 => if r5 = 0 then (f_X7_operation_b55  σ6) else (gO (chk shM x0 7) fun _ => bO (f_X7_isNode x0 x1 x5 σ6) fun r8 σ9 => if r8 = 0 then (f_X7_operation_b55  σ9) else (if x2 = 3 then (gO (chk shM x0 7) fun _ => bO (f_X7_isNode x0 x1 x6 σ9) fun r11 σ12 => if r11 = 0 then (f_X7_operation_b55  σ12) else (f_X7_operation_b57 x0 x1 x2 x3 x4 x5 x6 σ12)) else (f_X7_operation_b57 x0 x1 x2 x3 x4 x5 x6 σ9))))))
set_option maxRecDepth 100000 in
set_option maxHeartbeats 4000000 in
theorem t_X7_operation {l : Launch} {γ : Gm} {ad : Nat → Nat} {K : Option Value → Hp → Prop} (hc : Cx l γ 6 7 ad shM RX7 cX7_operation (some .int) K) {x0 : Nat} {x1 : Int32} {x2 : Int32} {x3 : Int32} {x4 : Int32} {x5 : Int32} {x6 : Int32} {σ : Hp} (h : wpO (f_X7_operation x0 x1 x2 x3 x4 x5 x6 σ) (KI K)) : WW l γ 6 7 ad shM 0 [(0, .ref (ad x0)), (1, .int x1), (2, .int x2), (3, .int x3), (4, .int x4), (5, .int x5), (6, .int x6)] [] σ := by
  unfold f_X7_operation at h
  refine r_iload_n hc 1 rfl rfl dX7_operation_0 ?_
  obtain ⟨r1, σ2, er1, h⟩ := wp_b h
  refine r_callS hc ms_X7_isDrawer ml_X7_132 (c_X7_isDrawer er1) rfl rfl (by decide) rfl (Nat.le_of_ble_eq_true rfl) dX7_operation_1 ?_
  refine r_if_eq hc (tgt := 55) dX7_operation_4 (by decide) (fun c => ?_) (fun c => ?_)
  · have h := wp_t c h
    refine r_sub [] (lv' := []) rfl ?_
    exact t_X7_operation_b55 hc h
  · have h := wp_f c h
    refine r_iload_n hc 2 rfl rfl dX7_operation_7 ?_
    refine r_iconst hc (v := 0) (by decide) dX7_operation_8 ?_
    refine r_iconst hc (v := 3) (by decide) dX7_operation_9 ?_
    obtain ⟨r3, σ4, er3, h⟩ := wp_b h
    refine r_callS hc ms_X7_in ml_X7_81 (c_X7_in er3) rfl rfl (by decide) rfl (Nat.le_of_ble_eq_true rfl) dX7_operation_10 ?_
    refine r_if_eq hc (tgt := 55) dX7_operation_13 (by decide) (fun c => ?_) (fun c => ?_)
    · have h := wp_t c h
      refine r_sub [] (lv' := []) rfl ?_
      exact t_X7_operation_b55 hc h
    · have h := wp_f c h
      refine r_iload_n hc 3 rfl rfl dX7_operation_16 ?_
      refine r_if_lt hc (tgt := 55) dX7_operation_17 (by decide) (fun c => ?_) (fun c => ?_)
      · have h := wp_t c h
        refine r_sub [] (lv' := []) rfl ?_
        exact t_X7_operation_b55 hc h
      · have h := wp_f c h
        refine r_aload_n hc 0 rfl rfl dX7_operation_20 ?_
        refine r_iload_n hc 1 rfl rfl dX7_operation_21 ?_
        refine r_iload hc 4 rfl dX7_operation_22 ?_
        obtain ⟨_, ek7, h⟩ := wp_g h
        obtain ⟨r5, σ6, er5, h⟩ := wp_b h
        refine r_callV hc (k0 := x0) mv_X7_isNode ml_X7_144 (c_X7_isNode er5) (chk_of ek7) cls_7.1 rfl rfl rfl (by decide) rfl (Nat.le_of_ble_eq_true rfl) dX7_operation_24 ?_
        refine r_if_eq hc (tgt := 55) dX7_operation_27 (by decide) (fun c => ?_) (fun c => ?_)
        · have h := wp_t c h
          refine r_sub [] (lv' := []) rfl ?_
          exact t_X7_operation_b55 hc h
        · have h := wp_f c h
          refine r_aload_n hc 0 rfl rfl dX7_operation_30 ?_
          refine r_iload_n hc 1 rfl rfl dX7_operation_31 ?_
          refine r_iload hc 5 rfl dX7_operation_32 ?_
          obtain ⟨_, ek10, h⟩ := wp_g h
          obtain ⟨r8, σ9, er8, h⟩ := wp_b h
          refine r_callV hc (k0 := x0) mv_X7_isNode ml_X7_144 (c_X7_isNode er8) (chk_of ek10) cls_7.1 rfl rfl rfl (by decide) rfl (Nat.le_of_ble_eq_true rfl) dX7_operation_34 ?_
          refine r_if_eq hc (tgt := 55) dX7_operation_37 (by decide) (fun c => ?_) (fun c => ?_)
          · have h := wp_t c h
            refine r_sub [] (lv' := []) rfl ?_
            exact t_X7_operation_b55 hc h
          · have h := wp_f c h
            refine r_iload_n hc 2 rfl rfl dX7_operation_40 ?_
            refine r_iconst hc (v := 3) (by decide) dX7_operation_41 ?_
            refine r_icmp_ne hc (tgt := 57) dX7_operation_42 (by decide) (fun c => ?_) (fun c => ?_)
            · have h := wp_f c h
              exact t_X7_operation_b57 hc h
            · have h := wp_t c h
              refine r_aload_n hc 0 rfl rfl dX7_operation_45 ?_
              refine r_iload_n hc 1 rfl rfl dX7_operation_46 ?_
              refine r_iload hc 6 rfl dX7_operation_47 ?_
              obtain ⟨_, ek13, h⟩ := wp_g h
              obtain ⟨r11, σ12, er11, h⟩ := wp_b h
              refine r_callV hc (k0 := x0) mv_X7_isNode ml_X7_144 (c_X7_isNode er11) (chk_of ek13) cls_7.1 rfl rfl rfl (by decide) rfl (Nat.le_of_ble_eq_true rfl) dX7_operation_49 ?_
              refine r_if_ne hc (tgt := 57) dX7_operation_52 (by decide) (fun c => ?_) (fun c => ?_)
              · have h := wp_f c h
                exact t_X7_operation_b57 hc h
              · have h := wp_t c h
                refine r_sub [] (lv' := []) rfl ?_
                exact t_X7_operation_b55 hc h
theorem c_X7_operation {l : Launch} {x0 : Nat} {x1 : Int32} {x2 : Int32} {x3 : Int32} {x4 : Int32} {x5 : Int32} {x6 : Int32} {σ σ' : Hp} {r : Int32} (h : f_X7_operation x0 x1 x2 x3 x4 x5 x6 σ = some (r, σ')) : Mt l yX7_operation cX7_operation 7 (some .int) 6 shM (fun ad => [.ref (ad x0), .int x1, .int x2, .int x3, .int x4, .int x5, .int x6]) σ (fun ad => some (.int r)) σ' := mt_i (own := RX7) (by decide) rfl (fun _ => Nat.le_of_ble_eq_true rfl) (fun γ ad K hc hk => t_X7_operation hc ⟨_, _, h, hk⟩)

-- NetMapsModel.tries(II)V
theorem dX7_tries_0 : decode cX7_tries 0 = .ok (.aload_n 0, 1) := by decide +kernel
theorem dX7_tries_1 : decode cX7_tries 1 = .ok (.bipush 6, 2) := by decide +kernel
theorem dX7_tries_3 : decode cX7_tries 3 = .ok (.iload_n 1, 1) := by decide +kernel
theorem dX7_tries_4 : decode cX7_tries 4 = .ok (.invokevirtual 121, 3) := by decide +kernel
theorem dX7_tries_7 : decode cX7_tries 7 = .ok (.iconst 0, 1) := by decide +kernel
theorem dX7_tries_8 : decode cX7_tries 8 = .ok (.istore_n 3, 1) := by decide +kernel
theorem dX7_tries_9 : decode cX7_tries 9 = .ok (.iload_n 3, 1) := by decide +kernel
theorem dX7_tries_10 : decode cX7_tries 10 = .ok (.iload_n 1, 1) := by decide +kernel
theorem dX7_tries_11 : decode cX7_tries 11 = .ok (.iload_n 1, 1) := by decide +kernel
theorem dX7_tries_12 : decode cX7_tries 12 = .ok (.imul, 1) := by decide +kernel
theorem dX7_tries_13 : decode cX7_tries 13 = .ok (.if_icmp .ge 30, 3) := by decide +kernel
theorem dX7_tries_16 : decode cX7_tries 16 = .ok (.iload_n 2, 1) := by decide +kernel
theorem dX7_tries_17 : decode cX7_tries 17 = .ok (.iload_n 3, 1) := by decide +kernel
theorem dX7_tries_18 : decode cX7_tries 18 = .ok (.invokestatic 89, 3) := by decide +kernel
theorem dX7_tries_21 : decode cX7_tries 21 = .ok (.ifCond .eq 16, 3) := by decide +kernel
theorem dX7_tries_24 : decode cX7_tries 24 = .ok (.aload_n 0, 1) := by decide +kernel
theorem dX7_tries_25 : decode cX7_tries 25 = .ok (.bipush 6, 2) := by decide +kernel
theorem dX7_tries_27 : decode cX7_tries 27 = .ok (.iload_n 3, 1) := by decide +kernel
theorem dX7_tries_28 : decode cX7_tries 28 = .ok (.iload_n 1, 1) := by decide +kernel
theorem dX7_tries_29 : decode cX7_tries 29 = .ok (.idiv, 1) := by decide +kernel
theorem dX7_tries_30 : decode cX7_tries 30 = .ok (.iload_n 3, 1) := by decide +kernel
theorem dX7_tries_31 : decode cX7_tries 31 = .ok (.iload_n 1, 1) := by decide +kernel
theorem dX7_tries_32 : decode cX7_tries 32 = .ok (.irem, 1) := by decide +kernel
theorem dX7_tries_33 : decode cX7_tries 33 = .ok (.iconst 1, 1) := by decide +kernel
theorem dX7_tries_34 : decode cX7_tries 34 = .ok (.invokevirtual 128, 3) := by decide +kernel
theorem dX7_tries_37 : decode cX7_tries 37 = .ok (.iinc 3 1, 3) := by decide +kernel
theorem dX7_tries_40 : decode cX7_tries 40 = .ok (.goto (-31), 3) := by decide +kernel
theorem dX7_tries_43 : decode cX7_tries 43 = .ok (.return_, 1) := by decide +kernel
noncomputable def f_X7_tries_b37 (x0 : Nat) (x1 : Int32) (x2 : Int32) (x3 : Int32) (σ : Hp) : Option (((Int32) ⊕ (Unit)) × Hp) := some (Sum.inl (x3 + 1), σ)
set_option maxRecDepth 100000 in
set_option maxHeartbeats 4000000 in
theorem t_X7_tries_b37 {l : Launch} {γ : Gm} {ad : Nat → Nat} {K : Option Value → Hp → Prop} (hc : Cx l γ 2 4 ad shM RX7 cX7_tries none K) {x0 : Nat} {x1 : Int32} {x2 : Int32} {x3 : Int32}  {σ : Hp} {KL : ((Int32) ⊕ (Unit)) → Hp → Prop} (h : wpO (f_X7_tries_b37 x0 x1 x2 x3 σ) KL) (kn : ∀ (v : (Int32)) (σ : Hp), KL (Sum.inl v) σ → WW l γ 2 4 ad shM 9 [(0, .ref (ad x0)), (1, .int x1), (2, .int x2), (3, .int v)] [] σ) (kx43 : ∀ (v : Unit) (σ : Hp), KL (Sum.inr v) σ → WW l γ 2 4 ad shM 43 [] [] σ) : WW l γ 2 4 ad shM 37 [(0, .ref (ad x0)), (1, .int x1), (2, .int x2), (3, .int x3)] [] σ := by
  unfold f_X7_tries_b37 at h
  refine r_iincE hc (j := 3) (w := 1) (lv' := [(3, .int (x3 + 1)), (0, .ref (ad x0)), (1, .int x1), (2, .int x2)]) rfl (by decide) rfl (by decide) rfl dX7_tries_37 ?_
  refine r_goto hc (tgt := 9) dX7_tries_40 (by decide) ?_
  refine r_sub [1, 2, 3, 0] (lv' := [(0, .ref (ad x0)), (1, .int x1), (2, .int x2), (3, .int (x3 + 1))]) rfl ?_
  have h := wp_v h
  exact kn (x3 + 1) _ h
noncomputable def f_X7_tries_L9 (x0 : Nat) (x1 : Int32) (x2 : Int32) (v : (Int32)) (σ : Hp) : Option (((Int32) ⊕ (Unit)) × Hp) := if (x1 * x1) ≤ v then (some (Sum.inr (), σ)) else (bO (f_X7_has x2 v σ) fun r1 σ2 => if r1 = 0 then (f_X7_tries_b37 x0 x1 x2 v σ2) else (gO (nz x1) fun z3 => gO (nz x1) fun z4 => gO (chk shM x0 7) fun _ => bO (f_X7_sets x0 6 (v / x1) (irm v x1) 1 σ2) fun _ σ6 => f_X7_tries_b37 x0 x1 x2 v σ6))
set_option maxRecDepth 100000 in
set_option maxHeartbeats 4000000 in
theorem t_X7_tries_L9 {l : Launch} {γ : Gm} {ad : Nat → Nat} {K : Option Value → Hp → Prop}  (hc : Cx l γ 2 4 ad shM RX7 cX7_tries none K) {x0 : Nat} {x1 : Int32} {x2 : Int32} {v : (Int32)} {σ : Hp} {KX : (Unit) → Hp → Prop} (h : wpO (wh (f_X7_tries_L9 x0 x1 x2) v σ) KX) (kx43 : ∀ (v : Unit) (σ : Hp), KX v σ → WW l γ 2 4 ad shM 43 [] [] σ) : WW l γ 2 4 ad shM 9 [(0, .ref (ad x0)), (1, .int x1), (2, .int x2), (3, .int v)] [] σ := by
  refine wh_W (P := fun v σ => WW l γ 2 4 ad shM 9 [(0, .ref (ad x0)), (1, .int x1), (2, .int x2), (3, .int v)] [] σ) (fun v σ h => ?_) h
  have kn : ∀ (v : (Int32)) (σ : Hp), WW l γ 2 4 ad shM 9 [(0, .ref (ad x0)), (1, .int x1), (2, .int x2), (3, .int v)] [] σ → WW l γ 2 4 ad shM 9 [(0, .ref (ad x0)), (1, .int x1), (2, .int x2), (3, .int v)] [] σ := fun _ _ h => h
  · unfold f_X7_tries_L9 at h
    refine r_iload_n hc 3 rfl rfl dX7_tries_9 ?_
    refine r_iload_n hc 1 rfl rfl dX7_tries_10 ?_
    refine r_iload_n hc 1 rfl rfl dX7_tries_11 ?_
    refine r_imul hc dX7_tries_12 ?_
    refine r_icmp_ge hc (tgt := 43) dX7_tries_13 (by decide) (fun c => ?_) (fun c => ?_)
    · have h := wp_t c h
      refine r_sub [] (lv' := []) rfl ?_
      have h := wp_v h
      exact kx43 () _ h
    · have h := wp_f c h
      refine r_iload_n hc 2 rfl rfl dX7_tries_16 ?_
      refine r_iload_n hc 3 rfl rfl dX7_tries_17 ?_
      obtain ⟨r1, σ2, er1, h⟩ := wp_b h
      refine r_callS hc ms_X7_has ml_X7_89 (c_X7_has er1) rfl rfl (by decide) rfl (Nat.le_of_ble_eq_true rfl) dX7_tries_18 ?_
      refine r_if_eq hc (tgt := 37) dX7_tries_21 (by decide) (fun c => ?_) (fun c => ?_)
      · have h := wp_t c h
        exact t_X7_tries_b37 hc h kn kx43
      · have h := wp_f c h
        refine r_aload_n hc 0 rfl rfl dX7_tries_24 ?_
        refine r_bipush hc (v := 6) (by decide) dX7_tries_25 ?_
        refine r_iload_n hc 3 rfl rfl dX7_tries_27 ?_
        refine r_iload_n hc 1 rfl rfl dX7_tries_28 ?_
        obtain ⟨z3, ez3, h⟩ := wp_g h
        refine r_idiv hc ez3 dX7_tries_29 ?_
        refine r_iload_n hc 3 rfl rfl dX7_tries_30 ?_
        refine r_iload_n hc 1 rfl rfl dX7_tries_31 ?_
        obtain ⟨z4, ez4, h⟩ := wp_g h
        refine r_irem hc ez4 dX7_tries_32 ?_
        refine r_iconst hc (v := 1) (by decide) dX7_tries_33 ?_
        obtain ⟨_, ek7, h⟩ := wp_g h
        obtain ⟨_, σ6, er5, h⟩ := wp_b h
        refine r_callV hc (k0 := x0) mv_X7_sets ml_X7_128 (c_X7_sets er5) (chk_of ek7) cls_7.1 rfl rfl rfl (by decide) rfl (Nat.le_of_ble_eq_true rfl) dX7_tries_34 ?_
        exact t_X7_tries_b37 hc h kn kx43
noncomputable def f_X7_tries (x0 : Nat) (x1 : Int32) (x2 : Int32) (σ : Hp) : Option (Unit × Hp) := gO (chk shM x0 7) fun _ => bO (f_X7_begins x0 6 x1 σ) fun _ σ2 => bO (wh (f_X7_tries_L9 x0 x1 x2) 0 σ2) fun y4 σ5 => (some ((), σ5))
set_option maxRecDepth 100000 in
set_option maxHeartbeats 4000000 in
theorem t_X7_tries {l : Launch} {γ : Gm} {ad : Nat → Nat} {K : Option Value → Hp → Prop} (hc : Cx l γ 2 4 ad shM RX7 cX7_tries none K) {x0 : Nat} {x1 : Int32} {x2 : Int32} {σ : Hp} (h : wpO (f_X7_tries x0 x1 x2 σ) (KU K)) : WW l γ 2 4 ad shM 0 [(0, .ref (ad x0)), (1, .int x1), (2, .int x2)] [] σ := by
  unfold f_X7_tries at h
  refine r_aload_n hc 0 rfl rfl dX7_tries_0 ?_
  refine r_bipush hc (v := 6) (by decide) dX7_tries_1 ?_
  refine r_iload_n hc 1 rfl rfl dX7_tries_3 ?_
  obtain ⟨_, ek3, h⟩ := wp_g h
  obtain ⟨_, σ2, er1, h⟩ := wp_b h
  refine r_callV hc (k0 := x0) mv_X7_begins ml_X7_121 (c_X7_begins er1) (chk_of ek3) cls_7.1 rfl rfl rfl (by decide) rfl (Nat.le_of_ble_eq_true rfl) dX7_tries_4 ?_
  refine r_iconst hc (v := 0) (by decide) dX7_tries_7 ?_
  refine r_istore_nE hc (i := 3) (lv' := [(3, .int 0), (0, .ref (ad x0)), (1, .int x1), (2, .int x2)]) rfl rfl (by decide) rfl dX7_tries_8 ?_
  refine r_sub [1, 2, 3, 0] (lv' := [(0, .ref (ad x0)), (1, .int x1), (2, .int x2), (3, .int 0)]) rfl ?_
  refine t_X7_tries_L9 hc (wp_bb h) ?_
  · intro y4 σ5 h
    have h := wp_v h
    exact r_vret hc h dX7_tries_43
theorem c_X7_tries {l : Launch} {x0 : Nat} {x1 : Int32} {x2 : Int32} {σ σ' : Hp} {r : Unit} (h : f_X7_tries x0 x1 x2 σ = some (r, σ')) : Mt l yX7_tries cX7_tries 4 none 2 shM (fun ad => [.ref (ad x0), .int x1, .int x2]) σ (fun ad => none) σ' := mt_i (own := RX7) (by decide) rfl (fun _ => Nat.le_of_ble_eq_true rfl) (fun γ ad K hc hk => t_X7_tries hc ⟨_, _, h, hk⟩)

-- NetMapsModel.isSo(III)Z
theorem dX7_isSo_0 : decode cX7_isSo 0 = .ok (.iload_n 3, 1) := by decide +kernel
theorem dX7_isSo_1 : decode cX7_isSo 1 = .ok (.ifCond .ne 26, 3) := by decide +kernel
theorem dX7_isSo_4 : decode cX7_isSo 4 = .ok (.aload_n 0, 1) := by decide +kernel
theorem dX7_isSo_5 : decode cX7_isSo 5 = .ok (.iload_n 1, 1) := by decide +kernel
theorem dX7_isSo_6 : decode cX7_isSo 6 = .ok (.bipush 6, 2) := by decide +kernel
theorem dX7_isSo_8 : decode cX7_isSo 8 = .ok (.invokevirtual 263, 3) := by decide +kernel
theorem dX7_isSo_11 : decode cX7_isSo 11 = .ok (.aload_n 0, 1) := by decide +kernel
theorem dX7_isSo_12 : decode cX7_isSo 12 = .ok (.bipush 6, 2) := by decide +kernel
theorem dX7_isSo_14 : decode cX7_isSo 14 = .ok (.iload_n 2, 1) := by decide +kernel
theorem dX7_isSo_15 : decode cX7_isSo 15 = .ok (.invokevirtual 263, 3) := by decide +kernel
theorem dX7_isSo_18 : decode cX7_isSo 18 = .ok (.if_icmp .ne 7, 3) := by decide +kernel
theorem dX7_isSo_21 : decode cX7_isSo 21 = .ok (.iconst 1, 1) := by decide +kernel
theorem dX7_isSo_22 : decode cX7_isSo 22 = .ok (.goto 4, 3) := by decide +kernel
theorem dX7_isSo_25 : decode cX7_isSo 25 = .ok (.iconst 0, 1) := by decide +kernel
theorem dX7_isSo_26 : decode cX7_isSo 26 = .ok (.ireturn, 1) := by decide +kernel
theorem dX7_isSo_27 : decode cX7_isSo 27 = .ok (.iload_n 3, 1) := by decide +kernel
theorem dX7_isSo_28 : decode cX7_isSo 28 = .ok (.iconst 1, 1) := by decide +kernel
theorem dX7_isSo_29 : decode cX7_isSo 29 = .ok (.if_icmp .ne 49, 3) := by decide +kernel
theorem dX7_isSo_32 : decode cX7_isSo 32 = .ok (.aload_n 0, 1) := by decide +kernel
theorem dX7_isSo_33 : decode cX7_isSo 33 = .ok (.iload_n 1, 1) := by decide +kernel
theorem dX7_isSo_34 : decode cX7_isSo 34 = .ok (.bipush 6, 2) := by decide +kernel
theorem dX7_isSo_36 : decode cX7_isSo 36 = .ok (.invokevirtual 263, 3) := by decide +kernel
theorem dX7_isSo_39 : decode cX7_isSo 39 = .ok (.ifCond .eq 37, 3) := by decide +kernel
theorem dX7_isSo_42 : decode cX7_isSo 42 = .ok (.aload_n 0, 1) := by decide +kernel
theorem dX7_isSo_43 : decode cX7_isSo 43 = .ok (.bipush 6, 2) := by decide +kernel
theorem dX7_isSo_45 : decode cX7_isSo 45 = .ok (.iload_n 2, 1) := by decide +kernel
theorem dX7_isSo_46 : decode cX7_isSo 46 = .ok (.invokevirtual 263, 3) := by decide +kernel
theorem dX7_isSo_49 : decode cX7_isSo 49 = .ok (.ifCond .eq 27, 3) := by decide +kernel
theorem dX7_isSo_52 : decode cX7_isSo 52 = .ok (.aload_n 0, 1) := by decide +kernel
theorem dX7_isSo_53 : decode cX7_isSo 53 = .ok (.bipush 6, 2) := by decide +kernel
theorem dX7_isSo_55 : decode cX7_isSo 55 = .ok (.iload_n 1, 1) := by decide +kernel
theorem dX7_isSo_56 : decode cX7_isSo 56 = .ok (.invokevirtual 263, 3) := by decide +kernel
theorem dX7_isSo_59 : decode cX7_isSo 59 = .ok (.ifCond .ne 17, 3) := by decide +kernel
theorem dX7_isSo_62 : decode cX7_isSo 62 = .ok (.aload_n 0, 1) := by decide +kernel
theorem dX7_isSo_63 : decode cX7_isSo 63 = .ok (.iload_n 2, 1) := by decide +kernel
theorem dX7_isSo_64 : decode cX7_isSo 64 = .ok (.bipush 6, 2) := by decide +kernel
theorem dX7_isSo_66 : decode cX7_isSo 66 = .ok (.invokevirtual 263, 3) := by decide +kernel
theorem dX7_isSo_69 : decode cX7_isSo 69 = .ok (.ifCond .ne 7, 3) := by decide +kernel
theorem dX7_isSo_72 : decode cX7_isSo 72 = .ok (.iconst 1, 1) := by decide +kernel
theorem dX7_isSo_73 : decode cX7_isSo 73 = .ok (.goto 4, 3) := by decide +kernel
theorem dX7_isSo_76 : decode cX7_isSo 76 = .ok (.iconst 0, 1) := by decide +kernel
theorem dX7_isSo_77 : decode cX7_isSo 77 = .ok (.ireturn, 1) := by decide +kernel
theorem dX7_isSo_78 : decode cX7_isSo 78 = .ok (.aload_n 0, 1) := by decide +kernel
theorem dX7_isSo_79 : decode cX7_isSo 79 = .ok (.bipush 6, 2) := by decide +kernel
theorem dX7_isSo_81 : decode cX7_isSo 81 = .ok (.iload_n 1, 1) := by decide +kernel
theorem dX7_isSo_82 : decode cX7_isSo 82 = .ok (.iconst 0, 1) := by decide +kernel
theorem dX7_isSo_83 : decode cX7_isSo 83 = .ok (.invokevirtual 327, 3) := by decide +kernel
theorem dX7_isSo_86 : decode cX7_isSo 86 = .ok (.aload_n 0, 1) := by decide +kernel
theorem dX7_isSo_87 : decode cX7_isSo 87 = .ok (.bipush 6, 2) := by decide +kernel
theorem dX7_isSo_89 : decode cX7_isSo 89 = .ok (.iload_n 2, 1) := by decide +kernel
theorem dX7_isSo_90 : decode cX7_isSo 90 = .ok (.iconst 0, 1) := by decide +kernel
theorem dX7_isSo_91 : decode cX7_isSo 91 = .ok (.invokevirtual 327, 3) := by decide +kernel
theorem dX7_isSo_94 : decode cX7_isSo 94 = .ok (.if_icmp .eq 7, 3) := by decide +kernel
theorem dX7_isSo_97 : decode cX7_isSo 97 = .ok (.iconst 1, 1) := by decide +kernel
theorem dX7_isSo_98 : decode cX7_isSo 98 = .ok (.goto 4, 3) := by decide +kernel
theorem dX7_isSo_101 : decode cX7_isSo 101 = .ok (.iconst 0, 1) := by decide +kernel
theorem dX7_isSo_102 : decode cX7_isSo 102 = .ok (.ireturn, 1) := by decide +kernel
noncomputable def f_X7_isSo_b102 (s0 : Int32) (σ : Hp) : Option (Int32 × Hp) := gO (zz s0) fun _ => some (s0, σ)
set_option maxRecDepth 100000 in
set_option maxHeartbeats 4000000 in
theorem t_X7_isSo_b102 {l : Launch} {γ : Gm} {ad : Nat → Nat} {K : Option Value → Hp → Prop} (hc : Cx l γ 6 4 ad shM RX7 cX7_isSo (some .boolean) K) {s0 : Int32} {σ : Hp} (h : wpO (f_X7_isSo_b102 s0 σ) (KI K)) : WW l γ 6 4 ad shM 102 [] [.int s0] σ := by
  unfold f_X7_isSo_b102 at h
  obtain ⟨_, ek1, h⟩ := wp_g h
  have h := wp_v h
  exact r_zret hc h (zz_of ek1) dX7_isSo_102
noncomputable def f_X7_isSo_b77 (s0 : Int32) (σ : Hp) : Option (Int32 × Hp) := gO (zz s0) fun _ => some (s0, σ)
set_option maxRecDepth 100000 in
set_option maxHeartbeats 4000000 in
theorem t_X7_isSo_b77 {l : Launch} {γ : Gm} {ad : Nat → Nat} {K : Option Value → Hp → Prop} (hc : Cx l γ 6 4 ad shM RX7 cX7_isSo (some .boolean) K) {s0 : Int32} {σ : Hp} (h : wpO (f_X7_isSo_b77 s0 σ) (KI K)) : WW l γ 6 4 ad shM 77 [] [.int s0] σ := by
  unfold f_X7_isSo_b77 at h
  obtain ⟨_, ek1, h⟩ := wp_g h
  have h := wp_v h
  exact r_zret hc h (zz_of ek1) dX7_isSo_77
noncomputable def f_X7_isSo_b76  (σ : Hp) : Option (Int32 × Hp) := f_X7_isSo_b77 0 σ
set_option maxRecDepth 100000 in
set_option maxHeartbeats 4000000 in
theorem t_X7_isSo_b76 {l : Launch} {γ : Gm} {ad : Nat → Nat} {K : Option Value → Hp → Prop} (hc : Cx l γ 6 4 ad shM RX7 cX7_isSo (some .boolean) K)  {σ : Hp} (h : wpO (f_X7_isSo_b76  σ) (KI K)) : WW l γ 6 4 ad shM 76 [] [] σ := by
  unfold f_X7_isSo_b76 at h
  refine r_iconst hc (v := 0) (by decide) dX7_isSo_76 ?_
  exact t_X7_isSo_b77 hc h
noncomputable def f_X7_isSo_b26 (s0 : Int32) (σ : Hp) : Option (Int32 × Hp) := gO (zz s0) fun _ => some (s0, σ)
set_option maxRecDepth 100000 in
set_option maxHeartbeats 4000000 in
theorem t_X7_isSo_b26 {l : Launch} {γ : Gm} {ad : Nat → Nat} {K : Option Value → Hp → Prop} (hc : Cx l γ 6 4 ad shM RX7 cX7_isSo (some .boolean) K) {s0 : Int32} {σ : Hp} (h : wpO (f_X7_isSo_b26 s0 σ) (KI K)) : WW l γ 6 4 ad shM 26 [] [.int s0] σ := by
  unfold f_X7_isSo_b26 at h
  obtain ⟨_, ek1, h⟩ := wp_g h
  have h := wp_v h
  exact r_zret hc h (zz_of ek1) dX7_isSo_26
noncomputable def f_X7_isSo (x0 : Nat) (x1 : Int32) (x2 : Int32) (x3 : Int32) (σ : Hp) : Option (Int32 × Hp) := if x3 = 0 then (gO (chk shM x0 7) fun _ => bO (f_X7_doesFit x0 x1 6 σ) fun r19 σ20 => gO (chk shM x0 7) fun _ => bO (f_X7_doesFit x0 6 x2 σ20) fun r22 σ23 => if r19 = r22 then (f_X7_isSo_b26 1 σ23) else (f_X7_isSo_b26 0 σ23)) else (if x3 = 1 then (gO (chk shM x0 7) fun _ => bO (f_X7_doesFit x0 x1 6 σ) fun r7 σ8 => if r7 = 0 then (f_X7_isSo_b76  σ8) else (gO (chk shM x0 7) fun _ => bO (f_X7_doesFit x0 6 x2 σ8) fun r10 σ11 => if r10 = 0 then (f_X7_isSo_b76  σ11) else (gO (chk shM x0 7) fun _ => bO (f_X7_doesFit x0 6 x1 σ11) fun r13 σ14 => if r13 = 0 then (gO (chk shM x0 7) fun _ => bO (f_X7_doesFit x0 x2 6 σ14) fun r16 σ17 => if r16 = 0 then (f_X7_isSo_b77 1 σ17) else (f_X7_isSo_b76  σ17)) else (f_X7_isSo_b76  σ14)))) else (gO (chk shM x0 7) fun _ => bO (f_X7_mapsOf x0 6 x1 0 σ) fun r1 σ2 => gO (chk shM x0 7) fun _ => bO (f_X7_mapsOf x0 6 x2 0 σ2) fun r4 σ5 => if r1 = r4 then (f_X7_isSo_b102 0 σ5) else (f_X7_isSo_b102 1 σ5)))
set_option maxRecDepth 100000 in
set_option maxHeartbeats 4000000 in
theorem t_X7_isSo {l : Launch} {γ : Gm} {ad : Nat → Nat} {K : Option Value → Hp → Prop} (hc : Cx l γ 6 4 ad shM RX7 cX7_isSo (some .boolean) K) {x0 : Nat} {x1 : Int32} {x2 : Int32} {x3 : Int32} {σ : Hp} (h : wpO (f_X7_isSo x0 x1 x2 x3 σ) (KI K)) : WW l γ 6 4 ad shM 0 [(0, .ref (ad x0)), (1, .int x1), (2, .int x2), (3, .int x3)] [] σ := by
  unfold f_X7_isSo at h
  refine r_iload_n hc 3 rfl rfl dX7_isSo_0 ?_
  refine r_if_ne hc (tgt := 27) dX7_isSo_1 (by decide) (fun c => ?_) (fun c => ?_)
  · have h := wp_f c h
    refine r_iload_n hc 3 rfl rfl dX7_isSo_27 ?_
    refine r_iconst hc (v := 1) (by decide) dX7_isSo_28 ?_
    refine r_icmp_ne hc (tgt := 78) dX7_isSo_29 (by decide) (fun c => ?_) (fun c => ?_)
    · have h := wp_f c h
      refine r_aload_n hc 0 rfl rfl dX7_isSo_78 ?_
      refine r_bipush hc (v := 6) (by decide) dX7_isSo_79 ?_
      refine r_iload_n hc 1 rfl rfl dX7_isSo_81 ?_
      refine r_iconst hc (v := 0) (by decide) dX7_isSo_82 ?_
      obtain ⟨_, ek3, h⟩ := wp_g h
      obtain ⟨r1, σ2, er1, h⟩ := wp_b h
      refine r_callV hc (k0 := x0) mv_X7_mapsOf ml_X7_327 (c_X7_mapsOf er1) (chk_of ek3) cls_7.1 rfl rfl rfl (by decide) rfl (Nat.le_of_ble_eq_true rfl) dX7_isSo_83 ?_
      refine r_aload_n hc 0 rfl rfl dX7_isSo_86 ?_
      refine r_bipush hc (v := 6) (by decide) dX7_isSo_87 ?_
      refine r_iload_n hc 2 rfl rfl dX7_isSo_89 ?_
      refine r_iconst hc (v := 0) (by decide) dX7_isSo_90 ?_
      obtain ⟨_, ek6, h⟩ := wp_g h
      obtain ⟨r4, σ5, er4, h⟩ := wp_b h
      refine r_callV hc (k0 := x0) mv_X7_mapsOf ml_X7_327 (c_X7_mapsOf er4) (chk_of ek6) cls_7.1 rfl rfl rfl (by decide) rfl (Nat.le_of_ble_eq_true rfl) dX7_isSo_91 ?_
      refine r_icmp_eq hc (tgt := 101) dX7_isSo_94 (by decide) (fun c => ?_) (fun c => ?_)
      · have h := wp_t c h
        refine r_iconst hc (v := 0) (by decide) dX7_isSo_101 ?_
        refine r_sub [] (lv' := []) rfl ?_
        exact t_X7_isSo_b102 hc h
      · have h := wp_f c h
        refine r_iconst hc (v := 1) (by decide) dX7_isSo_97 ?_
        refine r_goto hc (tgt := 102) dX7_isSo_98 (by decide) ?_
        refine r_sub [] (lv' := []) rfl ?_
        exact t_X7_isSo_b102 hc h
    · have h := wp_t c h
      refine r_aload_n hc 0 rfl rfl dX7_isSo_32 ?_
      refine r_iload_n hc 1 rfl rfl dX7_isSo_33 ?_
      refine r_bipush hc (v := 6) (by decide) dX7_isSo_34 ?_
      obtain ⟨_, ek9, h⟩ := wp_g h
      obtain ⟨r7, σ8, er7, h⟩ := wp_b h
      refine r_callV hc (k0 := x0) mv_X7_doesFit ml_X7_263 (c_X7_doesFit er7) (chk_of ek9) cls_7.1 rfl rfl rfl (by decide) rfl (Nat.le_of_ble_eq_true rfl) dX7_isSo_36 ?_
      refine r_if_eq hc (tgt := 76) dX7_isSo_39 (by decide) (fun c => ?_) (fun c => ?_)
      · have h := wp_t c h
        refine r_sub [] (lv' := []) rfl ?_
        exact t_X7_isSo_b76 hc h
      · have h := wp_f c h
        refine r_aload_n hc 0 rfl rfl dX7_isSo_42 ?_
        refine r_bipush hc (v := 6) (by decide) dX7_isSo_43 ?_
        refine r_iload_n hc 2 rfl rfl dX7_isSo_45 ?_
        obtain ⟨_, ek12, h⟩ := wp_g h
        obtain ⟨r10, σ11, er10, h⟩ := wp_b h
        refine r_callV hc (k0 := x0) mv_X7_doesFit ml_X7_263 (c_X7_doesFit er10) (chk_of ek12) cls_7.1 rfl rfl rfl (by decide) rfl (Nat.le_of_ble_eq_true rfl) dX7_isSo_46 ?_
        refine r_if_eq hc (tgt := 76) dX7_isSo_49 (by decide) (fun c => ?_) (fun c => ?_)
        · have h := wp_t c h
          refine r_sub [] (lv' := []) rfl ?_
          exact t_X7_isSo_b76 hc h
        · have h := wp_f c h
          refine r_aload_n hc 0 rfl rfl dX7_isSo_52 ?_
          refine r_bipush hc (v := 6) (by decide) dX7_isSo_53 ?_
          refine r_iload_n hc 1 rfl rfl dX7_isSo_55 ?_
          obtain ⟨_, ek15, h⟩ := wp_g h
          obtain ⟨r13, σ14, er13, h⟩ := wp_b h
          refine r_callV hc (k0 := x0) mv_X7_doesFit ml_X7_263 (c_X7_doesFit er13) (chk_of ek15) cls_7.1 rfl rfl rfl (by decide) rfl (Nat.le_of_ble_eq_true rfl) dX7_isSo_56 ?_
          refine r_if_ne hc (tgt := 76) dX7_isSo_59 (by decide) (fun c => ?_) (fun c => ?_)
          · have h := wp_f c h
            refine r_sub [] (lv' := []) rfl ?_
            exact t_X7_isSo_b76 hc h
          · have h := wp_t c h
            refine r_aload_n hc 0 rfl rfl dX7_isSo_62 ?_
            refine r_iload_n hc 2 rfl rfl dX7_isSo_63 ?_
            refine r_bipush hc (v := 6) (by decide) dX7_isSo_64 ?_
            obtain ⟨_, ek18, h⟩ := wp_g h
            obtain ⟨r16, σ17, er16, h⟩ := wp_b h
            refine r_callV hc (k0 := x0) mv_X7_doesFit ml_X7_263 (c_X7_doesFit er16) (chk_of ek18) cls_7.1 rfl rfl rfl (by decide) rfl (Nat.le_of_ble_eq_true rfl) dX7_isSo_66 ?_
            refine r_if_ne hc (tgt := 76) dX7_isSo_69 (by decide) (fun c => ?_) (fun c => ?_)
            · have h := wp_f c h
              refine r_sub [] (lv' := []) rfl ?_
              exact t_X7_isSo_b76 hc h
            · have h := wp_t c h
              refine r_iconst hc (v := 1) (by decide) dX7_isSo_72 ?_
              refine r_goto hc (tgt := 77) dX7_isSo_73 (by decide) ?_
              refine r_sub [] (lv' := []) rfl ?_
              exact t_X7_isSo_b77 hc h
  · have h := wp_t c h
    refine r_aload_n hc 0 rfl rfl dX7_isSo_4 ?_
    refine r_iload_n hc 1 rfl rfl dX7_isSo_5 ?_
    refine r_bipush hc (v := 6) (by decide) dX7_isSo_6 ?_
    obtain ⟨_, ek21, h⟩ := wp_g h
    obtain ⟨r19, σ20, er19, h⟩ := wp_b h
    refine r_callV hc (k0 := x0) mv_X7_doesFit ml_X7_263 (c_X7_doesFit er19) (chk_of ek21) cls_7.1 rfl rfl rfl (by decide) rfl (Nat.le_of_ble_eq_true rfl) dX7_isSo_8 ?_
    refine r_aload_n hc 0 rfl rfl dX7_isSo_11 ?_
    refine r_bipush hc (v := 6) (by decide) dX7_isSo_12 ?_
    refine r_iload_n hc 2 rfl rfl dX7_isSo_14 ?_
    obtain ⟨_, ek24, h⟩ := wp_g h
    obtain ⟨r22, σ23, er22, h⟩ := wp_b h
    refine r_callV hc (k0 := x0) mv_X7_doesFit ml_X7_263 (c_X7_doesFit er22) (chk_of ek24) cls_7.1 rfl rfl rfl (by decide) rfl (Nat.le_of_ble_eq_true rfl) dX7_isSo_15 ?_
    refine r_icmp_ne hc (tgt := 25) dX7_isSo_18 (by decide) (fun c => ?_) (fun c => ?_)
    · have h := wp_f c h
      refine r_iconst hc (v := 0) (by decide) dX7_isSo_25 ?_
      refine r_sub [] (lv' := []) rfl ?_
      exact t_X7_isSo_b26 hc h
    · have h := wp_t c h
      refine r_iconst hc (v := 1) (by decide) dX7_isSo_21 ?_
      refine r_goto hc (tgt := 26) dX7_isSo_22 (by decide) ?_
      refine r_sub [] (lv' := []) rfl ?_
      exact t_X7_isSo_b26 hc h
theorem c_X7_isSo {l : Launch} {x0 : Nat} {x1 : Int32} {x2 : Int32} {x3 : Int32} {σ σ' : Hp} {r : Int32} (h : f_X7_isSo x0 x1 x2 x3 σ = some (r, σ')) : Mt l yX7_isSo cX7_isSo 4 (some .boolean) 6 shM (fun ad => [.ref (ad x0), .int x1, .int x2, .int x3]) σ (fun ad => some (.int r)) σ' := mt_i (own := RX7) (by decide) rfl (fun _ => Nat.le_of_ble_eq_true rfl) (fun γ ad K hc hk => t_X7_isSo hc ⟨_, _, h, hk⟩)

-- NetMapsModel.triesAll(IIIZI)I
theorem dX7_triesAll_0 : decode cX7_triesAll 0 = .ok (.iload_n 1, 1) := by decide +kernel
theorem dX7_triesAll_1 : decode cX7_triesAll 1 = .ok (.iload_n 2, 1) := by decide +kernel
theorem dX7_triesAll_2 : decode cX7_triesAll 2 = .ok (.invokestatic 243, 3) := by decide +kernel
theorem dX7_triesAll_5 : decode cX7_triesAll 5 = .ok (.ifCond .eq 12, 3) := by decide +kernel
theorem dX7_triesAll_8 : decode cX7_triesAll 8 = .ok (.iload_n 3, 1) := by decide +kernel
theorem dX7_triesAll_9 : decode cX7_triesAll 9 = .ok (.iconst 1, 1) := by decide +kernel
theorem dX7_triesAll_10 : decode cX7_triesAll 10 = .ok (.iconst 3, 1) := by decide +kernel
theorem dX7_triesAll_11 : decode cX7_triesAll 11 = .ok (.invokestatic 81, 3) := by decide +kernel
theorem dX7_triesAll_14 : decode cX7_triesAll 14 = .ok (.ifCond .ne 5, 3) := by decide +kernel
theorem dX7_triesAll_17 : decode cX7_triesAll 17 = .ok (.iconst (-1), 1) := by decide +kernel
theorem dX7_triesAll_18 : decode cX7_triesAll 18 = .ok (.ireturn, 1) := by decide +kernel
theorem dX7_triesAll_19 : decode cX7_triesAll 19 = .ok (.aload_n 0, 1) := by decide +kernel
theorem dX7_triesAll_20 : decode cX7_triesAll 20 = .ok (.iload_n 1, 1) := by decide +kernel
theorem dX7_triesAll_21 : decode cX7_triesAll 21 = .ok (.iload_n 2, 1) := by decide +kernel
theorem dX7_triesAll_22 : decode cX7_triesAll 22 = .ok (.invokevirtual 246, 3) := by decide +kernel
theorem dX7_triesAll_25 : decode cX7_triesAll 25 = .ok (.ifCond .eq 6, 3) := by decide +kernel
theorem dX7_triesAll_28 : decode cX7_triesAll 28 = .ok (.bipush (-2), 2) := by decide +kernel
theorem dX7_triesAll_30 : decode cX7_triesAll 30 = .ok (.ireturn, 1) := by decide +kernel
theorem dX7_triesAll_31 : decode cX7_triesAll 31 = .ok (.iconst 0, 1) := by decide +kernel
theorem dX7_triesAll_32 : decode cX7_triesAll 32 = .ok (.istore 6, 2) := by decide +kernel
theorem dX7_triesAll_34 : decode cX7_triesAll 34 = .ok (.iconst 0, 1) := by decide +kernel
theorem dX7_triesAll_35 : decode cX7_triesAll 35 = .ok (.istore 7, 2) := by decide +kernel
theorem dX7_triesAll_37 : decode cX7_triesAll 37 = .ok (.iload 7, 2) := by decide +kernel
theorem dX7_triesAll_39 : decode cX7_triesAll 39 = .ok (.iconst 1, 1) := by decide +kernel
theorem dX7_triesAll_40 : decode cX7_triesAll 40 = .ok (.iload_n 3, 1) := by decide +kernel
theorem dX7_triesAll_41 : decode cX7_triesAll 41 = .ok (.iload_n 3, 1) := by decide +kernel
theorem dX7_triesAll_42 : decode cX7_triesAll 42 = .ok (.imul, 1) := by decide +kernel
theorem dX7_triesAll_43 : decode cX7_triesAll 43 = .ok (.ishl, 1) := by decide +kernel
theorem dX7_triesAll_44 : decode cX7_triesAll 44 = .ok (.if_icmp .ge 44, 3) := by decide +kernel
theorem dX7_triesAll_47 : decode cX7_triesAll 47 = .ok (.aload_n 0, 1) := by decide +kernel
theorem dX7_triesAll_48 : decode cX7_triesAll 48 = .ok (.iload_n 3, 1) := by decide +kernel
theorem dX7_triesAll_49 : decode cX7_triesAll 49 = .ok (.iload 7, 2) := by decide +kernel
theorem dX7_triesAll_51 : decode cX7_triesAll 51 = .ok (.invokevirtual 331, 3) := by decide +kernel
theorem dX7_triesAll_54 : decode cX7_triesAll 54 = .ok (.aload_n 0, 1) := by decide +kernel
theorem dX7_triesAll_55 : decode cX7_triesAll 55 = .ok (.iload_n 1, 1) := by decide +kernel
theorem dX7_triesAll_56 : decode cX7_triesAll 56 = .ok (.iload_n 2, 1) := by decide +kernel
theorem dX7_triesAll_57 : decode cX7_triesAll 57 = .ok (.iload 5, 2) := by decide +kernel
theorem dX7_triesAll_59 : decode cX7_triesAll 59 = .ok (.invokevirtual 333, 3) := by decide +kernel
theorem dX7_triesAll_62 : decode cX7_triesAll 62 = .ok (.ifCond .ne 6, 3) := by decide +kernel
theorem dX7_triesAll_65 : decode cX7_triesAll 65 = .ok (.goto 17, 3) := by decide +kernel
theorem dX7_triesAll_68 : decode cX7_triesAll 68 = .ok (.iload 4, 2) := by decide +kernel
theorem dX7_triesAll_70 : decode cX7_triesAll 70 = .ok (.ifCond .eq 6, 3) := by decide +kernel
theorem dX7_triesAll_73 : decode cX7_triesAll 73 = .ok (.iload 7, 2) := by decide +kernel
theorem dX7_triesAll_75 : decode cX7_triesAll 75 = .ok (.ireturn, 1) := by decide +kernel
theorem dX7_triesAll_76 : decode cX7_triesAll 76 = .ok (.iload 6, 2) := by decide +kernel
theorem dX7_triesAll_78 : decode cX7_triesAll 78 = .ok (.iconst 1, 1) := by decide +kernel
theorem dX7_triesAll_79 : decode cX7_triesAll 79 = .ok (.iadd, 1) := by decide +kernel
theorem dX7_triesAll_80 : decode cX7_triesAll 80 = .ok (.istore 6, 2) := by decide +kernel
theorem dX7_triesAll_82 : decode cX7_triesAll 82 = .ok (.iinc 7 1, 3) := by decide +kernel
theorem dX7_triesAll_85 : decode cX7_triesAll 85 = .ok (.goto (-48), 3) := by decide +kernel
theorem dX7_triesAll_88 : decode cX7_triesAll 88 = .ok (.iload 4, 2) := by decide +kernel
theorem dX7_triesAll_90 : decode cX7_triesAll 90 = .ok (.ifCond .eq 8, 3) := by decide +kernel
theorem dX7_triesAll_93 : decode cX7_triesAll 93 = .ok (.bipush (-4), 2) := by decide +kernel
theorem dX7_triesAll_95 : decode cX7_triesAll 95 = .ok (.goto 5, 3) := by decide +kernel
theorem dX7_triesAll_98 : decode cX7_triesAll 98 = .ok (.iload 6, 2) := by decide +kernel
theorem dX7_triesAll_100 : decode cX7_triesAll 100 = .ok (.ireturn, 1) := by decide +kernel
noncomputable def f_X7_triesAll_b17  (σ : Hp) : Option (Int32 × Hp) := some ((-1), σ)
set_option maxRecDepth 100000 in
set_option maxHeartbeats 4000000 in
theorem t_X7_triesAll_b17 {l : Launch} {γ : Gm} {ad : Nat → Nat} {K : Option Value → Hp → Prop} (hc : Cx l γ 7 8 ad shM RX7 cX7_triesAll (some .int) K)  {σ : Hp} (h : wpO (f_X7_triesAll_b17  σ) (KI K)) : WW l γ 7 8 ad shM 17 [] [] σ := by
  unfold f_X7_triesAll_b17 at h
  refine r_iconst hc (v := (-1)) (by decide) dX7_triesAll_17 ?_
  have h := wp_v h
  exact r_iret hc h dX7_triesAll_18
noncomputable def f_X7_triesAll_b82 (x0 : Nat) (x1 : Int32) (x2 : Int32) (x3 : Int32) (x4 : Int32) (x5 : Int32) (x6 : Int32) (x7 : Int32) (σ : Hp) : Option (((Int32 × Int32) ⊕ ((Int32) ⊕ (Int32))) × Hp) := some (Sum.inl (x6, (x7 + 1)), σ)
set_option maxRecDepth 100000 in
set_option maxHeartbeats 4000000 in
theorem t_X7_triesAll_b82 {l : Launch} {γ : Gm} {ad : Nat → Nat} {K : Option Value → Hp → Prop} (hc : Cx l γ 7 8 ad shM RX7 cX7_triesAll (some .int) K) {x0 : Nat} {x1 : Int32} {x2 : Int32} {x3 : Int32} {x4 : Int32} {x5 : Int32} {x6 : Int32} {x7 : Int32}  {σ : Hp} {KL : ((Int32 × Int32) ⊕ ((Int32) ⊕ (Int32))) → Hp → Prop} (h : wpO (f_X7_triesAll_b82 x0 x1 x2 x3 x4 x5 x6 x7 σ) KL) (kn : ∀ (v : (Int32 × Int32)) (σ : Hp), KL (Sum.inl v) σ → WW l γ 7 8 ad shM 37 [(0, .ref (ad x0)), (1, .int x1), (2, .int x2), (3, .int x3), (4, .int x4), (5, .int x5), (6, .int v.1), (7, .int v.2)] [] σ) (kx73 : ∀ (v : Int32) (σ : Hp), KL (Sum.inr (Sum.inl v)) σ → WW l γ 7 8 ad shM 73 [(7, .int v)] [] σ) (kx88 : ∀ (v : Int32) (σ : Hp), KL (Sum.inr (Sum.inr v)) σ → WW l γ 7 8 ad shM 88 [(4, .int x4), (6, .int v)] [] σ) : WW l γ 7 8 ad shM 82 [(0, .ref (ad x0)), (1, .int x1), (2, .int x2), (3, .int x3), (4, .int x4), (5, .int x5), (6, .int x6), (7, .int x7)] [] σ := by
  unfold f_X7_triesAll_b82 at h
  refine r_iincE hc (j := 7) (w := 1) (lv' := [(7, .int (x7 + 1)), (0, .ref (ad x0)), (1, .int x1), (2, .int x2), (3, .int x3), (4, .int x4), (5, .int x5), (6, .int x6)]) rfl (by decide) rfl (by decide) rfl dX7_triesAll_82 ?_
  refine r_goto hc (tgt := 37) dX7_triesAll_85 (by decide) ?_
  refine r_sub [1, 2, 3, 4, 5, 6, 7, 0] (lv' := [(0, .ref (ad x0)), (1, .int x1), (2, .int x2), (3, .int x3), (4, .int x4), (5, .int x5), (6, .int x6), (7, .int (x7 + 1))]) rfl ?_
  have h := wp_v h
  exact kn (x6, (x7 + 1)) _ h
noncomputable def f_X7_triesAll_L37 (x0 : Nat) (x1 : Int32) (x2 : Int32) (x3 : Int32) (x4 : Int32) (x5 : Int32) (v : (Int32 × Int32)) (σ : Hp) : Option (((Int32 × Int32) ⊕ ((Int32) ⊕ (Int32))) × Hp) := if ((1 : Int32) <<< ((x3 * x3) &&& 31)) ≤ v.2 then (some (Sum.inr (Sum.inr v.1), σ)) else (gO (chk shM x0 7) fun _ => bO (f_X7_tries x0 x3 v.2 σ) fun _ σ2 => gO (chk shM x0 7) fun _ => bO (f_X7_isSo x0 x1 x2 x5 σ2) fun r4 σ5 => if r4 = 0 then (f_X7_triesAll_b82 x0 x1 x2 x3 x4 x5 v.1 v.2 σ5) else (if x4 = 0 then (f_X7_triesAll_b82 x0 x1 x2 x3 x4 x5 (v.1 + 1) v.2 σ5) else (some (Sum.inr (Sum.inl v.2), σ5))))
set_option maxRecDepth 100000 in
set_option maxHeartbeats 4000000 in
theorem t_X7_triesAll_L37 {l : Launch} {γ : Gm} {ad : Nat → Nat} {K : Option Value → Hp → Prop}  (hc : Cx l γ 7 8 ad shM RX7 cX7_triesAll (some .int) K) {x0 : Nat} {x1 : Int32} {x2 : Int32} {x3 : Int32} {x4 : Int32} {x5 : Int32} {v : (Int32 × Int32)} {σ : Hp} {KX : ((Int32) ⊕ (Int32)) → Hp → Prop} (h : wpO (wh (f_X7_triesAll_L37 x0 x1 x2 x3 x4 x5) v σ) KX) (kx73 : ∀ (v : Int32) (σ : Hp), KX (Sum.inl v) σ → WW l γ 7 8 ad shM 73 [(7, .int v)] [] σ) (kx88 : ∀ (v : Int32) (σ : Hp), KX (Sum.inr v) σ → WW l γ 7 8 ad shM 88 [(4, .int x4), (6, .int v)] [] σ) : WW l γ 7 8 ad shM 37 [(0, .ref (ad x0)), (1, .int x1), (2, .int x2), (3, .int x3), (4, .int x4), (5, .int x5), (6, .int v.1), (7, .int v.2)] [] σ := by
  refine wh_W (P := fun v σ => WW l γ 7 8 ad shM 37 [(0, .ref (ad x0)), (1, .int x1), (2, .int x2), (3, .int x3), (4, .int x4), (5, .int x5), (6, .int v.1), (7, .int v.2)] [] σ) (fun v σ h => ?_) h
  have kn : ∀ (v : (Int32 × Int32)) (σ : Hp), WW l γ 7 8 ad shM 37 [(0, .ref (ad x0)), (1, .int x1), (2, .int x2), (3, .int x3), (4, .int x4), (5, .int x5), (6, .int v.1), (7, .int v.2)] [] σ → WW l γ 7 8 ad shM 37 [(0, .ref (ad x0)), (1, .int x1), (2, .int x2), (3, .int x3), (4, .int x4), (5, .int x5), (6, .int v.1), (7, .int v.2)] [] σ := fun _ _ h => h
  · unfold f_X7_triesAll_L37 at h
    refine r_iload hc 7 rfl dX7_triesAll_37 ?_
    refine r_iconst hc (v := 1) (by decide) dX7_triesAll_39 ?_
    refine r_iload_n hc 3 rfl rfl dX7_triesAll_40 ?_
    refine r_iload_n hc 3 rfl rfl dX7_triesAll_41 ?_
    refine r_imul hc dX7_triesAll_42 ?_
    refine r_ishl hc dX7_triesAll_43 ?_
    refine r_icmp_ge hc (tgt := 88) dX7_triesAll_44 (by decide) (fun c => ?_) (fun c => ?_)
    · have h := wp_t c h
      refine r_sub [4, 6] (lv' := [(4, .int x4), (6, .int v.1)]) rfl ?_
      have h := wp_v h
      exact kx88 v.1 _ h
    · have h := wp_f c h
      refine r_aload_n hc 0 rfl rfl dX7_triesAll_47 ?_
      refine r_iload_n hc 3 rfl rfl dX7_triesAll_48 ?_
      refine r_iload hc 7 rfl dX7_triesAll_49 ?_
      obtain ⟨_, ek3, h⟩ := wp_g h
      obtain ⟨_, σ2, er1, h⟩ := wp_b h
      refine r_callV hc (k0 := x0) mv_X7_tries ml_X7_331 (c_X7_tries er1) (chk_of ek3) cls_7.1 rfl rfl rfl (by decide) rfl (Nat.le_of_ble_eq_true rfl) dX7_triesAll_51 ?_
      refine r_aload_n hc 0 rfl rfl dX7_triesAll_54 ?_
      refine r_iload_n hc 1 rfl rfl dX7_triesAll_55 ?_
      refine r_iload_n hc 2 rfl rfl dX7_triesAll_56 ?_
      refine r_iload hc 5 rfl dX7_triesAll_57 ?_
      obtain ⟨_, ek6, h⟩ := wp_g h
      obtain ⟨r4, σ5, er4, h⟩ := wp_b h
      refine r_callV hc (k0 := x0) mv_X7_isSo ml_X7_333 (c_X7_isSo er4) (chk_of ek6) cls_7.1 rfl rfl rfl (by decide) rfl (Nat.le_of_ble_eq_true rfl) dX7_triesAll_59 ?_
      refine r_if_ne hc (tgt := 68) dX7_triesAll_62 (by decide) (fun c => ?_) (fun c => ?_)
      · have h := wp_f c h
        refine r_iload hc 4 rfl dX7_triesAll_68 ?_
        refine r_if_eq hc (tgt := 76) dX7_triesAll_70 (by decide) (fun c => ?_) (fun c => ?_)
        · have h := wp_t c h
          refine r_iload hc 6 rfl dX7_triesAll_76 ?_
          refine r_iconst hc (v := 1) (by decide) dX7_triesAll_78 ?_
          refine r_iadd hc dX7_triesAll_79 ?_
          refine r_istoreE hc (i := 6) (lv' := [(6, .int (v.1 + 1)), (0, .ref (ad x0)), (1, .int x1), (2, .int x2), (3, .int x3), (4, .int x4), (5, .int x5), (7, .int v.2)]) rfl (by decide) rfl dX7_triesAll_80 ?_
          refine r_sub [1, 2, 3, 4, 5, 6, 0, 7] (lv' := [(0, .ref (ad x0)), (1, .int x1), (2, .int x2), (3, .int x3), (4, .int x4), (5, .int x5), (6, .int (v.1 + 1)), (7, .int v.2)]) rfl ?_
          exact t_X7_triesAll_b82 hc h kn kx73 kx88
        · have h := wp_f c h
          refine r_sub [7] (lv' := [(7, .int v.2)]) rfl ?_
          have h := wp_v h
          exact kx73 v.2 _ h
      · have h := wp_t c h
        refine r_goto hc (tgt := 82) dX7_triesAll_65 (by decide) ?_
        exact t_X7_triesAll_b82 hc h kn kx73 kx88
noncomputable def f_X7_triesAll_b100 (s0 : Int32) (σ : Hp) : Option (Int32 × Hp) := some (s0, σ)
set_option maxRecDepth 100000 in
set_option maxHeartbeats 4000000 in
theorem t_X7_triesAll_b100 {l : Launch} {γ : Gm} {ad : Nat → Nat} {K : Option Value → Hp → Prop} (hc : Cx l γ 7 8 ad shM RX7 cX7_triesAll (some .int) K) {s0 : Int32} {σ : Hp} (h : wpO (f_X7_triesAll_b100 s0 σ) (KI K)) : WW l γ 7 8 ad shM 100 [] [.int s0] σ := by
  unfold f_X7_triesAll_b100 at h
  have h := wp_v h
  exact r_iret hc h dX7_triesAll_100
noncomputable def f_X7_triesAll (x0 : Nat) (x1 : Int32) (x2 : Int32) (x3 : Int32) (x4 : Int32) (x5 : Int32) (σ : Hp) : Option (Int32 × Hp) := bO (f_X7_areDrawers x1 x2 σ) fun r1 σ2 => if r1 = 0 then (f_X7_triesAll_b17  σ2) else (bO (f_X7_in x3 1 3 σ2) fun r3 σ4 => if r3 = 0 then (f_X7_triesAll_b17  σ4) else (gO (chk shM x0 7) fun _ => bO (f_X7_isOneEmpty x0 x1 x2 σ4) fun r5 σ6 => if r5 = 0 then (bO (wh (f_X7_triesAll_L37 x0 x1 x2 x3 x4 x5) (0, 0) σ6) fun y8 σ9 => (Sum.elim (fun y8' => (some (y8', σ9))) (fun y10 => (if x4 = 0 then (f_X7_triesAll_b100 y10 σ9) else (f_X7_triesAll_b100 (-4) σ9))) y8)) else (some ((-2), σ6))))
set_option maxRecDepth 100000 in
set_option maxHeartbeats 4000000 in
theorem t_X7_triesAll {l : Launch} {γ : Gm} {ad : Nat → Nat} {K : Option Value → Hp → Prop} (hc : Cx l γ 7 8 ad shM RX7 cX7_triesAll (some .int) K) {x0 : Nat} {x1 : Int32} {x2 : Int32} {x3 : Int32} {x4 : Int32} {x5 : Int32} {σ : Hp} (h : wpO (f_X7_triesAll x0 x1 x2 x3 x4 x5 σ) (KI K)) : WW l γ 7 8 ad shM 0 [(0, .ref (ad x0)), (1, .int x1), (2, .int x2), (3, .int x3), (4, .int x4), (5, .int x5)] [] σ := by
  unfold f_X7_triesAll at h
  refine r_iload_n hc 1 rfl rfl dX7_triesAll_0 ?_
  refine r_iload_n hc 2 rfl rfl dX7_triesAll_1 ?_
  obtain ⟨r1, σ2, er1, h⟩ := wp_b h
  refine r_callS hc ms_X7_areDrawers ml_X7_243 (c_X7_areDrawers er1) rfl rfl (by decide) rfl (Nat.le_of_ble_eq_true rfl) dX7_triesAll_2 ?_
  refine r_if_eq hc (tgt := 17) dX7_triesAll_5 (by decide) (fun c => ?_) (fun c => ?_)
  · have h := wp_t c h
    refine r_sub [] (lv' := []) rfl ?_
    exact t_X7_triesAll_b17 hc h
  · have h := wp_f c h
    refine r_iload_n hc 3 rfl rfl dX7_triesAll_8 ?_
    refine r_iconst hc (v := 1) (by decide) dX7_triesAll_9 ?_
    refine r_iconst hc (v := 3) (by decide) dX7_triesAll_10 ?_
    obtain ⟨r3, σ4, er3, h⟩ := wp_b h
    refine r_callS hc ms_X7_in ml_X7_81 (c_X7_in er3) rfl rfl (by decide) rfl (Nat.le_of_ble_eq_true rfl) dX7_triesAll_11 ?_
    refine r_if_ne hc (tgt := 19) dX7_triesAll_14 (by decide) (fun c => ?_) (fun c => ?_)
    · have h := wp_f c h
      refine r_aload_n hc 0 rfl rfl dX7_triesAll_19 ?_
      refine r_iload_n hc 1 rfl rfl dX7_triesAll_20 ?_
      refine r_iload_n hc 2 rfl rfl dX7_triesAll_21 ?_
      obtain ⟨_, ek7, h⟩ := wp_g h
      obtain ⟨r5, σ6, er5, h⟩ := wp_b h
      refine r_callV hc (k0 := x0) mv_X7_isOneEmpty ml_X7_246 (c_X7_isOneEmpty er5) (chk_of ek7) cls_7.1 rfl rfl rfl (by decide) rfl (Nat.le_of_ble_eq_true rfl) dX7_triesAll_22 ?_
      refine r_if_eq hc (tgt := 31) dX7_triesAll_25 (by decide) (fun c => ?_) (fun c => ?_)
      · have h := wp_t c h
        refine r_iconst hc (v := 0) (by decide) dX7_triesAll_31 ?_
        refine r_istoreE hc (i := 6) (lv' := [(6, .int 0), (0, .ref (ad x0)), (1, .int x1), (2, .int x2), (3, .int x3), (4, .int x4), (5, .int x5)]) rfl (by decide) rfl dX7_triesAll_32 ?_
        refine r_iconst hc (v := 0) (by decide) dX7_triesAll_34 ?_
        refine r_istoreE hc (i := 7) (lv' := [(7, .int 0), (6, .int 0), (0, .ref (ad x0)), (1, .int x1), (2, .int x2), (3, .int x3), (4, .int x4), (5, .int x5)]) rfl (by decide) rfl dX7_triesAll_35 ?_
        refine r_sub [2, 3, 4, 5, 6, 7, 1, 0] (lv' := [(0, .ref (ad x0)), (1, .int x1), (2, .int x2), (3, .int x3), (4, .int x4), (5, .int x5), (6, .int 0), (7, .int 0)]) rfl ?_
        refine t_X7_triesAll_L37 hc (wp_bb h) ?_ ?_
        · intro y8' σ9 h
          have h := wp_sl h
          refine r_iload hc 0 rfl dX7_triesAll_73 ?_
          have h := wp_v h
          exact r_iret hc h dX7_triesAll_75
        · intro y10 σ9 h
          have h := wp_sr h
          refine r_iload hc 0 rfl dX7_triesAll_88 ?_
          refine r_if_eq hc (tgt := 98) dX7_triesAll_90 (by decide) (fun c => ?_) (fun c => ?_)
          · have h := wp_t c h
            refine r_iload hc 1 rfl dX7_triesAll_98 ?_
            refine r_sub [] (lv' := []) rfl ?_
            exact t_X7_triesAll_b100 hc h
          · have h := wp_f c h
            refine r_bipush hc (v := (-4)) (by decide) dX7_triesAll_93 ?_
            refine r_goto hc (tgt := 100) dX7_triesAll_95 (by decide) ?_
            refine r_sub [] (lv' := []) rfl ?_
            exact t_X7_triesAll_b100 hc h
      · have h := wp_f c h
        refine r_bipush hc (v := (-2)) (by decide) dX7_triesAll_28 ?_
        have h := wp_v h
        exact r_iret hc h dX7_triesAll_30
    · have h := wp_t c h
      refine r_sub [] (lv' := []) rfl ?_
      exact t_X7_triesAll_b17 hc h
theorem c_X7_triesAll {l : Launch} {x0 : Nat} {x1 : Int32} {x2 : Int32} {x3 : Int32} {x4 : Int32} {x5 : Int32} {σ σ' : Hp} {r : Int32} (h : f_X7_triesAll x0 x1 x2 x3 x4 x5 σ = some (r, σ')) : Mt l yX7_triesAll cX7_triesAll 8 (some .int) 7 shM (fun ad => [.ref (ad x0), .int x1, .int x2, .int x3, .int x4, .int x5]) σ (fun ad => some (.int r)) σ' := mt_i (own := RX7) (by decide) rfl (fun _ => Nat.le_of_ble_eq_true rfl) (fun γ ad K hc hk => t_X7_triesAll hc ⟨_, _, h, hk⟩)

-- NetMapsModel.duality(IIIZ)I
theorem dX7_duality_0 : decode cX7_duality 0 = .ok (.aload_n 0, 1) := by decide +kernel
theorem dX7_duality_1 : decode cX7_duality 1 = .ok (.iload_n 1, 1) := by decide +kernel
theorem dX7_duality_2 : decode cX7_duality 2 = .ok (.iload_n 2, 1) := by decide +kernel
theorem dX7_duality_3 : decode cX7_duality 3 = .ok (.iload_n 3, 1) := by decide +kernel
theorem dX7_duality_4 : decode cX7_duality 4 = .ok (.iload 4, 2) := by decide +kernel
theorem dX7_duality_6 : decode cX7_duality 6 = .ok (.iconst 0, 1) := by decide +kernel
theorem dX7_duality_7 : decode cX7_duality 7 = .ok (.invokevirtual 336, 3) := by decide +kernel
theorem dX7_duality_10 : decode cX7_duality 10 = .ok (.ireturn, 1) := by decide +kernel
noncomputable def f_X7_duality (x0 : Nat) (x1 : Int32) (x2 : Int32) (x3 : Int32) (x4 : Int32) (σ : Hp) : Option (Int32 × Hp) := gO (chk shM x0 7) fun _ => bO (f_X7_triesAll x0 x1 x2 x3 x4 0 σ) fun r1 σ2 => some (r1, σ2)
set_option maxRecDepth 100000 in
set_option maxHeartbeats 4000000 in
theorem t_X7_duality {l : Launch} {γ : Gm} {ad : Nat → Nat} {K : Option Value → Hp → Prop} (hc : Cx l γ 8 5 ad shM RX7 cX7_duality (some .int) K) {x0 : Nat} {x1 : Int32} {x2 : Int32} {x3 : Int32} {x4 : Int32} {σ : Hp} (h : wpO (f_X7_duality x0 x1 x2 x3 x4 σ) (KI K)) : WW l γ 8 5 ad shM 0 [(0, .ref (ad x0)), (1, .int x1), (2, .int x2), (3, .int x3), (4, .int x4)] [] σ := by
  unfold f_X7_duality at h
  refine r_aload_n hc 0 rfl rfl dX7_duality_0 ?_
  refine r_iload_n hc 1 rfl rfl dX7_duality_1 ?_
  refine r_iload_n hc 2 rfl rfl dX7_duality_2 ?_
  refine r_iload_n hc 3 rfl rfl dX7_duality_3 ?_
  refine r_iload hc 4 rfl dX7_duality_4 ?_
  refine r_iconst hc (v := 0) (by decide) dX7_duality_6 ?_
  obtain ⟨_, ek3, h⟩ := wp_g h
  obtain ⟨r1, σ2, er1, h⟩ := wp_b h
  refine r_callV hc (k0 := x0) mv_X7_triesAll ml_X7_336 (c_X7_triesAll er1) (chk_of ek3) cls_7.1 rfl rfl rfl (by decide) rfl (Nat.le_of_ble_eq_true rfl) dX7_duality_7 ?_
  have h := wp_v h
  exact r_iret hc h dX7_duality_10
theorem c_X7_duality {l : Launch} {x0 : Nat} {x1 : Int32} {x2 : Int32} {x3 : Int32} {x4 : Int32} {σ σ' : Hp} {r : Int32} (h : f_X7_duality x0 x1 x2 x3 x4 σ = some (r, σ')) : Mt l yX7_duality cX7_duality 5 (some .int) 8 shM (fun ad => [.ref (ad x0), .int x1, .int x2, .int x3, .int x4]) σ (fun ad => some (.int r)) σ' := mt_i (own := RX7) (by decide) rfl (fun _ => Nat.le_of_ble_eq_true rfl) (fun γ ad K hc hk => t_X7_duality hc ⟨_, _, h, hk⟩)

-- NetMapsModel.between(IIIZ)I
theorem dX7_between_0 : decode cX7_between 0 = .ok (.aload_n 0, 1) := by decide +kernel
theorem dX7_between_1 : decode cX7_between 1 = .ok (.iload_n 1, 1) := by decide +kernel
theorem dX7_between_2 : decode cX7_between 2 = .ok (.iload_n 2, 1) := by decide +kernel
theorem dX7_between_3 : decode cX7_between 3 = .ok (.iload_n 3, 1) := by decide +kernel
theorem dX7_between_4 : decode cX7_between 4 = .ok (.iload 4, 2) := by decide +kernel
theorem dX7_between_6 : decode cX7_between 6 = .ok (.iconst 1, 1) := by decide +kernel
theorem dX7_between_7 : decode cX7_between 7 = .ok (.invokevirtual 336, 3) := by decide +kernel
theorem dX7_between_10 : decode cX7_between 10 = .ok (.ireturn, 1) := by decide +kernel
noncomputable def f_X7_between (x0 : Nat) (x1 : Int32) (x2 : Int32) (x3 : Int32) (x4 : Int32) (σ : Hp) : Option (Int32 × Hp) := gO (chk shM x0 7) fun _ => bO (f_X7_triesAll x0 x1 x2 x3 x4 1 σ) fun r1 σ2 => some (r1, σ2)
set_option maxRecDepth 100000 in
set_option maxHeartbeats 4000000 in
theorem t_X7_between {l : Launch} {γ : Gm} {ad : Nat → Nat} {K : Option Value → Hp → Prop} (hc : Cx l γ 8 5 ad shM RX7 cX7_between (some .int) K) {x0 : Nat} {x1 : Int32} {x2 : Int32} {x3 : Int32} {x4 : Int32} {σ : Hp} (h : wpO (f_X7_between x0 x1 x2 x3 x4 σ) (KI K)) : WW l γ 8 5 ad shM 0 [(0, .ref (ad x0)), (1, .int x1), (2, .int x2), (3, .int x3), (4, .int x4)] [] σ := by
  unfold f_X7_between at h
  refine r_aload_n hc 0 rfl rfl dX7_between_0 ?_
  refine r_iload_n hc 1 rfl rfl dX7_between_1 ?_
  refine r_iload_n hc 2 rfl rfl dX7_between_2 ?_
  refine r_iload_n hc 3 rfl rfl dX7_between_3 ?_
  refine r_iload hc 4 rfl dX7_between_4 ?_
  refine r_iconst hc (v := 1) (by decide) dX7_between_6 ?_
  obtain ⟨_, ek3, h⟩ := wp_g h
  obtain ⟨r1, σ2, er1, h⟩ := wp_b h
  refine r_callV hc (k0 := x0) mv_X7_triesAll ml_X7_336 (c_X7_triesAll er1) (chk_of ek3) cls_7.1 rfl rfl rfl (by decide) rfl (Nat.le_of_ble_eq_true rfl) dX7_between_7 ?_
  have h := wp_v h
  exact r_iret hc h dX7_between_10
theorem c_X7_between {l : Launch} {x0 : Nat} {x1 : Int32} {x2 : Int32} {x3 : Int32} {x4 : Int32} {σ σ' : Hp} {r : Int32} (h : f_X7_between x0 x1 x2 x3 x4 σ = some (r, σ')) : Mt l yX7_between cX7_between 5 (some .int) 8 shM (fun ad => [.ref (ad x0), .int x1, .int x2, .int x3, .int x4]) σ (fun ad => some (.int r)) σ' := mt_i (own := RX7) (by decide) rfl (fun _ => Nat.le_of_ble_eq_true rfl) (fun γ ad K hc hk => t_X7_between hc ⟨_, _, h, hk⟩)

-- NetMapsModel.unlike(IIIZ)I
theorem dX7_unlike_0 : decode cX7_unlike 0 = .ok (.aload_n 0, 1) := by decide +kernel
theorem dX7_unlike_1 : decode cX7_unlike 1 = .ok (.iload_n 1, 1) := by decide +kernel
theorem dX7_unlike_2 : decode cX7_unlike 2 = .ok (.iload_n 2, 1) := by decide +kernel
theorem dX7_unlike_3 : decode cX7_unlike 3 = .ok (.iload_n 3, 1) := by decide +kernel
theorem dX7_unlike_4 : decode cX7_unlike 4 = .ok (.iload 4, 2) := by decide +kernel
theorem dX7_unlike_6 : decode cX7_unlike 6 = .ok (.iconst 2, 1) := by decide +kernel
theorem dX7_unlike_7 : decode cX7_unlike 7 = .ok (.invokevirtual 336, 3) := by decide +kernel
theorem dX7_unlike_10 : decode cX7_unlike 10 = .ok (.ireturn, 1) := by decide +kernel
noncomputable def f_X7_unlike (x0 : Nat) (x1 : Int32) (x2 : Int32) (x3 : Int32) (x4 : Int32) (σ : Hp) : Option (Int32 × Hp) := gO (chk shM x0 7) fun _ => bO (f_X7_triesAll x0 x1 x2 x3 x4 2 σ) fun r1 σ2 => some (r1, σ2)
set_option maxRecDepth 100000 in
set_option maxHeartbeats 4000000 in
theorem t_X7_unlike {l : Launch} {γ : Gm} {ad : Nat → Nat} {K : Option Value → Hp → Prop} (hc : Cx l γ 8 5 ad shM RX7 cX7_unlike (some .int) K) {x0 : Nat} {x1 : Int32} {x2 : Int32} {x3 : Int32} {x4 : Int32} {σ : Hp} (h : wpO (f_X7_unlike x0 x1 x2 x3 x4 σ) (KI K)) : WW l γ 8 5 ad shM 0 [(0, .ref (ad x0)), (1, .int x1), (2, .int x2), (3, .int x3), (4, .int x4)] [] σ := by
  unfold f_X7_unlike at h
  refine r_aload_n hc 0 rfl rfl dX7_unlike_0 ?_
  refine r_iload_n hc 1 rfl rfl dX7_unlike_1 ?_
  refine r_iload_n hc 2 rfl rfl dX7_unlike_2 ?_
  refine r_iload_n hc 3 rfl rfl dX7_unlike_3 ?_
  refine r_iload hc 4 rfl dX7_unlike_4 ?_
  refine r_iconst hc (v := 2) (by decide) dX7_unlike_6 ?_
  obtain ⟨_, ek3, h⟩ := wp_g h
  obtain ⟨r1, σ2, er1, h⟩ := wp_b h
  refine r_callV hc (k0 := x0) mv_X7_triesAll ml_X7_336 (c_X7_triesAll er1) (chk_of ek3) cls_7.1 rfl rfl rfl (by decide) rfl (Nat.le_of_ble_eq_true rfl) dX7_unlike_7 ?_
  have h := wp_v h
  exact r_iret hc h dX7_unlike_10
theorem c_X7_unlike {l : Launch} {x0 : Nat} {x1 : Int32} {x2 : Int32} {x3 : Int32} {x4 : Int32} {σ σ' : Hp} {r : Int32} (h : f_X7_unlike x0 x1 x2 x3 x4 σ = some (r, σ')) : Mt l yX7_unlike cX7_unlike 5 (some .int) 8 shM (fun ad => [.ref (ad x0), .int x1, .int x2, .int x3, .int x4]) σ (fun ad => some (.int r)) σ' := mt_i (own := RX7) (by decide) rfl (fun _ => Nat.le_of_ble_eq_true rfl) (fun γ ad K hc hk => t_X7_unlike hc ⟨_, _, h, hk⟩)
