-- NetMaps.change(II)I
theorem dX6_change_0 : decode cX6_change 0 = .ok (.iload_n 1, 1) := by decide +kernel
theorem dX6_change_1 : decode cX6_change 1 = .ok (.invokestatic 76, 3) := by decide +kernel
theorem dX6_change_4 : decode cX6_change 4 = .ok (.ifCond .ne 13, 3) := by decide +kernel
theorem dX6_change_7 : decode cX6_change 7 = .ok (.iload_n 2, 1) := by decide +kernel
theorem dX6_change_8 : decode cX6_change 8 = .ok (.ifCond .lt 9, 3) := by decide +kernel
theorem dX6_change_11 : decode cX6_change 11 = .ok (.iload_n 2, 1) := by decide +kernel
theorem dX6_change_12 : decode cX6_change 12 = .ok (.bipush 6, 2) := by decide +kernel
theorem dX6_change_14 : decode cX6_change 14 = .ok (.if_icmp .le 5, 3) := by decide +kernel
theorem dX6_change_17 : decode cX6_change 17 = .ok (.iconst (-1), 1) := by decide +kernel
theorem dX6_change_18 : decode cX6_change 18 = .ok (.ireturn, 1) := by decide +kernel
theorem dX6_change_19 : decode cX6_change 19 = .ok (.aload_n 0, 1) := by decide +kernel
theorem dX6_change_20 : decode cX6_change 20 = .ok (.iload_n 1, 1) := by decide +kernel
theorem dX6_change_21 : decode cX6_change 21 = .ok (.invokevirtual 91, 3) := by decide +kernel
theorem dX6_change_24 : decode cX6_change 24 = .ok (.astore_n 3, 1) := by decide +kernel
theorem dX6_change_25 : decode cX6_change 25 = .ok (.aload_n 3, 1) := by decide +kernel
theorem dX6_change_26 : decode cX6_change 26 = .ok (.invokevirtual 109, 3) := by decide +kernel
theorem dX6_change_29 : decode cX6_change 29 = .ok (.ifCond .eq 6, 3) := by decide +kernel
theorem dX6_change_32 : decode cX6_change 32 = .ok (.bipush (-2), 2) := by decide +kernel
theorem dX6_change_34 : decode cX6_change 34 = .ok (.ireturn, 1) := by decide +kernel
theorem dX6_change_35 : decode cX6_change 35 = .ok (.iload_n 2, 1) := by decide +kernel
theorem dX6_change_36 : decode cX6_change 36 = .ok (.iconst 5, 1) := by decide +kernel
theorem dX6_change_37 : decode cX6_change 37 = .ok (.if_icmp .ne 19, 3) := by decide +kernel
theorem dX6_change_40 : decode cX6_change 40 = .ok (.aload_n 0, 1) := by decide +kernel
theorem dX6_change_41 : decode cX6_change 41 = .ok (.aload_n 3, 1) := by decide +kernel
theorem dX6_change_42 : decode cX6_change 42 = .ok (.aload_n 0, 1) := by decide +kernel
theorem dX6_change_43 : decode cX6_change 43 = .ok (.aload_n 3, 1) := by decide +kernel
theorem dX6_change_44 : decode cX6_change 44 = .ok (.invokevirtual 191, 3) := by decide +kernel
theorem dX6_change_47 : decode cX6_change 47 = .ok (.invokevirtual 195, 3) := by decide +kernel
theorem dX6_change_50 : decode cX6_change 50 = .ok (.aload_n 0, 1) := by decide +kernel
theorem dX6_change_51 : decode cX6_change 51 = .ok (.iload_n 1, 1) := by decide +kernel
theorem dX6_change_52 : decode cX6_change 52 = .ok (.invokevirtual 170, 3) := by decide +kernel
theorem dX6_change_55 : decode cX6_change 55 = .ok (.ireturn, 1) := by decide +kernel
theorem dX6_change_56 : decode cX6_change 56 = .ok (.aload_n 0, 1) := by decide +kernel
theorem dX6_change_57 : decode cX6_change 57 = .ok (.getfield 34, 3) := by decide +kernel
theorem dX6_change_60 : decode cX6_change 60 = .ok (.aload_n 3, 1) := by decide +kernel
theorem dX6_change_61 : decode cX6_change 61 = .ok (.getfield 126, 3) := by decide +kernel
theorem dX6_change_64 : decode cX6_change 64 = .ok (.invokevirtual 106, 3) := by decide +kernel
theorem dX6_change_67 : decode cX6_change 67 = .ok (.iconst 0, 1) := by decide +kernel
theorem dX6_change_68 : decode cX6_change 68 = .ok (.istore 4, 2) := by decide +kernel
theorem dX6_change_70 : decode cX6_change 70 = .ok (.iload 4, 2) := by decide +kernel
theorem dX6_change_72 : decode cX6_change 72 = .ok (.aload_n 3, 1) := by decide +kernel
theorem dX6_change_73 : decode cX6_change 73 = .ok (.getfield 126, 3) := by decide +kernel
theorem dX6_change_76 : decode cX6_change 76 = .ok (.if_icmp .ge 50, 3) := by decide +kernel
theorem dX6_change_79 : decode cX6_change 79 = .ok (.iconst 0, 1) := by decide +kernel
theorem dX6_change_80 : decode cX6_change 80 = .ok (.istore 5, 2) := by decide +kernel
theorem dX6_change_82 : decode cX6_change 82 = .ok (.iload 5, 2) := by decide +kernel
theorem dX6_change_84 : decode cX6_change 84 = .ok (.aload_n 3, 1) := by decide +kernel
theorem dX6_change_85 : decode cX6_change 85 = .ok (.getfield 126, 3) := by decide +kernel
theorem dX6_change_88 : decode cX6_change 88 = .ok (.if_icmp .ge 32, 3) := by decide +kernel
theorem dX6_change_91 : decode cX6_change 91 = .ok (.aload_n 3, 1) := by decide +kernel
theorem dX6_change_92 : decode cX6_change 92 = .ok (.iload_n 2, 1) := by decide +kernel
theorem dX6_change_93 : decode cX6_change 93 = .ok (.iload 4, 2) := by decide +kernel
theorem dX6_change_95 : decode cX6_change 95 = .ok (.iload 5, 2) := by decide +kernel
theorem dX6_change_97 : decode cX6_change 97 = .ok (.invokestatic 199, 3) := by decide +kernel
theorem dX6_change_100 : decode cX6_change 100 = .ok (.ifCond .eq 14, 3) := by decide +kernel
theorem dX6_change_103 : decode cX6_change 103 = .ok (.aload_n 0, 1) := by decide +kernel
theorem dX6_change_104 : decode cX6_change 104 = .ok (.getfield 34, 3) := by decide +kernel
theorem dX6_change_107 : decode cX6_change 107 = .ok (.iload 4, 2) := by decide +kernel
theorem dX6_change_109 : decode cX6_change 109 = .ok (.iload 5, 2) := by decide +kernel
theorem dX6_change_111 : decode cX6_change 111 = .ok (.invokevirtual 119, 3) := by decide +kernel
theorem dX6_change_114 : decode cX6_change 114 = .ok (.iinc 5 1, 3) := by decide +kernel
theorem dX6_change_117 : decode cX6_change 117 = .ok (.goto (-35), 3) := by decide +kernel
theorem dX6_change_120 : decode cX6_change 120 = .ok (.iinc 4 1, 3) := by decide +kernel
theorem dX6_change_123 : decode cX6_change 123 = .ok (.goto (-53), 3) := by decide +kernel
theorem dX6_change_126 : decode cX6_change 126 = .ok (.aload_n 0, 1) := by decide +kernel
theorem dX6_change_127 : decode cX6_change 127 = .ok (.iload_n 1, 1) := by decide +kernel
theorem dX6_change_128 : decode cX6_change 128 = .ok (.invokevirtual 170, 3) := by decide +kernel
theorem dX6_change_131 : decode cX6_change 131 = .ok (.ireturn, 1) := by decide +kernel
noncomputable def f_X6_change_b17  (σ : Hp) : Option (Int32 × Hp) := some ((-1), σ)
set_option maxRecDepth 100000 in
set_option maxHeartbeats 4000000 in
theorem t_X6_change_b17 {l : Launch} {γ : Gm} {ad : Nat → Nat} {K : Option Value → Hp → Prop} (hc : Cx l γ 37 6 ad shC RX6 cX6_change (some .int) K)  {σ : Hp} (h : wpO (f_X6_change_b17  σ) (KI K)) : WW l γ 37 6 ad shC 17 [] [] σ := by
  unfold f_X6_change_b17 at h
  refine r_iconst hc (v := (-1)) (by decide) dX6_change_17 ?_
  have h := wp_v h
  exact r_iret hc h dX6_change_18
noncomputable def f_X6_change_b114 (x0 : Nat) (x1 : Int32) (x2 : Int32) (x3 : Nat) (x4 : Int32) (x5 : Int32) (σ : Hp) : Option (((Int32) ⊕ (Unit)) × Hp) := some (Sum.inl (x5 + 1), σ)
set_option maxRecDepth 100000 in
set_option maxHeartbeats 4000000 in
theorem t_X6_change_b114 {l : Launch} {γ : Gm} {ad : Nat → Nat} {K : Option Value → Hp → Prop} (hc : Cx l γ 37 6 ad shC RX6 cX6_change (some .int) K) {x0 : Nat} {x1 : Int32} {x2 : Int32} {x3 : Nat} {x4 : Int32} {x5 : Int32}  {σ : Hp} {KL : ((Int32) ⊕ (Unit)) → Hp → Prop} (h : wpO (f_X6_change_b114 x0 x1 x2 x3 x4 x5 σ) KL) (kn : ∀ (v : (Int32)) (σ : Hp), KL (Sum.inl v) σ → WW l γ 37 6 ad shC 82 [(0, .ref (ad x0)), (1, .int x1), (2, .int x2), (3, .ref (ad x3)), (4, .int x4), (5, .int v)] [] σ) (kx120 : ∀ (v : Unit) (σ : Hp), KL (Sum.inr v) σ → WW l γ 37 6 ad shC 120 [(0, .ref (ad x0)), (1, .int x1), (2, .int x2), (3, .ref (ad x3)), (4, .int x4)] [] σ) : WW l γ 37 6 ad shC 114 [(0, .ref (ad x0)), (1, .int x1), (2, .int x2), (3, .ref (ad x3)), (4, .int x4), (5, .int x5)] [] σ := by
  unfold f_X6_change_b114 at h
  refine r_iincE hc (j := 5) (w := 1) (lv' := [(5, .int (x5 + 1)), (0, .ref (ad x0)), (1, .int x1), (2, .int x2), (3, .ref (ad x3)), (4, .int x4)]) rfl (by decide) rfl (by decide) rfl dX6_change_114 ?_
  refine r_goto hc (tgt := 82) dX6_change_117 (by decide) ?_
  refine r_sub [1, 2, 3, 4, 5, 0] (lv' := [(0, .ref (ad x0)), (1, .int x1), (2, .int x2), (3, .ref (ad x3)), (4, .int x4), (5, .int (x5 + 1))]) rfl ?_
  have h := wp_v h
  exact kn (x5 + 1) _ h
noncomputable def f_X6_change_L82 (x0 : Nat) (x1 : Int32) (x2 : Int32) (x3 : Nat) (x4 : Int32) (v : (Int32)) (σ : Hp) : Option (((Int32) ⊕ (Unit)) × Hp) := gO (getI shC 1 x3 0 σ) fun v1 => if v1 ≤ v then (some (Sum.inr (), σ)) else (bO (f_X6_changedLine x3 x2 x4 v σ) fun r2 σ3 => if r2 = 0 then (f_X6_change_b114 x0 x1 x2 x3 x4 v σ3) else (gO (getR shC 6 x0 6 σ3) fun v4 => gO (chk shC v4 1) fun _ => bO (f_X1_join v4 x4 v σ3) fun _ σ6 => f_X6_change_b114 x0 x1 x2 x3 x4 v σ6))
set_option maxRecDepth 100000 in
set_option maxHeartbeats 4000000 in
theorem t_X6_change_L82 {l : Launch} {γ : Gm} {ad : Nat → Nat} {K : Option Value → Hp → Prop}  (hc : Cx l γ 37 6 ad shC RX6 cX6_change (some .int) K) {x0 : Nat} {x1 : Int32} {x2 : Int32} {x3 : Nat} {x4 : Int32} {v : (Int32)} {σ : Hp} {KX : (Unit) → Hp → Prop} (h : wpO (wh (f_X6_change_L82 x0 x1 x2 x3 x4) v σ) KX) (kx120 : ∀ (v : Unit) (σ : Hp), KX v σ → WW l γ 37 6 ad shC 120 [(0, .ref (ad x0)), (1, .int x1), (2, .int x2), (3, .ref (ad x3)), (4, .int x4)] [] σ) : WW l γ 37 6 ad shC 82 [(0, .ref (ad x0)), (1, .int x1), (2, .int x2), (3, .ref (ad x3)), (4, .int x4), (5, .int v)] [] σ := by
  refine wh_W (P := fun v σ => WW l γ 37 6 ad shC 82 [(0, .ref (ad x0)), (1, .int x1), (2, .int x2), (3, .ref (ad x3)), (4, .int x4), (5, .int v)] [] σ) (fun v σ h => ?_) h
  have kn : ∀ (v : (Int32)) (σ : Hp), WW l γ 37 6 ad shC 82 [(0, .ref (ad x0)), (1, .int x1), (2, .int x2), (3, .ref (ad x3)), (4, .int x4), (5, .int v)] [] σ → WW l γ 37 6 ad shC 82 [(0, .ref (ad x0)), (1, .int x1), (2, .int x2), (3, .ref (ad x3)), (4, .int x4), (5, .int v)] [] σ := fun _ _ h => h
  · unfold f_X6_change_L82 at h
    refine r_iload hc 5 rfl dX6_change_82 ?_
    refine r_aload_n hc 3 rfl rfl dX6_change_84 ?_
    obtain ⟨v1, ev1, h⟩ := wp_g h
    refine r_getI hc ev1 fl_X6_126 rfl dX6_change_85 ?_
    refine r_icmp_ge hc (tgt := 120) dX6_change_88 (by decide) (fun c => ?_) (fun c => ?_)
    · have h := wp_t c h
      refine r_sub [0, 1, 2, 3, 4] (lv' := [(0, .ref (ad x0)), (1, .int x1), (2, .int x2), (3, .ref (ad x3)), (4, .int x4)]) rfl ?_
      have h := wp_v h
      exact kx120 () _ h
    · have h := wp_f c h
      refine r_aload_n hc 3 rfl rfl dX6_change_91 ?_
      refine r_iload_n hc 2 rfl rfl dX6_change_92 ?_
      refine r_iload hc 4 rfl dX6_change_93 ?_
      refine r_iload hc 5 rfl dX6_change_95 ?_
      obtain ⟨r2, σ3, er2, h⟩ := wp_b h
      refine r_callS hc ms_X6_changedLine ml_X6_199 (c_X6_changedLine er2) rfl rfl (by decide) rfl (Nat.le_of_ble_eq_true rfl) dX6_change_97 ?_
      refine r_if_eq hc (tgt := 114) dX6_change_100 (by decide) (fun c => ?_) (fun c => ?_)
      · have h := wp_t c h
        exact t_X6_change_b114 hc h kn kx120
      · have h := wp_f c h
        refine r_aload_n hc 0 rfl rfl dX6_change_103 ?_
        obtain ⟨v4, ev4, h⟩ := wp_g h
        refine r_getR hc ev4 fl_X6_34 rfl dX6_change_104 ?_
        refine r_iload hc 4 rfl dX6_change_107 ?_
        refine r_iload hc 5 rfl dX6_change_109 ?_
        obtain ⟨_, ek7, h⟩ := wp_g h
        obtain ⟨_, σ6, er5, h⟩ := wp_b h
        refine r_callV hc (k0 := v4) mv_X1_join ml_X6_119 (c_X1_join er5) (chk_of ek7) cls_1.1 rfl rfl rfl (by decide) rfl (Nat.le_of_ble_eq_true rfl) dX6_change_111 ?_
        exact t_X6_change_b114 hc h kn kx120
noncomputable def f_X6_change_L70 (x0 : Nat) (x1 : Int32) (x2 : Int32) (x3 : Nat) (v : (Int32)) (σ : Hp) : Option (((Int32) ⊕ (Unit)) × Hp) := gO (getI shC 1 x3 0 σ) fun v1 => if v1 ≤ v then (some (Sum.inr (), σ)) else (bO (wh (f_X6_change_L82 x0 x1 x2 x3 v) 0 σ) fun y2 σ3 => (some (Sum.inl (v + 1), σ3)))
set_option maxRecDepth 100000 in
set_option maxHeartbeats 4000000 in
theorem t_X6_change_L70 {l : Launch} {γ : Gm} {ad : Nat → Nat} {K : Option Value → Hp → Prop}  (hc : Cx l γ 37 6 ad shC RX6 cX6_change (some .int) K) {x0 : Nat} {x1 : Int32} {x2 : Int32} {x3 : Nat} {v : (Int32)} {σ : Hp} {KX : (Unit) → Hp → Prop} (h : wpO (wh (f_X6_change_L70 x0 x1 x2 x3) v σ) KX) (kx126 : ∀ (v : Unit) (σ : Hp), KX v σ → WW l γ 37 6 ad shC 126 [(0, .ref (ad x0)), (1, .int x1)] [] σ) : WW l γ 37 6 ad shC 70 [(0, .ref (ad x0)), (1, .int x1), (2, .int x2), (3, .ref (ad x3)), (4, .int v)] [] σ := by
  refine wh_W (P := fun v σ => WW l γ 37 6 ad shC 70 [(0, .ref (ad x0)), (1, .int x1), (2, .int x2), (3, .ref (ad x3)), (4, .int v)] [] σ) (fun v σ h => ?_) h
  have kn : ∀ (v : (Int32)) (σ : Hp), WW l γ 37 6 ad shC 70 [(0, .ref (ad x0)), (1, .int x1), (2, .int x2), (3, .ref (ad x3)), (4, .int v)] [] σ → WW l γ 37 6 ad shC 70 [(0, .ref (ad x0)), (1, .int x1), (2, .int x2), (3, .ref (ad x3)), (4, .int v)] [] σ := fun _ _ h => h
  · unfold f_X6_change_L70 at h
    refine r_iload hc 4 rfl dX6_change_70 ?_
    refine r_aload_n hc 3 rfl rfl dX6_change_72 ?_
    obtain ⟨v1, ev1, h⟩ := wp_g h
    refine r_getI hc ev1 fl_X6_126 rfl dX6_change_73 ?_
    refine r_icmp_ge hc (tgt := 126) dX6_change_76 (by decide) (fun c => ?_) (fun c => ?_)
    · have h := wp_t c h
      refine r_sub [0, 1] (lv' := [(0, .ref (ad x0)), (1, .int x1)]) rfl ?_
      have h := wp_v h
      exact kx126 () _ h
    · have h := wp_f c h
      refine r_iconst hc (v := 0) (by decide) dX6_change_79 ?_
      refine r_istoreE hc (i := 5) (lv' := [(5, .int 0), (0, .ref (ad x0)), (1, .int x1), (2, .int x2), (3, .ref (ad x3)), (4, .int v)]) rfl (by decide) rfl dX6_change_80 ?_
      refine r_sub [1, 2, 3, 4, 5, 0] (lv' := [(0, .ref (ad x0)), (1, .int x1), (2, .int x2), (3, .ref (ad x3)), (4, .int v), (5, .int 0)]) rfl ?_
      refine t_X6_change_L82 hc (wp_bb h) ?_
      · intro y2 σ3 h
        refine r_iincE hc (j := 4) (w := 1) (lv' := [(4, .int (v + 1)), (0, .ref (ad x0)), (1, .int x1), (2, .int x2), (3, .ref (ad x3))]) rfl (by decide) rfl (by decide) rfl dX6_change_120 ?_
        refine r_goto hc (tgt := 70) dX6_change_123 (by decide) ?_
        refine r_sub [1, 2, 3, 4, 0] (lv' := [(0, .ref (ad x0)), (1, .int x1), (2, .int x2), (3, .ref (ad x3)), (4, .int (v + 1))]) rfl ?_
        have h := wp_v h
        exact kn (v + 1) _ h
noncomputable def f_X6_change (x0 : Nat) (x1 : Int32) (x2 : Int32) (σ : Hp) : Option (Int32 × Hp) := bO (f_X6_noDrawer x1 σ) fun r1 σ2 => if r1 = 0 then (if x2 < 0 then (f_X6_change_b17  σ2) else (if x2 ≤ 6 then (gO (chk shC x0 6) fun _ => bO (f_X6_in x0 x1 σ2) fun r3 σ4 => gO (chk shC r3 1) fun _ => bO (f_X1_isEmpty r3 σ4) fun r6 σ7 => if r6 = 0 then (if x2 = 5 then (gO (chk shC x0 6) fun _ => bO (f_X6_leastCore x0 r3 σ7) fun r19 σ20 => gO (chk shC x0 6) fun _ => bO (f_X6_cut x0 r3 r19 σ20) fun _ σ23 => gO (chk shC x0 6) fun _ => bO (f_X6_settle x0 x1 σ23) fun r25 σ26 => some (r25, σ26)) else (gO (getR shC 6 x0 6 σ7) fun v9 => gO (getI shC 1 r3 0 σ7) fun v10 => gO (chk shC v9 1) fun _ => bO (f_X1_begin v9 v10 σ7) fun _ σ12 => bO (wh (f_X6_change_L70 x0 x1 x2 r3) 0 σ12) fun y14 σ15 => (gO (chk shC x0 6) fun _ => bO (f_X6_settle x0 x1 σ15) fun r16 σ17 => some (r16, σ17)))) else (some ((-2), σ7))) else (f_X6_change_b17  σ2))) else (f_X6_change_b17  σ2)
set_option maxRecDepth 100000 in
set_option maxHeartbeats 4000000 in
theorem t_X6_change {l : Launch} {γ : Gm} {ad : Nat → Nat} {K : Option Value → Hp → Prop} (hc : Cx l γ 37 6 ad shC RX6 cX6_change (some .int) K) {x0 : Nat} {x1 : Int32} {x2 : Int32} {σ : Hp} (h : wpO (f_X6_change x0 x1 x2 σ) (KI K)) : WW l γ 37 6 ad shC 0 [(0, .ref (ad x0)), (1, .int x1), (2, .int x2)] [] σ := by
  unfold f_X6_change at h
  refine r_iload_n hc 1 rfl rfl dX6_change_0 ?_
  obtain ⟨r1, σ2, er1, h⟩ := wp_b h
  refine r_callS hc ms_X6_noDrawer ml_X6_76 (c_X6_noDrawer er1) rfl rfl (by decide) rfl (Nat.le_of_ble_eq_true rfl) dX6_change_1 ?_
  refine r_if_ne hc (tgt := 17) dX6_change_4 (by decide) (fun c => ?_) (fun c => ?_)
  · have h := wp_f c h
    refine r_sub [] (lv' := []) rfl ?_
    exact t_X6_change_b17 hc h
  · have h := wp_t c h
    refine r_iload_n hc 2 rfl rfl dX6_change_7 ?_
    refine r_if_lt hc (tgt := 17) dX6_change_8 (by decide) (fun c => ?_) (fun c => ?_)
    · have h := wp_t c h
      refine r_sub [] (lv' := []) rfl ?_
      exact t_X6_change_b17 hc h
    · have h := wp_f c h
      refine r_iload_n hc 2 rfl rfl dX6_change_11 ?_
      refine r_bipush hc (v := 6) (by decide) dX6_change_12 ?_
      refine r_icmp_le hc (tgt := 19) dX6_change_14 (by decide) (fun c => ?_) (fun c => ?_)
      · have h := wp_t c h
        refine r_aload_n hc 0 rfl rfl dX6_change_19 ?_
        refine r_iload_n hc 1 rfl rfl dX6_change_20 ?_
        obtain ⟨_, ek5, h⟩ := wp_g h
        obtain ⟨r3, σ4, er3, h⟩ := wp_b h
        refine r_callV hc (k0 := x0) mv_X6_in ml_X6_91 (c_X6_in er3) (chk_of ek5) cls_6.1 rfl rfl rfl (by decide) rfl (Nat.le_of_ble_eq_true rfl) dX6_change_21 ?_
        refine r_astore_n hc (i := 3) (lv' := [(3, .ref (ad r3)), (0, .ref (ad x0)), (1, .int x1), (2, .int x2)]) rfl (by decide) rfl dX6_change_24 ?_
        refine r_aload_n hc 0 rfl rfl dX6_change_25 ?_
        obtain ⟨_, ek8, h⟩ := wp_g h
        obtain ⟨r6, σ7, er6, h⟩ := wp_b h
        refine r_callV hc (k0 := r3) mv_X1_isEmpty ml_X6_109 (c_X1_isEmpty er6) (chk_of ek8) cls_1.1 rfl rfl rfl (by decide) rfl (Nat.le_of_ble_eq_true rfl) dX6_change_26 ?_
        refine r_if_eq hc (tgt := 35) dX6_change_29 (by decide) (fun c => ?_) (fun c => ?_)
        · have h := wp_t c h
          refine r_iload_n hc 3 rfl rfl dX6_change_35 ?_
          refine r_iconst hc (v := 5) (by decide) dX6_change_36 ?_
          refine r_icmp_ne hc (tgt := 56) dX6_change_37 (by decide) (fun c => ?_) (fun c => ?_)
          · have h := wp_f c h
            refine r_aload_n hc 1 rfl rfl dX6_change_56 ?_
            obtain ⟨v9, ev9, h⟩ := wp_g h
            refine r_getR hc ev9 fl_X6_34 rfl dX6_change_57 ?_
            refine r_aload_n hc 0 rfl rfl dX6_change_60 ?_
            obtain ⟨v10, ev10, h⟩ := wp_g h
            refine r_getI hc ev10 fl_X6_126 rfl dX6_change_61 ?_
            obtain ⟨_, ek13, h⟩ := wp_g h
            obtain ⟨_, σ12, er11, h⟩ := wp_b h
            refine r_callV hc (k0 := v9) mv_X1_begin ml_X6_106 (c_X1_begin er11) (chk_of ek13) cls_1.1 rfl rfl rfl (by decide) rfl (Nat.le_of_ble_eq_true rfl) dX6_change_64 ?_
            refine r_iconst hc (v := 0) (by decide) dX6_change_67 ?_
            refine r_istoreE hc (i := 4) (lv' := [(4, .int 0), (3, .ref (ad r3)), (0, .ref (ad x0)), (1, .int x1), (2, .int x2)]) rfl (by decide) rfl dX6_change_68 ?_
            refine r_sub [2, 3, 4, 1, 0] (lv' := [(0, .ref (ad x0)), (1, .int x1), (2, .int x2), (3, .ref (ad r3)), (4, .int 0)]) rfl ?_
            refine t_X6_change_L70 hc (wp_bb h) ?_
            · intro y14 σ15 h
              refine r_aload_n hc 0 rfl rfl dX6_change_126 ?_
              refine r_iload_n hc 1 rfl rfl dX6_change_127 ?_
              obtain ⟨_, ek18, h⟩ := wp_g h
              obtain ⟨r16, σ17, er16, h⟩ := wp_b h
              refine r_callV hc (k0 := x0) mv_X6_settle ml_X6_170 (c_X6_settle er16) (chk_of ek18) cls_6.1 rfl rfl rfl (by decide) rfl (Nat.le_of_ble_eq_true rfl) dX6_change_128 ?_
              have h := wp_v h
              exact r_iret hc h dX6_change_131
          · have h := wp_t c h
            refine r_aload_n hc 1 rfl rfl dX6_change_40 ?_
            refine r_aload_n hc 0 rfl rfl dX6_change_41 ?_
            refine r_aload_n hc 1 rfl rfl dX6_change_42 ?_
            refine r_aload_n hc 0 rfl rfl dX6_change_43 ?_
            obtain ⟨_, ek21, h⟩ := wp_g h
            obtain ⟨r19, σ20, er19, h⟩ := wp_b h
            refine r_callV hc (k0 := x0) mv_X6_leastCore ml_X6_191 (c_X6_leastCore er19) (chk_of ek21) cls_6.1 rfl rfl rfl (by decide) rfl (Nat.le_of_ble_eq_true rfl) dX6_change_44 ?_
            obtain ⟨_, ek24, h⟩ := wp_g h
            obtain ⟨_, σ23, er22, h⟩ := wp_b h
            refine r_callV hc (k0 := x0) mv_X6_cut ml_X6_195 (c_X6_cut er22) (chk_of ek24) cls_6.1 rfl rfl rfl (by decide) rfl (Nat.le_of_ble_eq_true rfl) dX6_change_47 ?_
            refine r_aload_n hc 1 rfl rfl dX6_change_50 ?_
            refine r_iload_n hc 2 rfl rfl dX6_change_51 ?_
            obtain ⟨_, ek27, h⟩ := wp_g h
            obtain ⟨r25, σ26, er25, h⟩ := wp_b h
            refine r_callV hc (k0 := x0) mv_X6_settle ml_X6_170 (c_X6_settle er25) (chk_of ek27) cls_6.1 rfl rfl rfl (by decide) rfl (Nat.le_of_ble_eq_true rfl) dX6_change_52 ?_
            have h := wp_v h
            exact r_iret hc h dX6_change_55
        · have h := wp_f c h
          refine r_bipush hc (v := (-2)) (by decide) dX6_change_32 ?_
          have h := wp_v h
          exact r_iret hc h dX6_change_34
      · have h := wp_f c h
        refine r_sub [] (lv' := []) rfl ?_
        exact t_X6_change_b17 hc h
theorem c_X6_change {l : Launch} {x0 : Nat} {x1 : Int32} {x2 : Int32} {σ σ' : Hp} {r : Int32} (h : f_X6_change x0 x1 x2 σ = some (r, σ')) : Mt l yX6_change cX6_change 6 (some .int) 37 shC (fun ad => [.ref (ad x0), .int x1, .int x2]) σ (fun ad => some (.int r)) σ' := mt_i (own := RX6) (by decide) rfl (fun _ => Nat.le_of_ble_eq_true rfl) (fun γ ad K hc hk => t_X6_change hc ⟨_, _, h, hk⟩)

-- NetMaps.part(III)I
theorem dX6_part_0 : decode cX6_part 0 = .ok (.iload_n 1, 1) := by decide +kernel
theorem dX6_part_1 : decode cX6_part 1 = .ok (.invokestatic 76, 3) := by decide +kernel
theorem dX6_part_4 : decode cX6_part 4 = .ok (.ifCond .ne 10, 3) := by decide +kernel
theorem dX6_part_7 : decode cX6_part 7 = .ok (.iload_n 3, 1) := by decide +kernel
theorem dX6_part_8 : decode cX6_part 8 = .ok (.invokestatic 76, 3) := by decide +kernel
theorem dX6_part_11 : decode cX6_part 11 = .ok (.ifCond .eq 5, 3) := by decide +kernel
theorem dX6_part_14 : decode cX6_part 14 = .ok (.iconst (-1), 1) := by decide +kernel
theorem dX6_part_15 : decode cX6_part 15 = .ok (.ireturn, 1) := by decide +kernel
theorem dX6_part_16 : decode cX6_part 16 = .ok (.aload_n 0, 1) := by decide +kernel
theorem dX6_part_17 : decode cX6_part 17 = .ok (.iload_n 1, 1) := by decide +kernel
theorem dX6_part_18 : decode cX6_part 18 = .ok (.invokevirtual 91, 3) := by decide +kernel
theorem dX6_part_21 : decode cX6_part 21 = .ok (.astore 4, 2) := by decide +kernel
theorem dX6_part_23 : decode cX6_part 23 = .ok (.aload 4, 2) := by decide +kernel
theorem dX6_part_25 : decode cX6_part 25 = .ok (.invokevirtual 109, 3) := by decide +kernel
theorem dX6_part_28 : decode cX6_part 28 = .ok (.ifCond .eq 6, 3) := by decide +kernel
theorem dX6_part_31 : decode cX6_part 31 = .ok (.bipush (-2), 2) := by decide +kernel
theorem dX6_part_33 : decode cX6_part 33 = .ok (.ireturn, 1) := by decide +kernel
theorem dX6_part_34 : decode cX6_part 34 = .ok (.iload_n 2, 1) := by decide +kernel
theorem dX6_part_35 : decode cX6_part 35 = .ok (.ifCond .eq 15, 3) := by decide +kernel
theorem dX6_part_38 : decode cX6_part 38 = .ok (.iload_n 2, 1) := by decide +kernel
theorem dX6_part_39 : decode cX6_part 39 = .ok (.aload 4, 2) := by decide +kernel
theorem dX6_part_41 : decode cX6_part 41 = .ok (.invokevirtual 206, 3) := by decide +kernel
theorem dX6_part_44 : decode cX6_part 44 = .ok (.iconst (-1), 1) := by decide +kernel
theorem dX6_part_45 : decode cX6_part 45 = .ok (.ixor, 1) := by decide +kernel
theorem dX6_part_46 : decode cX6_part 46 = .ok (.iand, 1) := by decide +kernel
theorem dX6_part_47 : decode cX6_part 47 = .ok (.ifCond .eq 6, 3) := by decide +kernel
theorem dX6_part_50 : decode cX6_part 50 = .ok (.bipush (-3), 2) := by decide +kernel
theorem dX6_part_52 : decode cX6_part 52 = .ok (.ireturn, 1) := by decide +kernel
theorem dX6_part_53 : decode cX6_part 53 = .ok (.aload_n 0, 1) := by decide +kernel
theorem dX6_part_54 : decode cX6_part 54 = .ok (.aload 4, 2) := by decide +kernel
theorem dX6_part_56 : decode cX6_part 56 = .ok (.iload_n 2, 1) := by decide +kernel
theorem dX6_part_57 : decode cX6_part 57 = .ok (.invokevirtual 195, 3) := by decide +kernel
theorem dX6_part_60 : decode cX6_part 60 = .ok (.aload_n 0, 1) := by decide +kernel
theorem dX6_part_61 : decode cX6_part 61 = .ok (.iload_n 3, 1) := by decide +kernel
theorem dX6_part_62 : decode cX6_part 62 = .ok (.invokevirtual 170, 3) := by decide +kernel
theorem dX6_part_65 : decode cX6_part 65 = .ok (.ireturn, 1) := by decide +kernel
noncomputable def f_X6_part_b14  (σ : Hp) : Option (Int32 × Hp) := some ((-1), σ)
set_option maxRecDepth 100000 in
set_option maxHeartbeats 4000000 in
theorem t_X6_part_b14 {l : Launch} {γ : Gm} {ad : Nat → Nat} {K : Option Value → Hp → Prop} (hc : Cx l γ 4 5 ad shC RX6 cX6_part (some .int) K)  {σ : Hp} (h : wpO (f_X6_part_b14  σ) (KI K)) : WW l γ 4 5 ad shC 14 [] [] σ := by
  unfold f_X6_part_b14 at h
  refine r_iconst hc (v := (-1)) (by decide) dX6_part_14 ?_
  have h := wp_v h
  exact r_iret hc h dX6_part_15
noncomputable def f_X6_part_b50  (σ : Hp) : Option (Int32 × Hp) := some ((-3), σ)
set_option maxRecDepth 100000 in
set_option maxHeartbeats 4000000 in
theorem t_X6_part_b50 {l : Launch} {γ : Gm} {ad : Nat → Nat} {K : Option Value → Hp → Prop} (hc : Cx l γ 4 5 ad shC RX6 cX6_part (some .int) K)  {σ : Hp} (h : wpO (f_X6_part_b50  σ) (KI K)) : WW l γ 4 5 ad shC 50 [] [] σ := by
  unfold f_X6_part_b50 at h
  refine r_bipush hc (v := (-3)) (by decide) dX6_part_50 ?_
  have h := wp_v h
  exact r_iret hc h dX6_part_52
noncomputable def f_X6_part (x0 : Nat) (x1 : Int32) (x2 : Int32) (x3 : Int32) (σ : Hp) : Option (Int32 × Hp) := bO (f_X6_noDrawer x1 σ) fun r1 σ2 => if r1 = 0 then (bO (f_X6_noDrawer x3 σ2) fun r3 σ4 => if r3 = 0 then (gO (chk shC x0 6) fun _ => bO (f_X6_in x0 x1 σ4) fun r5 σ6 => gO (chk shC r5 1) fun _ => bO (f_X1_isEmpty r5 σ6) fun r8 σ9 => if r8 = 0 then (if x2 = 0 then (f_X6_part_b50  σ9) else (gO (chk shC r5 1) fun _ => bO (f_X1_all r5 σ9) fun r11 σ12 => if (x2 &&& (r11 ^^^ (-1))) = 0 then (gO (chk shC x0 6) fun _ => bO (f_X6_cut x0 r5 x2 σ12) fun _ σ15 => gO (chk shC x0 6) fun _ => bO (f_X6_settle x0 x3 σ15) fun r17 σ18 => some (r17, σ18)) else (f_X6_part_b50  σ12))) else (some ((-2), σ9))) else (f_X6_part_b14  σ4)) else (f_X6_part_b14  σ2)
set_option maxRecDepth 100000 in
set_option maxHeartbeats 4000000 in
theorem t_X6_part {l : Launch} {γ : Gm} {ad : Nat → Nat} {K : Option Value → Hp → Prop} (hc : Cx l γ 4 5 ad shC RX6 cX6_part (some .int) K) {x0 : Nat} {x1 : Int32} {x2 : Int32} {x3 : Int32} {σ : Hp} (h : wpO (f_X6_part x0 x1 x2 x3 σ) (KI K)) : WW l γ 4 5 ad shC 0 [(0, .ref (ad x0)), (1, .int x1), (2, .int x2), (3, .int x3)] [] σ := by
  unfold f_X6_part at h
  refine r_iload_n hc 1 rfl rfl dX6_part_0 ?_
  obtain ⟨r1, σ2, er1, h⟩ := wp_b h
  refine r_callS hc ms_X6_noDrawer ml_X6_76 (c_X6_noDrawer er1) rfl rfl (by decide) rfl (Nat.le_of_ble_eq_true rfl) dX6_part_1 ?_
  refine r_if_ne hc (tgt := 14) dX6_part_4 (by decide) (fun c => ?_) (fun c => ?_)
  · have h := wp_f c h
    refine r_sub [] (lv' := []) rfl ?_
    exact t_X6_part_b14 hc h
  · have h := wp_t c h
    refine r_iload_n hc 3 rfl rfl dX6_part_7 ?_
    obtain ⟨r3, σ4, er3, h⟩ := wp_b h
    refine r_callS hc ms_X6_noDrawer ml_X6_76 (c_X6_noDrawer er3) rfl rfl (by decide) rfl (Nat.le_of_ble_eq_true rfl) dX6_part_8 ?_
    refine r_if_eq hc (tgt := 16) dX6_part_11 (by decide) (fun c => ?_) (fun c => ?_)
    · have h := wp_t c h
      refine r_aload_n hc 0 rfl rfl dX6_part_16 ?_
      refine r_iload_n hc 1 rfl rfl dX6_part_17 ?_
      obtain ⟨_, ek7, h⟩ := wp_g h
      obtain ⟨r5, σ6, er5, h⟩ := wp_b h
      refine r_callV hc (k0 := x0) mv_X6_in ml_X6_91 (c_X6_in er5) (chk_of ek7) cls_6.1 rfl rfl rfl (by decide) rfl (Nat.le_of_ble_eq_true rfl) dX6_part_18 ?_
      refine r_astore hc (i := 4) (lv' := [(4, .ref (ad r5)), (0, .ref (ad x0)), (1, .int x1), (2, .int x2), (3, .int x3)]) (by decide) rfl dX6_part_21 ?_
      refine r_aload hc 0 rfl dX6_part_23 ?_
      obtain ⟨_, ek10, h⟩ := wp_g h
      obtain ⟨r8, σ9, er8, h⟩ := wp_b h
      refine r_callV hc (k0 := r5) mv_X1_isEmpty ml_X6_109 (c_X1_isEmpty er8) (chk_of ek10) cls_1.1 rfl rfl rfl (by decide) rfl (Nat.le_of_ble_eq_true rfl) dX6_part_25 ?_
      refine r_if_eq hc (tgt := 34) dX6_part_28 (by decide) (fun c => ?_) (fun c => ?_)
      · have h := wp_t c h
        refine r_iload_n hc 3 rfl rfl dX6_part_34 ?_
        refine r_if_eq hc (tgt := 50) dX6_part_35 (by decide) (fun c => ?_) (fun c => ?_)
        · have h := wp_t c h
          refine r_sub [] (lv' := []) rfl ?_
          exact t_X6_part_b50 hc h
        · have h := wp_f c h
          refine r_iload_n hc 3 rfl rfl dX6_part_38 ?_
          refine r_aload hc 0 rfl dX6_part_39 ?_
          obtain ⟨_, ek13, h⟩ := wp_g h
          obtain ⟨r11, σ12, er11, h⟩ := wp_b h
          refine r_callV hc (k0 := r5) mv_X1_all ml_X6_206 (c_X1_all er11) (chk_of ek13) cls_1.1 rfl rfl rfl (by decide) rfl (Nat.le_of_ble_eq_true rfl) dX6_part_41 ?_
          refine r_iconst hc (v := (-1)) (by decide) dX6_part_44 ?_
          refine r_ixor hc dX6_part_45 ?_
          refine r_iand hc dX6_part_46 ?_
          refine r_if_eq hc (tgt := 53) dX6_part_47 (by decide) (fun c => ?_) (fun c => ?_)
          · have h := wp_t c h
            refine r_aload_n hc 1 rfl rfl dX6_part_53 ?_
            refine r_aload hc 0 rfl dX6_part_54 ?_
            refine r_iload_n hc 3 rfl rfl dX6_part_56 ?_
            obtain ⟨_, ek16, h⟩ := wp_g h
            obtain ⟨_, σ15, er14, h⟩ := wp_b h
            refine r_callV hc (k0 := x0) mv_X6_cut ml_X6_195 (c_X6_cut er14) (chk_of ek16) cls_6.1 rfl rfl rfl (by decide) rfl (Nat.le_of_ble_eq_true rfl) dX6_part_57 ?_
            refine r_aload_n hc 1 rfl rfl dX6_part_60 ?_
            refine r_iload_n hc 4 rfl rfl dX6_part_61 ?_
            obtain ⟨_, ek19, h⟩ := wp_g h
            obtain ⟨r17, σ18, er17, h⟩ := wp_b h
            refine r_callV hc (k0 := x0) mv_X6_settle ml_X6_170 (c_X6_settle er17) (chk_of ek19) cls_6.1 rfl rfl rfl (by decide) rfl (Nat.le_of_ble_eq_true rfl) dX6_part_62 ?_
            have h := wp_v h
            exact r_iret hc h dX6_part_65
          · have h := wp_f c h
            refine r_sub [] (lv' := []) rfl ?_
            exact t_X6_part_b50 hc h
      · have h := wp_f c h
        refine r_bipush hc (v := (-2)) (by decide) dX6_part_31 ?_
        have h := wp_v h
        exact r_iret hc h dX6_part_33
    · have h := wp_f c h
      refine r_sub [] (lv' := []) rfl ?_
      exact t_X6_part_b14 hc h
theorem c_X6_part {l : Launch} {x0 : Nat} {x1 : Int32} {x2 : Int32} {x3 : Int32} {σ σ' : Hp} {r : Int32} (h : f_X6_part x0 x1 x2 x3 σ = some (r, σ')) : Mt l yX6_part cX6_part 5 (some .int) 4 shC (fun ad => [.ref (ad x0), .int x1, .int x2, .int x3]) σ (fun ad => some (.int r)) σ' := mt_i (own := RX6) (by decide) rfl (fun _ => Nat.le_of_ble_eq_true rfl) (fun γ ad K hc hk => t_X6_part hc ⟨_, _, h, hk⟩)

-- NetMaps.drawn(IIII)I
theorem dX6_drawn_0 : decode cX6_drawn 0 = .ok (.iload_n 1, 1) := by decide +kernel
theorem dX6_drawn_1 : decode cX6_drawn 1 = .ok (.invokestatic 76, 3) := by decide +kernel
theorem dX6_drawn_4 : decode cX6_drawn 4 = .ok (.ifCond .ne 26, 3) := by decide +kernel
theorem dX6_drawn_7 : decode cX6_drawn 7 = .ok (.iload_n 2, 1) := by decide +kernel
theorem dX6_drawn_8 : decode cX6_drawn 8 = .ok (.iconst 1, 1) := by decide +kernel
theorem dX6_drawn_9 : decode cX6_drawn 9 = .ok (.if_icmp .lt 21, 3) := by decide +kernel
theorem dX6_drawn_12 : decode cX6_drawn 12 = .ok (.iload_n 2, 1) := by decide +kernel
theorem dX6_drawn_13 : decode cX6_drawn 13 = .ok (.bipush 7, 2) := by decide +kernel
theorem dX6_drawn_15 : decode cX6_drawn 15 = .ok (.if_icmp .gt 15, 3) := by decide +kernel
theorem dX6_drawn_18 : decode cX6_drawn 18 = .ok (.iload 4, 2) := by decide +kernel
theorem dX6_drawn_20 : decode cX6_drawn 20 = .ok (.ifCond .lt 10, 3) := by decide +kernel
theorem dX6_drawn_23 : decode cX6_drawn 23 = .ok (.iload 4, 2) := by decide +kernel
theorem dX6_drawn_25 : decode cX6_drawn 25 = .ok (.bipush 10, 2) := by decide +kernel
theorem dX6_drawn_27 : decode cX6_drawn 27 = .ok (.if_icmp .le 5, 3) := by decide +kernel
theorem dX6_drawn_30 : decode cX6_drawn 30 = .ok (.iconst (-1), 1) := by decide +kernel
theorem dX6_drawn_31 : decode cX6_drawn 31 = .ok (.ireturn, 1) := by decide +kernel
theorem dX6_drawn_32 : decode cX6_drawn 32 = .ok (.aload_n 0, 1) := by decide +kernel
theorem dX6_drawn_33 : decode cX6_drawn 33 = .ok (.getfield 34, 3) := by decide +kernel
theorem dX6_drawn_36 : decode cX6_drawn 36 = .ok (.iload_n 2, 1) := by decide +kernel
theorem dX6_drawn_37 : decode cX6_drawn 37 = .ok (.invokevirtual 106, 3) := by decide +kernel
theorem dX6_drawn_40 : decode cX6_drawn 40 = .ok (.iload_n 3, 1) := by decide +kernel
theorem dX6_drawn_41 : decode cX6_drawn 41 = .ok (.ldc 212, 2) := by decide +kernel
theorem dX6_drawn_43 : decode cX6_drawn 43 = .ok (.iand, 1) := by decide +kernel
theorem dX6_drawn_44 : decode cX6_drawn 44 = .ok (.istore 5, 2) := by decide +kernel
theorem dX6_drawn_46 : decode cX6_drawn 46 = .ok (.iconst 0, 1) := by decide +kernel
theorem dX6_drawn_47 : decode cX6_drawn 47 = .ok (.istore 6, 2) := by decide +kernel
theorem dX6_drawn_49 : decode cX6_drawn 49 = .ok (.iload 6, 2) := by decide +kernel
theorem dX6_drawn_51 : decode cX6_drawn 51 = .ok (.iload_n 2, 1) := by decide +kernel
theorem dX6_drawn_52 : decode cX6_drawn 52 = .ok (.if_icmp .ge 69, 3) := by decide +kernel
theorem dX6_drawn_55 : decode cX6_drawn 55 = .ok (.iconst 0, 1) := by decide +kernel
theorem dX6_drawn_56 : decode cX6_drawn 56 = .ok (.istore 7, 2) := by decide +kernel
theorem dX6_drawn_58 : decode cX6_drawn 58 = .ok (.iload 7, 2) := by decide +kernel
theorem dX6_drawn_60 : decode cX6_drawn 60 = .ok (.iload_n 2, 1) := by decide +kernel
theorem dX6_drawn_61 : decode cX6_drawn 61 = .ok (.if_icmp .ge 54, 3) := by decide +kernel
theorem dX6_drawn_64 : decode cX6_drawn 64 = .ok (.iload 6, 2) := by decide +kernel
theorem dX6_drawn_66 : decode cX6_drawn 66 = .ok (.iload 7, 2) := by decide +kernel
theorem dX6_drawn_68 : decode cX6_drawn 68 = .ok (.if_icmp .eq 41, 3) := by decide +kernel
theorem dX6_drawn_71 : decode cX6_drawn 71 = .ok (.sipush 25173, 3) := by decide +kernel
theorem dX6_drawn_74 : decode cX6_drawn 74 = .ok (.iload 5, 2) := by decide +kernel
theorem dX6_drawn_76 : decode cX6_drawn 76 = .ok (.imul, 1) := by decide +kernel
theorem dX6_drawn_77 : decode cX6_drawn 77 = .ok (.sipush 13849, 3) := by decide +kernel
theorem dX6_drawn_80 : decode cX6_drawn 80 = .ok (.iadd, 1) := by decide +kernel
theorem dX6_drawn_81 : decode cX6_drawn 81 = .ok (.ldc 212, 2) := by decide +kernel
theorem dX6_drawn_83 : decode cX6_drawn 83 = .ok (.iand, 1) := by decide +kernel
theorem dX6_drawn_84 : decode cX6_drawn 84 = .ok (.istore 5, 2) := by decide +kernel
theorem dX6_drawn_86 : decode cX6_drawn 86 = .ok (.iload 5, 2) := by decide +kernel
theorem dX6_drawn_88 : decode cX6_drawn 88 = .ok (.iconst 4, 1) := by decide +kernel
theorem dX6_drawn_89 : decode cX6_drawn 89 = .ok (.idiv, 1) := by decide +kernel
theorem dX6_drawn_90 : decode cX6_drawn 90 = .ok (.bipush 10, 2) := by decide +kernel
theorem dX6_drawn_92 : decode cX6_drawn 92 = .ok (.irem, 1) := by decide +kernel
theorem dX6_drawn_93 : decode cX6_drawn 93 = .ok (.iload 4, 2) := by decide +kernel
theorem dX6_drawn_95 : decode cX6_drawn 95 = .ok (.if_icmp .ge 14, 3) := by decide +kernel
theorem dX6_drawn_98 : decode cX6_drawn 98 = .ok (.aload_n 0, 1) := by decide +kernel
theorem dX6_drawn_99 : decode cX6_drawn 99 = .ok (.getfield 34, 3) := by decide +kernel
theorem dX6_drawn_102 : decode cX6_drawn 102 = .ok (.iload 6, 2) := by decide +kernel
theorem dX6_drawn_104 : decode cX6_drawn 104 = .ok (.iload 7, 2) := by decide +kernel
theorem dX6_drawn_106 : decode cX6_drawn 106 = .ok (.invokevirtual 119, 3) := by decide +kernel
theorem dX6_drawn_109 : decode cX6_drawn 109 = .ok (.iinc 7 1, 3) := by decide +kernel
theorem dX6_drawn_112 : decode cX6_drawn 112 = .ok (.goto (-54), 3) := by decide +kernel
theorem dX6_drawn_115 : decode cX6_drawn 115 = .ok (.iinc 6 1, 3) := by decide +kernel
theorem dX6_drawn_118 : decode cX6_drawn 118 = .ok (.goto (-69), 3) := by decide +kernel
theorem dX6_drawn_121 : decode cX6_drawn 121 = .ok (.aload_n 0, 1) := by decide +kernel
theorem dX6_drawn_122 : decode cX6_drawn 122 = .ok (.iload_n 1, 1) := by decide +kernel
theorem dX6_drawn_123 : decode cX6_drawn 123 = .ok (.invokevirtual 170, 3) := by decide +kernel
theorem dX6_drawn_126 : decode cX6_drawn 126 = .ok (.ireturn, 1) := by decide +kernel
noncomputable def f_X6_drawn_b30  (σ : Hp) : Option (Int32 × Hp) := some ((-1), σ)
set_option maxRecDepth 100000 in
set_option maxHeartbeats 4000000 in
theorem t_X6_drawn_b30 {l : Launch} {γ : Gm} {ad : Nat → Nat} {K : Option Value → Hp → Prop} (hc : Cx l γ 4 8 ad shC RX6 cX6_drawn (some .int) K)  {σ : Hp} (h : wpO (f_X6_drawn_b30  σ) (KI K)) : WW l γ 4 8 ad shC 30 [] [] σ := by
  unfold f_X6_drawn_b30 at h
  refine r_iconst hc (v := (-1)) (by decide) dX6_drawn_30 ?_
  have h := wp_v h
  exact r_iret hc h dX6_drawn_31
noncomputable def f_X6_drawn_b109 (x0 : Nat) (x1 : Int32) (x2 : Int32) (x4 : Int32) (x5 : Int32) (x6 : Int32) (x7 : Int32) (σ : Hp) : Option (((Int32 × Int32) ⊕ (Int32)) × Hp) := some (Sum.inl (x5, (x7 + 1)), σ)
set_option maxRecDepth 100000 in
set_option maxHeartbeats 4000000 in
theorem t_X6_drawn_b109 {l : Launch} {γ : Gm} {ad : Nat → Nat} {K : Option Value → Hp → Prop} (hc : Cx l γ 4 8 ad shC RX6 cX6_drawn (some .int) K) {x0 : Nat} {x1 : Int32} {x2 : Int32} {x4 : Int32} {x5 : Int32} {x6 : Int32} {x7 : Int32}  {σ : Hp} {KL : ((Int32 × Int32) ⊕ (Int32)) → Hp → Prop} (h : wpO (f_X6_drawn_b109 x0 x1 x2 x4 x5 x6 x7 σ) KL) (kn : ∀ (v : (Int32 × Int32)) (σ : Hp), KL (Sum.inl v) σ → WW l γ 4 8 ad shC 58 [(0, .ref (ad x0)), (1, .int x1), (2, .int x2), (4, .int x4), (5, .int v.1), (6, .int x6), (7, .int v.2)] [] σ) (kx115 : ∀ (v : Int32) (σ : Hp), KL (Sum.inr v) σ → WW l γ 4 8 ad shC 115 [(0, .ref (ad x0)), (1, .int x1), (2, .int x2), (4, .int x4), (5, .int v), (6, .int x6)] [] σ) : WW l γ 4 8 ad shC 109 [(0, .ref (ad x0)), (1, .int x1), (2, .int x2), (4, .int x4), (5, .int x5), (6, .int x6), (7, .int x7)] [] σ := by
  unfold f_X6_drawn_b109 at h
  refine r_iincE hc (j := 6) (w := 1) (lv' := [(7, .int (x7 + 1)), (0, .ref (ad x0)), (1, .int x1), (2, .int x2), (4, .int x4), (5, .int x5), (6, .int x6)]) rfl (by decide) rfl (by decide) rfl dX6_drawn_109 ?_
  refine r_goto hc (tgt := 58) dX6_drawn_112 (by decide) ?_
  refine r_sub [1, 2, 3, 4, 5, 6, 0] (lv' := [(0, .ref (ad x0)), (1, .int x1), (2, .int x2), (4, .int x4), (5, .int x5), (6, .int x6), (7, .int (x7 + 1))]) rfl ?_
  have h := wp_v h
  exact kn (x5, (x7 + 1)) _ h
noncomputable def f_X6_drawn_L58 (x0 : Nat) (x1 : Int32) (x2 : Int32) (x4 : Int32) (x6 : Int32) (v : (Int32 × Int32)) (σ : Hp) : Option (((Int32 × Int32) ⊕ (Int32)) × Hp) := if x2 ≤ v.2 then (some (Sum.inr v.1, σ)) else (if x6 = v.2 then (f_X6_drawn_b109 x0 x1 x2 x4 v.1 x6 v.2 σ) else (lt' ((((25173 * v.1) + 13849) &&& 65535)) fun t1 => gO (nz 4) fun z2 => gO (nz 10) fun z3 => if x4 ≤ (irm (t1 / 4) 10) then (f_X6_drawn_b109 x0 x1 x2 x4 t1 x6 v.2 σ) else (gO (getR shC 6 x0 6 σ) fun v4 => gO (chk shC v4 1) fun _ => bO (f_X1_join v4 x6 v.2 σ) fun _ σ6 => f_X6_drawn_b109 x0 x1 x2 x4 t1 x6 v.2 σ6)))
set_option maxRecDepth 100000 in
set_option maxHeartbeats 4000000 in
theorem t_X6_drawn_L58 {l : Launch} {γ : Gm} {ad : Nat → Nat} {K : Option Value → Hp → Prop}  (hc : Cx l γ 4 8 ad shC RX6 cX6_drawn (some .int) K) {x0 : Nat} {x1 : Int32} {x2 : Int32} {x4 : Int32} {x6 : Int32} {v : (Int32 × Int32)} {σ : Hp} {KX : (Int32) → Hp → Prop} (h : wpO (wh (f_X6_drawn_L58 x0 x1 x2 x4 x6) v σ) KX) (kx115 : ∀ (v : Int32) (σ : Hp), KX v σ → WW l γ 4 8 ad shC 115 [(0, .ref (ad x0)), (1, .int x1), (2, .int x2), (4, .int x4), (5, .int v), (6, .int x6)] [] σ) : WW l γ 4 8 ad shC 58 [(0, .ref (ad x0)), (1, .int x1), (2, .int x2), (4, .int x4), (5, .int v.1), (6, .int x6), (7, .int v.2)] [] σ := by
  refine wh_W (P := fun v σ => WW l γ 4 8 ad shC 58 [(0, .ref (ad x0)), (1, .int x1), (2, .int x2), (4, .int x4), (5, .int v.1), (6, .int x6), (7, .int v.2)] [] σ) (fun v σ h => ?_) h
  have kn : ∀ (v : (Int32 × Int32)) (σ : Hp), WW l γ 4 8 ad shC 58 [(0, .ref (ad x0)), (1, .int x1), (2, .int x2), (4, .int x4), (5, .int v.1), (6, .int x6), (7, .int v.2)] [] σ → WW l γ 4 8 ad shC 58 [(0, .ref (ad x0)), (1, .int x1), (2, .int x2), (4, .int x4), (5, .int v.1), (6, .int x6), (7, .int v.2)] [] σ := fun _ _ h => h
  · unfold f_X6_drawn_L58 at h
    refine r_iload hc 6 rfl dX6_drawn_58 ?_
    refine r_iload_n hc 2 rfl rfl dX6_drawn_60 ?_
    refine r_icmp_ge hc (tgt := 115) dX6_drawn_61 (by decide) (fun c => ?_) (fun c => ?_)
    · have h := wp_t c h
      refine r_sub [0, 1, 2, 3, 4, 5] (lv' := [(0, .ref (ad x0)), (1, .int x1), (2, .int x2), (4, .int x4), (5, .int v.1), (6, .int x6)]) rfl ?_
      have h := wp_v h
      exact kx115 v.1 _ h
    · have h := wp_f c h
      refine r_iload hc 5 rfl dX6_drawn_64 ?_
      refine r_iload hc 6 rfl dX6_drawn_66 ?_
      refine r_icmp_eq hc (tgt := 109) dX6_drawn_68 (by decide) (fun c => ?_) (fun c => ?_)
      · have h := wp_t c h
        exact t_X6_drawn_b109 hc h kn kx115
      · have h := wp_f c h
        refine r_sipush hc (v := 25173) (by decide) dX6_drawn_71 ?_
        refine r_iload hc 4 rfl dX6_drawn_74 ?_
        refine r_imul hc dX6_drawn_76 ?_
        refine r_sipush hc (v := 13849) (by decide) dX6_drawn_77 ?_
        refine r_iadd hc dX6_drawn_80 ?_
        refine r_ldc hc kc_X6_212 dX6_drawn_81 ?_
        refine r_iand hc dX6_drawn_83 ?_
        obtain ⟨t1, et1, h⟩ := wp_l h
        refine r_istoreE hc (i := 5) (lv' := [(5, .int t1), (0, .ref (ad x0)), (1, .int x1), (2, .int x2), (4, .int x4), (6, .int x6), (7, .int v.2)]) et1 (by decide) rfl dX6_drawn_84 ?_
        refine r_iload hc 0 rfl dX6_drawn_86 ?_
        refine r_iconst hc (v := 4) (by decide) dX6_drawn_88 ?_
        obtain ⟨z2, ez2, h⟩ := wp_g h
        refine r_idiv hc ez2 dX6_drawn_89 ?_
        refine r_bipush hc (v := 10) (by decide) dX6_drawn_90 ?_
        obtain ⟨z3, ez3, h⟩ := wp_g h
        refine r_irem hc ez3 dX6_drawn_92 ?_
        refine r_iload hc 4 rfl dX6_drawn_93 ?_
        refine r_icmp_ge hc (tgt := 109) dX6_drawn_95 (by decide) (fun c => ?_) (fun c => ?_)
        · have h := wp_t c h
          refine r_sub [1, 2, 3, 4, 0, 5, 6] (lv' := [(0, .ref (ad x0)), (1, .int x1), (2, .int x2), (4, .int x4), (5, .int t1), (6, .int x6), (7, .int v.2)]) rfl ?_
          exact t_X6_drawn_b109 hc h kn kx115
        · have h := wp_f c h
          refine r_aload_n hc 1 rfl rfl dX6_drawn_98 ?_
          obtain ⟨v4, ev4, h⟩ := wp_g h
          refine r_getR hc ev4 fl_X6_34 rfl dX6_drawn_99 ?_
          refine r_iload hc 5 rfl dX6_drawn_102 ?_
          refine r_iload hc 6 rfl dX6_drawn_104 ?_
          obtain ⟨_, ek7, h⟩ := wp_g h
          obtain ⟨_, σ6, er5, h⟩ := wp_b h
          refine r_callV hc (k0 := v4) mv_X1_join ml_X6_119 (c_X1_join er5) (chk_of ek7) cls_1.1 rfl rfl rfl (by decide) rfl (Nat.le_of_ble_eq_true rfl) dX6_drawn_106 ?_
          refine r_sub [1, 2, 3, 4, 0, 5, 6] (lv' := [(0, .ref (ad x0)), (1, .int x1), (2, .int x2), (4, .int x4), (5, .int t1), (6, .int x6), (7, .int v.2)]) rfl ?_
          exact t_X6_drawn_b109 hc h kn kx115
noncomputable def f_X6_drawn_L49 (x0 : Nat) (x1 : Int32) (x2 : Int32) (x4 : Int32) (v : (Int32 × Int32)) (σ : Hp) : Option (((Int32 × Int32) ⊕ (Unit)) × Hp) := if x2 ≤ v.2 then (some (Sum.inr (), σ)) else (bO (wh (f_X6_drawn_L58 x0 x1 x2 x4 v.2) (v.1, 0) σ) fun y1 σ2 => (some (Sum.inl (y1, (v.2 + 1)), σ2)))
set_option maxRecDepth 100000 in
set_option maxHeartbeats 4000000 in
theorem t_X6_drawn_L49 {l : Launch} {γ : Gm} {ad : Nat → Nat} {K : Option Value → Hp → Prop}  (hc : Cx l γ 4 8 ad shC RX6 cX6_drawn (some .int) K) {x0 : Nat} {x1 : Int32} {x2 : Int32} {x4 : Int32} {v : (Int32 × Int32)} {σ : Hp} {KX : (Unit) → Hp → Prop} (h : wpO (wh (f_X6_drawn_L49 x0 x1 x2 x4) v σ) KX) (kx121 : ∀ (v : Unit) (σ : Hp), KX v σ → WW l γ 4 8 ad shC 121 [(0, .ref (ad x0)), (1, .int x1)] [] σ) : WW l γ 4 8 ad shC 49 [(0, .ref (ad x0)), (1, .int x1), (2, .int x2), (4, .int x4), (5, .int v.1), (6, .int v.2)] [] σ := by
  refine wh_W (P := fun v σ => WW l γ 4 8 ad shC 49 [(0, .ref (ad x0)), (1, .int x1), (2, .int x2), (4, .int x4), (5, .int v.1), (6, .int v.2)] [] σ) (fun v σ h => ?_) h
  have kn : ∀ (v : (Int32 × Int32)) (σ : Hp), WW l γ 4 8 ad shC 49 [(0, .ref (ad x0)), (1, .int x1), (2, .int x2), (4, .int x4), (5, .int v.1), (6, .int v.2)] [] σ → WW l γ 4 8 ad shC 49 [(0, .ref (ad x0)), (1, .int x1), (2, .int x2), (4, .int x4), (5, .int v.1), (6, .int v.2)] [] σ := fun _ _ h => h
  · unfold f_X6_drawn_L49 at h
    refine r_iload hc 5 rfl dX6_drawn_49 ?_
    refine r_iload_n hc 2 rfl rfl dX6_drawn_51 ?_
    refine r_icmp_ge hc (tgt := 121) dX6_drawn_52 (by decide) (fun c => ?_) (fun c => ?_)
    · have h := wp_t c h
      refine r_sub [0, 1] (lv' := [(0, .ref (ad x0)), (1, .int x1)]) rfl ?_
      have h := wp_v h
      exact kx121 () _ h
    · have h := wp_f c h
      refine r_iconst hc (v := 0) (by decide) dX6_drawn_55 ?_
      refine r_istoreE hc (i := 7) (lv' := [(7, .int 0), (0, .ref (ad x0)), (1, .int x1), (2, .int x2), (4, .int x4), (5, .int v.1), (6, .int v.2)]) rfl (by decide) rfl dX6_drawn_56 ?_
      refine r_sub [1, 2, 3, 4, 5, 6, 0] (lv' := [(0, .ref (ad x0)), (1, .int x1), (2, .int x2), (4, .int x4), (5, .int v.1), (6, .int v.2), (7, .int 0)]) rfl ?_
      refine t_X6_drawn_L58 hc (wp_bb h) ?_
      · intro y1 σ2 h
        refine r_iincE hc (j := 5) (w := 1) (lv' := [(6, .int (v.2 + 1)), (0, .ref (ad x0)), (1, .int x1), (2, .int x2), (4, .int x4), (5, .int y1)]) rfl (by decide) rfl (by decide) rfl dX6_drawn_115 ?_
        refine r_goto hc (tgt := 49) dX6_drawn_118 (by decide) ?_
        refine r_sub [1, 2, 3, 4, 5, 0] (lv' := [(0, .ref (ad x0)), (1, .int x1), (2, .int x2), (4, .int x4), (5, .int y1), (6, .int (v.2 + 1))]) rfl ?_
        have h := wp_v h
        exact kn (y1, (v.2 + 1)) _ h
noncomputable def f_X6_drawn (x0 : Nat) (x1 : Int32) (x2 : Int32) (x3 : Int32) (x4 : Int32) (σ : Hp) : Option (Int32 × Hp) := bO (f_X6_noDrawer x1 σ) fun r1 σ2 => if r1 = 0 then (if x2 < 1 then (f_X6_drawn_b30  σ2) else (if 7 < x2 then (f_X6_drawn_b30  σ2) else (if x4 < 0 then (f_X6_drawn_b30  σ2) else (if x4 ≤ 10 then (gO (getR shC 6 x0 6 σ2) fun v3 => gO (chk shC v3 1) fun _ => bO (f_X1_begin v3 x2 σ2) fun _ σ5 => bO (wh (f_X6_drawn_L49 x0 x1 x2 x4) ((x3 &&& 65535), 0) σ5) fun y7 σ8 => (gO (chk shC x0 6) fun _ => bO (f_X6_settle x0 x1 σ8) fun r9 σ10 => some (r9, σ10))) else (f_X6_drawn_b30  σ2))))) else (f_X6_drawn_b30  σ2)
set_option maxRecDepth 100000 in
set_option maxHeartbeats 4000000 in
theorem t_X6_drawn {l : Launch} {γ : Gm} {ad : Nat → Nat} {K : Option Value → Hp → Prop} (hc : Cx l γ 4 8 ad shC RX6 cX6_drawn (some .int) K) {x0 : Nat} {x1 : Int32} {x2 : Int32} {x3 : Int32} {x4 : Int32} {σ : Hp} (h : wpO (f_X6_drawn x0 x1 x2 x3 x4 σ) (KI K)) : WW l γ 4 8 ad shC 0 [(0, .ref (ad x0)), (1, .int x1), (2, .int x2), (3, .int x3), (4, .int x4)] [] σ := by
  unfold f_X6_drawn at h
  refine r_iload_n hc 1 rfl rfl dX6_drawn_0 ?_
  obtain ⟨r1, σ2, er1, h⟩ := wp_b h
  refine r_callS hc ms_X6_noDrawer ml_X6_76 (c_X6_noDrawer er1) rfl rfl (by decide) rfl (Nat.le_of_ble_eq_true rfl) dX6_drawn_1 ?_
  refine r_if_ne hc (tgt := 30) dX6_drawn_4 (by decide) (fun c => ?_) (fun c => ?_)
  · have h := wp_f c h
    refine r_sub [] (lv' := []) rfl ?_
    exact t_X6_drawn_b30 hc h
  · have h := wp_t c h
    refine r_iload_n hc 2 rfl rfl dX6_drawn_7 ?_
    refine r_iconst hc (v := 1) (by decide) dX6_drawn_8 ?_
    refine r_icmp_lt hc (tgt := 30) dX6_drawn_9 (by decide) (fun c => ?_) (fun c => ?_)
    · have h := wp_t c h
      refine r_sub [] (lv' := []) rfl ?_
      exact t_X6_drawn_b30 hc h
    · have h := wp_f c h
      refine r_iload_n hc 2 rfl rfl dX6_drawn_12 ?_
      refine r_bipush hc (v := 7) (by decide) dX6_drawn_13 ?_
      refine r_icmp_gt hc (tgt := 30) dX6_drawn_15 (by decide) (fun c => ?_) (fun c => ?_)
      · have h := wp_t c h
        refine r_sub [] (lv' := []) rfl ?_
        exact t_X6_drawn_b30 hc h
      · have h := wp_f c h
        refine r_iload hc 4 rfl dX6_drawn_18 ?_
        refine r_if_lt hc (tgt := 30) dX6_drawn_20 (by decide) (fun c => ?_) (fun c => ?_)
        · have h := wp_t c h
          refine r_sub [] (lv' := []) rfl ?_
          exact t_X6_drawn_b30 hc h
        · have h := wp_f c h
          refine r_iload hc 4 rfl dX6_drawn_23 ?_
          refine r_bipush hc (v := 10) (by decide) dX6_drawn_25 ?_
          refine r_icmp_le hc (tgt := 32) dX6_drawn_27 (by decide) (fun c => ?_) (fun c => ?_)
          · have h := wp_t c h
            refine r_aload_n hc 0 rfl rfl dX6_drawn_32 ?_
            obtain ⟨v3, ev3, h⟩ := wp_g h
            refine r_getR hc ev3 fl_X6_34 rfl dX6_drawn_33 ?_
            refine r_iload_n hc 2 rfl rfl dX6_drawn_36 ?_
            obtain ⟨_, ek6, h⟩ := wp_g h
            obtain ⟨_, σ5, er4, h⟩ := wp_b h
            refine r_callV hc (k0 := v3) mv_X1_begin ml_X6_106 (c_X1_begin er4) (chk_of ek6) cls_1.1 rfl rfl rfl (by decide) rfl (Nat.le_of_ble_eq_true rfl) dX6_drawn_37 ?_
            refine r_iload_n hc 3 rfl rfl dX6_drawn_40 ?_
            refine r_ldc hc kc_X6_212 dX6_drawn_41 ?_
            refine r_iand hc dX6_drawn_43 ?_
            refine r_istoreE hc (i := 5) (lv' := [(5, .int (x3 &&& 65535)), (0, .ref (ad x0)), (1, .int x1), (2, .int x2), (3, .int x3), (4, .int x4)]) rfl (by decide) rfl dX6_drawn_44 ?_
            refine r_iconst hc (v := 0) (by decide) dX6_drawn_46 ?_
            refine r_istoreE hc (i := 6) (lv' := [(6, .int 0), (5, .int (x3 &&& 65535)), (0, .ref (ad x0)), (1, .int x1), (2, .int x2), (3, .int x3), (4, .int x4)]) rfl (by decide) rfl dX6_drawn_47 ?_
            refine r_sub [2, 3, 4, 6, 1, 0] (lv' := [(0, .ref (ad x0)), (1, .int x1), (2, .int x2), (4, .int x4), (5, .int (x3 &&& 65535)), (6, .int 0)]) rfl ?_
            refine t_X6_drawn_L49 hc (wp_bb h) ?_
            · intro y7 σ8 h
              refine r_aload_n hc 0 rfl rfl dX6_drawn_121 ?_
              refine r_iload_n hc 1 rfl rfl dX6_drawn_122 ?_
              obtain ⟨_, ek11, h⟩ := wp_g h
              obtain ⟨r9, σ10, er9, h⟩ := wp_b h
              refine r_callV hc (k0 := x0) mv_X6_settle ml_X6_170 (c_X6_settle er9) (chk_of ek11) cls_6.1 rfl rfl rfl (by decide) rfl (Nat.le_of_ble_eq_true rfl) dX6_drawn_123 ?_
              have h := wp_v h
              exact r_iret hc h dX6_drawn_126
          · have h := wp_f c h
            refine r_sub [] (lv' := []) rfl ?_
            exact t_X6_drawn_b30 hc h
theorem c_X6_drawn {l : Launch} {x0 : Nat} {x1 : Int32} {x2 : Int32} {x3 : Int32} {x4 : Int32} {σ σ' : Hp} {r : Int32} (h : f_X6_drawn x0 x1 x2 x3 x4 σ = some (r, σ')) : Mt l yX6_drawn cX6_drawn 8 (some .int) 4 shC (fun ad => [.ref (ad x0), .int x1, .int x2, .int x3, .int x4]) σ (fun ad => some (.int r)) σ' := mt_i (own := RX6) (by decide) rfl (fun _ => Nat.le_of_ble_eq_true rfl) (fun γ ad K hc hk => t_X6_drawn hc ⟨_, _, h, hk⟩)

-- NetMaps.list(II)I
theorem dX6_list_0 : decode cX6_list 0 = .ok (.iload_n 1, 1) := by decide +kernel
theorem dX6_list_1 : decode cX6_list 1 = .ok (.ifCond .lt 19, 3) := by decide +kernel
theorem dX6_list_4 : decode cX6_list 4 = .ok (.iload_n 1, 1) := by decide +kernel
theorem dX6_list_5 : decode cX6_list 5 = .ok (.bipush 7, 2) := by decide +kernel
theorem dX6_list_7 : decode cX6_list 7 = .ok (.if_icmp .ge 13, 3) := by decide +kernel
theorem dX6_list_10 : decode cX6_list 10 = .ok (.iload_n 2, 1) := by decide +kernel
theorem dX6_list_11 : decode cX6_list 11 = .ok (.ifCond .lt 9, 3) := by decide +kernel
theorem dX6_list_14 : decode cX6_list 14 = .ok (.iload_n 2, 1) := by decide +kernel
theorem dX6_list_15 : decode cX6_list 15 = .ok (.bipush 127, 2) := by decide +kernel
theorem dX6_list_17 : decode cX6_list 17 = .ok (.if_icmp .le 5, 3) := by decide +kernel
theorem dX6_list_20 : decode cX6_list 20 = .ok (.iconst (-1), 1) := by decide +kernel
theorem dX6_list_21 : decode cX6_list 21 = .ok (.ireturn, 1) := by decide +kernel
theorem dX6_list_22 : decode cX6_list 22 = .ok (.aload_n 0, 1) := by decide +kernel
theorem dX6_list_23 : decode cX6_list 23 = .ok (.getfield 10, 3) := by decide +kernel
theorem dX6_list_26 : decode cX6_list 26 = .ok (.getfield 213, 3) := by decide +kernel
theorem dX6_list_29 : decode cX6_list 29 = .ok (.iload_n 1, 1) := by decide +kernel
theorem dX6_list_30 : decode cX6_list 30 = .ok (.iaload, 1) := by decide +kernel
theorem dX6_list_31 : decode cX6_list 31 = .ok (.istore_n 3, 1) := by decide +kernel
theorem dX6_list_32 : decode cX6_list 32 = .ok (.aload_n 0, 1) := by decide +kernel
theorem dX6_list_33 : decode cX6_list 33 = .ok (.getfield 10, 3) := by decide +kernel
theorem dX6_list_36 : decode cX6_list 36 = .ok (.getfield 213, 3) := by decide +kernel
theorem dX6_list_39 : decode cX6_list 39 = .ok (.iload_n 1, 1) := by decide +kernel
theorem dX6_list_40 : decode cX6_list 40 = .ok (.iload_n 2, 1) := by decide +kernel
theorem dX6_list_41 : decode cX6_list 41 = .ok (.iastore, 1) := by decide +kernel
theorem dX6_list_42 : decode cX6_list 42 = .ok (.iload_n 3, 1) := by decide +kernel
theorem dX6_list_43 : decode cX6_list 43 = .ok (.ireturn, 1) := by decide +kernel
noncomputable def f_X6_list_b20  (σ : Hp) : Option (Int32 × Hp) := some ((-1), σ)
set_option maxRecDepth 100000 in
set_option maxHeartbeats 4000000 in
theorem t_X6_list_b20 {l : Launch} {γ : Gm} {ad : Nat → Nat} {K : Option Value → Hp → Prop} (hc : Cx l γ 1 4 ad shC RX6 cX6_list (some .int) K)  {σ : Hp} (h : wpO (f_X6_list_b20  σ) (KI K)) : WW l γ 1 4 ad shC 20 [] [] σ := by
  unfold f_X6_list_b20 at h
  refine r_iconst hc (v := (-1)) (by decide) dX6_list_20 ?_
  have h := wp_v h
  exact r_iret hc h dX6_list_21
noncomputable def f_X6_list (x0 : Nat) (x1 : Int32) (x2 : Int32) (σ : Hp) : Option (Int32 × Hp) := if x1 < 0 then (f_X6_list_b20  σ) else (if 7 ≤ x1 then (f_X6_list_b20  σ) else (if x2 < 0 then (f_X6_list_b20  σ) else (if x2 ≤ 127 then (gO (getR shC 6 x0 0 σ) fun v1 => gO (getR shC 5 v1 1 σ) fun v2 => gO (aldI shC 0 v2 x1 σ) fun v3 => gO (getR shC 6 x0 0 σ) fun v4 => gO (getR shC 5 v4 1 σ) fun v5 => gO (astI shC 0 v5 x1 x2 σ) fun σ6 => some (v3, σ6)) else (f_X6_list_b20  σ))))
set_option maxRecDepth 100000 in
set_option maxHeartbeats 4000000 in
theorem t_X6_list {l : Launch} {γ : Gm} {ad : Nat → Nat} {K : Option Value → Hp → Prop} (hc : Cx l γ 1 4 ad shC RX6 cX6_list (some .int) K) {x0 : Nat} {x1 : Int32} {x2 : Int32} {σ : Hp} (h : wpO (f_X6_list x0 x1 x2 σ) (KI K)) : WW l γ 1 4 ad shC 0 [(0, .ref (ad x0)), (1, .int x1), (2, .int x2)] [] σ := by
  unfold f_X6_list at h
  refine r_iload_n hc 1 rfl rfl dX6_list_0 ?_
  refine r_if_lt hc (tgt := 20) dX6_list_1 (by decide) (fun c => ?_) (fun c => ?_)
  · have h := wp_t c h
    refine r_sub [] (lv' := []) rfl ?_
    exact t_X6_list_b20 hc h
  · have h := wp_f c h
    refine r_iload_n hc 1 rfl rfl dX6_list_4 ?_
    refine r_bipush hc (v := 7) (by decide) dX6_list_5 ?_
    refine r_icmp_ge hc (tgt := 20) dX6_list_7 (by decide) (fun c => ?_) (fun c => ?_)
    · have h := wp_t c h
      refine r_sub [] (lv' := []) rfl ?_
      exact t_X6_list_b20 hc h
    · have h := wp_f c h
      refine r_iload_n hc 2 rfl rfl dX6_list_10 ?_
      refine r_if_lt hc (tgt := 20) dX6_list_11 (by decide) (fun c => ?_) (fun c => ?_)
      · have h := wp_t c h
        refine r_sub [] (lv' := []) rfl ?_
        exact t_X6_list_b20 hc h
      · have h := wp_f c h
        refine r_iload_n hc 2 rfl rfl dX6_list_14 ?_
        refine r_bipush hc (v := 127) (by decide) dX6_list_15 ?_
        refine r_icmp_le hc (tgt := 22) dX6_list_17 (by decide) (fun c => ?_) (fun c => ?_)
        · have h := wp_t c h
          refine r_aload_n hc 0 rfl rfl dX6_list_22 ?_
          obtain ⟨v1, ev1, h⟩ := wp_g h
          refine r_getR hc ev1 fl_X6_10 rfl dX6_list_23 ?_
          obtain ⟨v2, ev2, h⟩ := wp_g h
          refine r_getR hc ev2 fl_X6_213 rfl dX6_list_26 ?_
          refine r_iload_n hc 1 rfl rfl dX6_list_29 ?_
          obtain ⟨v3, ev3, h⟩ := wp_g h
          refine r_iald hc ev3 dX6_list_30 ?_
          refine r_istore_nE hc (i := 3) (lv' := [(3, .int v3), (0, .ref (ad x0)), (1, .int x1), (2, .int x2)]) rfl rfl (by decide) rfl dX6_list_31 ?_
          refine r_aload_n hc 1 rfl rfl dX6_list_32 ?_
          obtain ⟨v4, ev4, h⟩ := wp_g h
          refine r_getR hc ev4 fl_X6_10 rfl dX6_list_33 ?_
          obtain ⟨v5, ev5, h⟩ := wp_g h
          refine r_getR hc ev5 fl_X6_213 rfl dX6_list_36 ?_
          refine r_iload_n hc 2 rfl rfl dX6_list_39 ?_
          refine r_iload_n hc 3 rfl rfl dX6_list_40 ?_
          obtain ⟨σ6, eσ6, h⟩ := wp_g h
          refine r_iast hc eσ6 dX6_list_41 ?_
          refine r_iload_n hc 0 rfl rfl dX6_list_42 ?_
          have h := wp_v h
          exact r_iret hc h dX6_list_43
        · have h := wp_f c h
          refine r_sub [] (lv' := []) rfl ?_
          exact t_X6_list_b20 hc h
theorem c_X6_list {l : Launch} {x0 : Nat} {x1 : Int32} {x2 : Int32} {σ σ' : Hp} {r : Int32} (h : f_X6_list x0 x1 x2 σ = some (r, σ')) : Mt l yX6_list cX6_list 4 (some .int) 1 shC (fun ad => [.ref (ad x0), .int x1, .int x2]) σ (fun ad => some (.int r)) σ' := mt_i (own := RX6) (by decide) rfl (fun _ => Nat.le_of_ble_eq_true rfl) (fun γ ad K hc hk => t_X6_list hc ⟨_, _, h, hk⟩)

-- NetMaps.free()I
theorem dX6_free_0 : decode cX6_free 0 = .ok (.iconst 0, 1) := by decide +kernel
theorem dX6_free_1 : decode cX6_free 1 = .ok (.istore_n 1, 1) := by decide +kernel
theorem dX6_free_2 : decode cX6_free 2 = .ok (.iconst 0, 1) := by decide +kernel
theorem dX6_free_3 : decode cX6_free 3 = .ok (.istore_n 2, 1) := by decide +kernel
theorem dX6_free_4 : decode cX6_free 4 = .ok (.iload_n 2, 1) := by decide +kernel
theorem dX6_free_5 : decode cX6_free 5 = .ok (.bipush 7, 2) := by decide +kernel
theorem dX6_free_7 : decode cX6_free 7 = .ok (.if_icmp .ge 37, 3) := by decide +kernel
theorem dX6_free_10 : decode cX6_free 10 = .ok (.aload_n 0, 1) := by decide +kernel
theorem dX6_free_11 : decode cX6_free 11 = .ok (.getfield 10, 3) := by decide +kernel
theorem dX6_free_14 : decode cX6_free 14 = .ok (.getfield 213, 3) := by decide +kernel
theorem dX6_free_17 : decode cX6_free 17 = .ok (.iload_n 2, 1) := by decide +kernel
theorem dX6_free_18 : decode cX6_free 18 = .ok (.iaload, 1) := by decide +kernel
theorem dX6_free_19 : decode cX6_free 19 = .ok (.bipush 127, 2) := by decide +kernel
theorem dX6_free_21 : decode cX6_free 21 = .ok (.if_icmp .eq 17, 3) := by decide +kernel
theorem dX6_free_24 : decode cX6_free 24 = .ok (.aload_n 0, 1) := by decide +kernel
theorem dX6_free_25 : decode cX6_free 25 = .ok (.getfield 10, 3) := by decide +kernel
theorem dX6_free_28 : decode cX6_free 28 = .ok (.getfield 213, 3) := by decide +kernel
theorem dX6_free_31 : decode cX6_free 31 = .ok (.iload_n 2, 1) := by decide +kernel
theorem dX6_free_32 : decode cX6_free 32 = .ok (.bipush 127, 2) := by decide +kernel
theorem dX6_free_34 : decode cX6_free 34 = .ok (.iastore, 1) := by decide +kernel
theorem dX6_free_35 : decode cX6_free 35 = .ok (.iinc 1 1, 3) := by decide +kernel
theorem dX6_free_38 : decode cX6_free 38 = .ok (.iinc 2 1, 3) := by decide +kernel
theorem dX6_free_41 : decode cX6_free 41 = .ok (.goto (-37), 3) := by decide +kernel
theorem dX6_free_44 : decode cX6_free 44 = .ok (.iload_n 1, 1) := by decide +kernel
theorem dX6_free_45 : decode cX6_free 45 = .ok (.ireturn, 1) := by decide +kernel
noncomputable def f_X6_free_b38 (x0 : Nat) (x1 : Int32) (x2 : Int32) (σ : Hp) : Option (((Int32 × Int32) ⊕ (Int32)) × Hp) := some (Sum.inl (x1, (x2 + 1)), σ)
set_option maxRecDepth 100000 in
set_option maxHeartbeats 4000000 in
theorem t_X6_free_b38 {l : Launch} {γ : Gm} {ad : Nat → Nat} {K : Option Value → Hp → Prop} (hc : Cx l γ 1 3 ad shC RX6 cX6_free (some .int) K) {x0 : Nat} {x1 : Int32} {x2 : Int32}  {σ : Hp} {KL : ((Int32 × Int32) ⊕ (Int32)) → Hp → Prop} (h : wpO (f_X6_free_b38 x0 x1 x2 σ) KL) (kn : ∀ (v : (Int32 × Int32)) (σ : Hp), KL (Sum.inl v) σ → WW l γ 1 3 ad shC 4 [(0, .ref (ad x0)), (1, .int v.1), (2, .int v.2)] [] σ) (kx44 : ∀ (v : Int32) (σ : Hp), KL (Sum.inr v) σ → WW l γ 1 3 ad shC 44 [(1, .int v)] [] σ) : WW l γ 1 3 ad shC 38 [(0, .ref (ad x0)), (1, .int x1), (2, .int x2)] [] σ := by
  unfold f_X6_free_b38 at h
  refine r_iincE hc (j := 2) (w := 1) (lv' := [(2, .int (x2 + 1)), (0, .ref (ad x0)), (1, .int x1)]) rfl (by decide) rfl (by decide) rfl dX6_free_38 ?_
  refine r_goto hc (tgt := 4) dX6_free_41 (by decide) ?_
  refine r_sub [1, 2, 0] (lv' := [(0, .ref (ad x0)), (1, .int x1), (2, .int (x2 + 1))]) rfl ?_
  have h := wp_v h
  exact kn (x1, (x2 + 1)) _ h
noncomputable def f_X6_free_L4 (x0 : Nat) (v : (Int32 × Int32)) (σ : Hp) : Option (((Int32 × Int32) ⊕ (Int32)) × Hp) := if 7 ≤ v.2 then (some (Sum.inr v.1, σ)) else (gO (getR shC 6 x0 0 σ) fun v1 => gO (getR shC 5 v1 1 σ) fun v2 => gO (aldI shC 0 v2 v.2 σ) fun v3 => if v3 = 127 then (f_X6_free_b38 x0 v.1 v.2 σ) else (gO (getR shC 6 x0 0 σ) fun v4 => gO (getR shC 5 v4 1 σ) fun v5 => gO (astI shC 0 v5 v.2 127 σ) fun σ6 => f_X6_free_b38 x0 (v.1 + 1) v.2 σ6))
set_option maxRecDepth 100000 in
set_option maxHeartbeats 4000000 in
theorem t_X6_free_L4 {l : Launch} {γ : Gm} {ad : Nat → Nat} {K : Option Value → Hp → Prop}  (hc : Cx l γ 1 3 ad shC RX6 cX6_free (some .int) K) {x0 : Nat} {v : (Int32 × Int32)} {σ : Hp} {KX : (Int32) → Hp → Prop} (h : wpO (wh (f_X6_free_L4 x0) v σ) KX) (kx44 : ∀ (v : Int32) (σ : Hp), KX v σ → WW l γ 1 3 ad shC 44 [(1, .int v)] [] σ) : WW l γ 1 3 ad shC 4 [(0, .ref (ad x0)), (1, .int v.1), (2, .int v.2)] [] σ := by
  refine wh_W (P := fun v σ => WW l γ 1 3 ad shC 4 [(0, .ref (ad x0)), (1, .int v.1), (2, .int v.2)] [] σ) (fun v σ h => ?_) h
  have kn : ∀ (v : (Int32 × Int32)) (σ : Hp), WW l γ 1 3 ad shC 4 [(0, .ref (ad x0)), (1, .int v.1), (2, .int v.2)] [] σ → WW l γ 1 3 ad shC 4 [(0, .ref (ad x0)), (1, .int v.1), (2, .int v.2)] [] σ := fun _ _ h => h
  · unfold f_X6_free_L4 at h
    refine r_iload_n hc 2 rfl rfl dX6_free_4 ?_
    refine r_bipush hc (v := 7) (by decide) dX6_free_5 ?_
    refine r_icmp_ge hc (tgt := 44) dX6_free_7 (by decide) (fun c => ?_) (fun c => ?_)
    · have h := wp_t c h
      refine r_sub [1] (lv' := [(1, .int v.1)]) rfl ?_
      have h := wp_v h
      exact kx44 v.1 _ h
    · have h := wp_f c h
      refine r_aload_n hc 0 rfl rfl dX6_free_10 ?_
      obtain ⟨v1, ev1, h⟩ := wp_g h
      refine r_getR hc ev1 fl_X6_10 rfl dX6_free_11 ?_
      obtain ⟨v2, ev2, h⟩ := wp_g h
      refine r_getR hc ev2 fl_X6_213 rfl dX6_free_14 ?_
      refine r_iload_n hc 2 rfl rfl dX6_free_17 ?_
      obtain ⟨v3, ev3, h⟩ := wp_g h
      refine r_iald hc ev3 dX6_free_18 ?_
      refine r_bipush hc (v := 127) (by decide) dX6_free_19 ?_
      refine r_icmp_eq hc (tgt := 38) dX6_free_21 (by decide) (fun c => ?_) (fun c => ?_)
      · have h := wp_t c h
        exact t_X6_free_b38 hc h kn kx44
      · have h := wp_f c h
        refine r_aload_n hc 0 rfl rfl dX6_free_24 ?_
        obtain ⟨v4, ev4, h⟩ := wp_g h
        refine r_getR hc ev4 fl_X6_10 rfl dX6_free_25 ?_
        obtain ⟨v5, ev5, h⟩ := wp_g h
        refine r_getR hc ev5 fl_X6_213 rfl dX6_free_28 ?_
        refine r_iload_n hc 2 rfl rfl dX6_free_31 ?_
        refine r_bipush hc (v := 127) (by decide) dX6_free_32 ?_
        obtain ⟨σ6, eσ6, h⟩ := wp_g h
        refine r_iast hc eσ6 dX6_free_34 ?_
        refine r_iincE hc (j := 1) (w := 1) (lv' := [(1, .int (v.1 + 1)), (0, .ref (ad x0)), (2, .int v.2)]) rfl (by decide) rfl (by decide) rfl dX6_free_35 ?_
        refine r_sub [1, 0, 2] (lv' := [(0, .ref (ad x0)), (1, .int (v.1 + 1)), (2, .int v.2)]) rfl ?_
        exact t_X6_free_b38 hc h kn kx44
noncomputable def f_X6_free (x0 : Nat) (σ : Hp) : Option (Int32 × Hp) := bO (wh (f_X6_free_L4 x0) (0, 0) σ) fun y1 σ2 => (some (y1, σ2))
set_option maxRecDepth 100000 in
set_option maxHeartbeats 4000000 in
theorem t_X6_free {l : Launch} {γ : Gm} {ad : Nat → Nat} {K : Option Value → Hp → Prop} (hc : Cx l γ 1 3 ad shC RX6 cX6_free (some .int) K) {x0 : Nat} {σ : Hp} (h : wpO (f_X6_free x0 σ) (KI K)) : WW l γ 1 3 ad shC 0 [(0, .ref (ad x0))] [] σ := by
  unfold f_X6_free at h
  refine r_iconst hc (v := 0) (by decide) dX6_free_0 ?_
  refine r_istore_nE hc (i := 1) (lv' := [(1, .int 0), (0, .ref (ad x0))]) rfl rfl (by decide) rfl dX6_free_1 ?_
  refine r_iconst hc (v := 0) (by decide) dX6_free_2 ?_
  refine r_istore_nE hc (i := 2) (lv' := [(2, .int 0), (1, .int 0), (0, .ref (ad x0))]) rfl rfl (by decide) rfl dX6_free_3 ?_
  refine r_sub [2, 1, 0] (lv' := [(0, .ref (ad x0)), (1, .int 0), (2, .int 0)]) rfl ?_
  refine t_X6_free_L4 hc (wp_bb h) ?_
  · intro y1 σ2 h
    refine r_iload_n hc 0 rfl rfl dX6_free_44 ?_
    have h := wp_v h
    exact r_iret hc h dX6_free_45
theorem c_X6_free {l : Launch} {x0 : Nat} {σ σ' : Hp} {r : Int32} (h : f_X6_free x0 σ = some (r, σ')) : Mt l yX6_free cX6_free 3 (some .int) 1 shC (fun ad => [.ref (ad x0)]) σ (fun ad => some (.int r)) σ' := mt_i (own := RX6) (by decide) rfl (fun _ => Nat.le_of_ble_eq_true rfl) (fun γ ad K hc hk => t_X6_free hc ⟨_, _, h, hk⟩)

-- NetMaps$Search.byLists(LNetMaps$Net;LNetMaps$Net;[I)V
theorem dX4_byLists_0 : decode cX4_byLists 0 = .ok (.aload_n 0, 1) := by decide +kernel
theorem dX4_byLists_1 : decode cX4_byLists 1 = .ok (.aload_n 1, 1) := by decide +kernel
theorem dX4_byLists_2 : decode cX4_byLists 2 = .ok (.aload_n 2, 1) := by decide +kernel
theorem dX4_byLists_3 : decode cX4_byLists 3 = .ok (.invokevirtual 51, 3) := by decide +kernel
theorem dX4_byLists_6 : decode cX4_byLists 6 = .ok (.iconst 0, 1) := by decide +kernel
theorem dX4_byLists_7 : decode cX4_byLists 7 = .ok (.istore 4, 2) := by decide +kernel
theorem dX4_byLists_9 : decode cX4_byLists 9 = .ok (.iload 4, 2) := by decide +kernel
theorem dX4_byLists_11 : decode cX4_byLists 11 = .ok (.aload_n 0, 1) := by decide +kernel
theorem dX4_byLists_12 : decode cX4_byLists 12 = .ok (.getfield 12, 3) := by decide +kernel
theorem dX4_byLists_15 : decode cX4_byLists 15 = .ok (.getfield 40, 3) := by decide +kernel
theorem dX4_byLists_18 : decode cX4_byLists 18 = .ok (.if_icmp .ge 30, 3) := by decide +kernel
theorem dX4_byLists_21 : decode cX4_byLists 21 = .ok (.iload 4, 2) := by decide +kernel
theorem dX4_byLists_23 : decode cX4_byLists 23 = .ok (.aload_n 3, 1) := by decide +kernel
theorem dX4_byLists_24 : decode cX4_byLists 24 = .ok (.arraylength, 1) := by decide +kernel
theorem dX4_byLists_25 : decode cX4_byLists 25 = .ok (.if_icmp .ge 23, 3) := by decide +kernel
theorem dX4_byLists_28 : decode cX4_byLists 28 = .ok (.aload_n 0, 1) := by decide +kernel
theorem dX4_byLists_29 : decode cX4_byLists 29 = .ok (.getfield 21, 3) := by decide +kernel
theorem dX4_byLists_32 : decode cX4_byLists 32 = .ok (.iload 4, 2) := by decide +kernel
theorem dX4_byLists_34 : decode cX4_byLists 34 = .ok (.dup2, 1) := by decide +kernel
theorem dX4_byLists_35 : decode cX4_byLists 35 = .ok (.iaload, 1) := by decide +kernel
theorem dX4_byLists_36 : decode cX4_byLists 36 = .ok (.aload_n 3, 1) := by decide +kernel
theorem dX4_byLists_37 : decode cX4_byLists 37 = .ok (.iload 4, 2) := by decide +kernel
theorem dX4_byLists_39 : decode cX4_byLists 39 = .ok (.iaload, 1) := by decide +kernel
theorem dX4_byLists_40 : decode cX4_byLists 40 = .ok (.iand, 1) := by decide +kernel
theorem dX4_byLists_41 : decode cX4_byLists 41 = .ok (.iastore, 1) := by decide +kernel
theorem dX4_byLists_42 : decode cX4_byLists 42 = .ok (.iinc 4 1, 3) := by decide +kernel
theorem dX4_byLists_45 : decode cX4_byLists 45 = .ok (.goto (-36), 3) := by decide +kernel
theorem dX4_byLists_48 : decode cX4_byLists 48 = .ok (.return_, 1) := by decide +kernel
noncomputable def f_X4_byLists_L9 (x0 : Nat) (x3 : Nat) (v : (Int32)) (σ : Hp) : Option (((Int32) ⊕ (Unit)) × Hp) := gO (getR shC 4 x0 0 σ) fun v1 => gO (getI shC 1 v1 0 σ) fun v2 => if v2 ≤ v then (some (Sum.inr (), σ)) else (gO (alen shC 0 x3) fun v3 => if v3 ≤ v then (some (Sum.inr (), σ)) else (gO (getR shC 4 x0 2 σ) fun v4 => gO (aldI shC 0 v4 v σ) fun v5 => gO (aldI shC 0 x3 v σ) fun v6 => gO (astI shC 0 v4 v (v5 &&& v6) σ) fun σ7 => some (Sum.inl (v + 1), σ7)))
set_option maxRecDepth 100000 in
set_option maxHeartbeats 4000000 in
theorem t_X4_byLists_L9 {l : Launch} {γ : Gm} {ad : Nat → Nat} {K : Option Value → Hp → Prop}  (hc : Cx l γ 4 5 ad shC RX4 cX4_byLists none K) {x0 : Nat} {x3 : Nat} {v : (Int32)} {σ : Hp} {KX : (Unit) → Hp → Prop} (h : wpO (wh (f_X4_byLists_L9 x0 x3) v σ) KX) (kx48 : ∀ (v : Unit) (σ : Hp), KX v σ → WW l γ 4 5 ad shC 48 [] [] σ) : WW l γ 4 5 ad shC 9 [(0, .ref (ad x0)), (3, .ref (ad x3)), (4, .int v)] [] σ := by
  refine wh_W (P := fun v σ => WW l γ 4 5 ad shC 9 [(0, .ref (ad x0)), (3, .ref (ad x3)), (4, .int v)] [] σ) (fun v σ h => ?_) h
  have kn : ∀ (v : (Int32)) (σ : Hp), WW l γ 4 5 ad shC 9 [(0, .ref (ad x0)), (3, .ref (ad x3)), (4, .int v)] [] σ → WW l γ 4 5 ad shC 9 [(0, .ref (ad x0)), (3, .ref (ad x3)), (4, .int v)] [] σ := fun _ _ h => h
  · unfold f_X4_byLists_L9 at h
    refine r_iload hc 2 rfl dX4_byLists_9 ?_
    refine r_aload_n hc 0 rfl rfl dX4_byLists_11 ?_
    obtain ⟨v1, ev1, h⟩ := wp_g h
    refine r_getR hc ev1 fl_X4_12 rfl dX4_byLists_12 ?_
    obtain ⟨v2, ev2, h⟩ := wp_g h
    refine r_getI hc ev2 fl_X4_40 rfl dX4_byLists_15 ?_
    refine r_icmp_ge hc (tgt := 48) dX4_byLists_18 (by decide) (fun c => ?_) (fun c => ?_)
    · have h := wp_t c h
      refine r_sub [] (lv' := []) rfl ?_
      have h := wp_v h
      exact kx48 () _ h
    · have h := wp_f c h
      refine r_iload hc 2 rfl dX4_byLists_21 ?_
      refine r_aload_n hc 1 rfl rfl dX4_byLists_23 ?_
      obtain ⟨v3, ev3, h⟩ := wp_g h
      refine r_alen hc ev3 dX4_byLists_24 ?_
      refine r_icmp_ge hc (tgt := 48) dX4_byLists_25 (by decide) (fun c => ?_) (fun c => ?_)
      · have h := wp_t c h
        refine r_sub [] (lv' := []) rfl ?_
        have h := wp_v h
        exact kx48 () _ h
      · have h := wp_f c h
        refine r_aload_n hc 0 rfl rfl dX4_byLists_28 ?_
        obtain ⟨v4, ev4, h⟩ := wp_g h
        refine r_getR hc ev4 fl_X4_21 rfl dX4_byLists_29 ?_
        refine r_iload hc 2 rfl dX4_byLists_32 ?_
        refine r_dup2 hc rfl rfl dX4_byLists_34 ?_
        obtain ⟨v5, ev5, h⟩ := wp_g h
        refine r_iald hc ev5 dX4_byLists_35 ?_
        refine r_aload_n hc 1 rfl rfl dX4_byLists_36 ?_
        refine r_iload hc 2 rfl dX4_byLists_37 ?_
        obtain ⟨v6, ev6, h⟩ := wp_g h
        refine r_iald hc ev6 dX4_byLists_39 ?_
        refine r_iand hc dX4_byLists_40 ?_
        obtain ⟨σ7, eσ7, h⟩ := wp_g h
        refine r_iast hc eσ7 dX4_byLists_41 ?_
        refine r_iincE hc (j := 2) (w := 1) (lv' := [(4, .int (v + 1)), (0, .ref (ad x0)), (3, .ref (ad x3))]) rfl (by decide) rfl (by decide) rfl dX4_byLists_42 ?_
        refine r_goto hc (tgt := 9) dX4_byLists_45 (by decide) ?_
        refine r_sub [1, 2, 0] (lv' := [(0, .ref (ad x0)), (3, .ref (ad x3)), (4, .int (v + 1))]) rfl ?_
        have h := wp_v h
        exact kn (v + 1) _ h
noncomputable def f_X4_byLists_b48  (σ : Hp) : Option (Unit × Hp) := some ((), σ)
set_option maxRecDepth 100000 in
set_option maxHeartbeats 4000000 in
theorem t_X4_byLists_b48 {l : Launch} {γ : Gm} {ad : Nat → Nat} {K : Option Value → Hp → Prop} (hc : Cx l γ 4 5 ad shC RX4 cX4_byLists none K)  {σ : Hp} (h : wpO (f_X4_byLists_b48  σ) (KU K)) : WW l γ 4 5 ad shC 48 [] [] σ := by
  unfold f_X4_byLists_b48 at h
  have h := wp_v h
  exact r_vret hc h dX4_byLists_48
noncomputable def f_X4_byLists (x0 : Nat) (x1 : Nat) (x2 : Nat) (x3 : Nat) (σ : Hp) : Option (Unit × Hp) := gO (chk shC x0 4) fun _ => bO (f_X4_freely x0 x1 x2 σ) fun _ σ2 => bO (wh (f_X4_byLists_L9 x0 x3) 0 σ2) fun y4 σ5 => (f_X4_byLists_b48  σ5)
set_option maxRecDepth 100000 in
set_option maxHeartbeats 4000000 in
theorem t_X4_byLists {l : Launch} {γ : Gm} {ad : Nat → Nat} {K : Option Value → Hp → Prop} (hc : Cx l γ 4 5 ad shC RX4 cX4_byLists none K) {x0 : Nat} {x1 : Nat} {x2 : Nat} {x3 : Nat} {σ : Hp} (h : wpO (f_X4_byLists x0 x1 x2 x3 σ) (KU K)) : WW l γ 4 5 ad shC 0 [(0, .ref (ad x0)), (1, .ref (ad x1)), (2, .ref (ad x2)), (3, .ref (ad x3))] [] σ := by
  unfold f_X4_byLists at h
  refine r_aload_n hc 0 rfl rfl dX4_byLists_0 ?_
  refine r_aload_n hc 1 rfl rfl dX4_byLists_1 ?_
  refine r_aload_n hc 2 rfl rfl dX4_byLists_2 ?_
  obtain ⟨_, ek3, h⟩ := wp_g h
  obtain ⟨_, σ2, er1, h⟩ := wp_b h
  refine r_callV hc (k0 := x0) mv_X4_freely ml_X4_51 (c_X4_freely er1) (chk_of ek3) cls_4.1 rfl rfl rfl (by decide) rfl (Nat.le_of_ble_eq_true rfl) dX4_byLists_3 ?_
  refine r_iconst hc (v := 0) (by decide) dX4_byLists_6 ?_
  refine r_istoreE hc (i := 4) (lv' := [(4, .int 0), (0, .ref (ad x0)), (1, .ref (ad x1)), (2, .ref (ad x2)), (3, .ref (ad x3))]) rfl (by decide) rfl dX4_byLists_7 ?_
  refine r_sub [1, 4, 0] (lv' := [(0, .ref (ad x0)), (3, .ref (ad x3)), (4, .int 0)]) rfl ?_
  refine t_X4_byLists_L9 hc (wp_bb h) ?_
  · intro y4 σ5 h
    exact t_X4_byLists_b48 hc h
theorem c_X4_byLists {l : Launch} {x0 : Nat} {x1 : Nat} {x2 : Nat} {x3 : Nat} {σ σ' : Hp} {r : Unit} (h : f_X4_byLists x0 x1 x2 x3 σ = some (r, σ')) : Mt l yX4_byLists cX4_byLists 5 none 4 shC (fun ad => [.ref (ad x0), .ref (ad x1), .ref (ad x2), .ref (ad x3)]) σ (fun ad => none) σ' := mt_i (own := RX4) (by decide) rfl (fun _ => Nat.le_of_ble_eq_true rfl) (fun γ ad K hc hk => t_X4_byLists hc ⟨_, _, h, hk⟩)

-- NetMaps$Search.isUnasked(I)Z
theorem dX4_isUnasked_0 : decode cX4_isUnasked 0 = .ok (.aload_n 0, 1) := by decide +kernel
theorem dX4_isUnasked_1 : decode cX4_isUnasked 1 = .ok (.getfield 61, 3) := by decide +kernel
theorem dX4_isUnasked_4 : decode cX4_isUnasked 4 = .ok (.ifCond .ne 40, 3) := by decide +kernel
theorem dX4_isUnasked_7 : decode cX4_isUnasked 7 = .ok (.aload_n 0, 1) := by decide +kernel
theorem dX4_isUnasked_8 : decode cX4_isUnasked 8 = .ok (.getfield 28, 3) := by decide +kernel
theorem dX4_isUnasked_11 : decode cX4_isUnasked 11 = .ok (.ifCond .ne 33, 3) := by decide +kernel
theorem dX4_isUnasked_14 : decode cX4_isUnasked 14 = .ok (.aload_n 0, 1) := by decide +kernel
theorem dX4_isUnasked_15 : decode cX4_isUnasked 15 = .ok (.getfield 12, 3) := by decide +kernel
theorem dX4_isUnasked_18 : decode cX4_isUnasked 18 = .ok (.getfield 64, 3) := by decide +kernel
theorem dX4_isUnasked_21 : decode cX4_isUnasked 21 = .ok (.iload_n 1, 1) := by decide +kernel
theorem dX4_isUnasked_22 : decode cX4_isUnasked 22 = .ok (.iaload, 1) := by decide +kernel
theorem dX4_isUnasked_23 : decode cX4_isUnasked 23 = .ok (.aload_n 0, 1) := by decide +kernel
theorem dX4_isUnasked_24 : decode cX4_isUnasked 24 = .ok (.getfield 12, 3) := by decide +kernel
theorem dX4_isUnasked_27 : decode cX4_isUnasked 27 = .ok (.getfield 67, 3) := by decide +kernel
theorem dX4_isUnasked_30 : decode cX4_isUnasked 30 = .ok (.iload_n 1, 1) := by decide +kernel
theorem dX4_isUnasked_31 : decode cX4_isUnasked 31 = .ok (.iaload, 1) := by decide +kernel
theorem dX4_isUnasked_32 : decode cX4_isUnasked 32 = .ok (.ior, 1) := by decide +kernel
theorem dX4_isUnasked_33 : decode cX4_isUnasked 33 = .ok (.iload_n 1, 1) := by decide +kernel
theorem dX4_isUnasked_34 : decode cX4_isUnasked 34 = .ok (.ishr, 1) := by decide +kernel
theorem dX4_isUnasked_35 : decode cX4_isUnasked 35 = .ok (.iconst 1, 1) := by decide +kernel
theorem dX4_isUnasked_36 : decode cX4_isUnasked 36 = .ok (.ishr, 1) := by decide +kernel
theorem dX4_isUnasked_37 : decode cX4_isUnasked 37 = .ok (.ifCond .ne 7, 3) := by decide +kernel
theorem dX4_isUnasked_40 : decode cX4_isUnasked 40 = .ok (.iconst 1, 1) := by decide +kernel
theorem dX4_isUnasked_41 : decode cX4_isUnasked 41 = .ok (.goto 4, 3) := by decide +kernel
theorem dX4_isUnasked_44 : decode cX4_isUnasked 44 = .ok (.iconst 0, 1) := by decide +kernel
theorem dX4_isUnasked_45 : decode cX4_isUnasked 45 = .ok (.ireturn, 1) := by decide +kernel
noncomputable def f_X4_isUnasked_b45 (s0 : Int32) (σ : Hp) : Option (Int32 × Hp) := gO (zz s0) fun _ => some (s0, σ)
set_option maxRecDepth 100000 in
set_option maxHeartbeats 4000000 in
theorem t_X4_isUnasked_b45 {l : Launch} {γ : Gm} {ad : Nat → Nat} {K : Option Value → Hp → Prop} (hc : Cx l γ 1 2 ad shC RX4 cX4_isUnasked (some .boolean) K) {s0 : Int32} {σ : Hp} (h : wpO (f_X4_isUnasked_b45 s0 σ) (KI K)) : WW l γ 1 2 ad shC 45 [] [.int s0] σ := by
  unfold f_X4_isUnasked_b45 at h
  obtain ⟨_, ek1, h⟩ := wp_g h
  have h := wp_v h
  exact r_zret hc h (zz_of ek1) dX4_isUnasked_45
noncomputable def f_X4_isUnasked_b44  (σ : Hp) : Option (Int32 × Hp) := f_X4_isUnasked_b45 0 σ
set_option maxRecDepth 100000 in
set_option maxHeartbeats 4000000 in
theorem t_X4_isUnasked_b44 {l : Launch} {γ : Gm} {ad : Nat → Nat} {K : Option Value → Hp → Prop} (hc : Cx l γ 1 2 ad shC RX4 cX4_isUnasked (some .boolean) K)  {σ : Hp} (h : wpO (f_X4_isUnasked_b44  σ) (KI K)) : WW l γ 1 2 ad shC 44 [] [] σ := by
  unfold f_X4_isUnasked_b44 at h
  refine r_iconst hc (v := 0) (by decide) dX4_isUnasked_44 ?_
  exact t_X4_isUnasked_b45 hc h
noncomputable def f_X4_isUnasked (x0 : Nat) (x1 : Int32) (σ : Hp) : Option (Int32 × Hp) := gO (getI shC 4 x0 7 σ) fun v1 => if v1 = 0 then (gO (getI shC 4 x0 8 σ) fun v2 => if v2 = 0 then (gO (getR shC 4 x0 0 σ) fun v3 => gO (getR shC 1 v3 1 σ) fun v4 => gO (aldI shC 0 v4 x1 σ) fun v5 => gO (getR shC 4 x0 0 σ) fun v6 => gO (getR shC 1 v6 2 σ) fun v7 => gO (aldI shC 0 v7 x1 σ) fun v8 => if (((v5 ||| v8) >>> (x1 &&& 31)) >>> (1 &&& 31)) = 0 then (f_X4_isUnasked_b45 1 σ) else (f_X4_isUnasked_b44  σ)) else (f_X4_isUnasked_b44  σ)) else (f_X4_isUnasked_b44  σ)
set_option maxRecDepth 100000 in
set_option maxHeartbeats 4000000 in
theorem t_X4_isUnasked {l : Launch} {γ : Gm} {ad : Nat → Nat} {K : Option Value → Hp → Prop} (hc : Cx l γ 1 2 ad shC RX4 cX4_isUnasked (some .boolean) K) {x0 : Nat} {x1 : Int32} {σ : Hp} (h : wpO (f_X4_isUnasked x0 x1 σ) (KI K)) : WW l γ 1 2 ad shC 0 [(0, .ref (ad x0)), (1, .int x1)] [] σ := by
  unfold f_X4_isUnasked at h
  refine r_aload_n hc 0 rfl rfl dX4_isUnasked_0 ?_
  obtain ⟨v1, ev1, h⟩ := wp_g h
  refine r_getI hc ev1 fl_X4_61 rfl dX4_isUnasked_1 ?_
  refine r_if_ne hc (tgt := 44) dX4_isUnasked_4 (by decide) (fun c => ?_) (fun c => ?_)
  · have h := wp_f c h
    refine r_sub [] (lv' := []) rfl ?_
    exact t_X4_isUnasked_b44 hc h
  · have h := wp_t c h
    refine r_aload_n hc 0 rfl rfl dX4_isUnasked_7 ?_
    obtain ⟨v2, ev2, h⟩ := wp_g h
    refine r_getI hc ev2 fl_X4_28 rfl dX4_isUnasked_8 ?_
    refine r_if_ne hc (tgt := 44) dX4_isUnasked_11 (by decide) (fun c => ?_) (fun c => ?_)
    · have h := wp_f c h
      refine r_sub [] (lv' := []) rfl ?_
      exact t_X4_isUnasked_b44 hc h
    · have h := wp_t c h
      refine r_aload_n hc 0 rfl rfl dX4_isUnasked_14 ?_
      obtain ⟨v3, ev3, h⟩ := wp_g h
      refine r_getR hc ev3 fl_X4_12 rfl dX4_isUnasked_15 ?_
      obtain ⟨v4, ev4, h⟩ := wp_g h
      refine r_getR hc ev4 fl_X4_64 rfl dX4_isUnasked_18 ?_
      refine r_iload_n hc 1 rfl rfl dX4_isUnasked_21 ?_
      obtain ⟨v5, ev5, h⟩ := wp_g h
      refine r_iald hc ev5 dX4_isUnasked_22 ?_
      refine r_aload_n hc 0 rfl rfl dX4_isUnasked_23 ?_
      obtain ⟨v6, ev6, h⟩ := wp_g h
      refine r_getR hc ev6 fl_X4_12 rfl dX4_isUnasked_24 ?_
      obtain ⟨v7, ev7, h⟩ := wp_g h
      refine r_getR hc ev7 fl_X4_67 rfl dX4_isUnasked_27 ?_
      refine r_iload_n hc 1 rfl rfl dX4_isUnasked_30 ?_
      obtain ⟨v8, ev8, h⟩ := wp_g h
      refine r_iald hc ev8 dX4_isUnasked_31 ?_
      refine r_ior hc dX4_isUnasked_32 ?_
      refine r_iload_n hc 1 rfl rfl dX4_isUnasked_33 ?_
      refine r_ishr hc dX4_isUnasked_34 ?_
      refine r_iconst hc (v := 1) (by decide) dX4_isUnasked_35 ?_
      refine r_ishr hc dX4_isUnasked_36 ?_
      refine r_if_ne hc (tgt := 44) dX4_isUnasked_37 (by decide) (fun c => ?_) (fun c => ?_)
      · have h := wp_f c h
        refine r_sub [] (lv' := []) rfl ?_
        exact t_X4_isUnasked_b44 hc h
      · have h := wp_t c h
        refine r_iconst hc (v := 1) (by decide) dX4_isUnasked_40 ?_
        refine r_goto hc (tgt := 45) dX4_isUnasked_41 (by decide) ?_
        refine r_sub [] (lv' := []) rfl ?_
        exact t_X4_isUnasked_b45 hc h
theorem c_X4_isUnasked {l : Launch} {x0 : Nat} {x1 : Int32} {σ σ' : Hp} {r : Int32} (h : f_X4_isUnasked x0 x1 σ = some (r, σ')) : Mt l yX4_isUnasked cX4_isUnasked 2 (some .boolean) 1 shC (fun ad => [.ref (ad x0), .int x1]) σ (fun ad => some (.int r)) σ' := mt_i (own := RX4) (by decide) rfl (fun _ => Nat.le_of_ble_eq_true rfl) (fun γ ad K hc hk => t_X4_isUnasked hc ⟨_, _, h, hk⟩)

-- NetMaps$Search.manyFrom(LNetMaps$Search;II)I
theorem dX4_manyFrom_0 : decode cX4_manyFrom 0 = .ok (.iload_n 1, 1) := by decide +kernel
theorem dX4_manyFrom_1 : decode cX4_manyFrom 1 = .ok (.aload_n 0, 1) := by decide +kernel
theorem dX4_manyFrom_2 : decode cX4_manyFrom 2 = .ok (.getfield 12, 3) := by decide +kernel
theorem dX4_manyFrom_5 : decode cX4_manyFrom 5 = .ok (.getfield 40, 3) := by decide +kernel
theorem dX4_manyFrom_8 : decode cX4_manyFrom 8 = .ok (.if_icmp .lt 5, 3) := by decide +kernel
theorem dX4_manyFrom_11 : decode cX4_manyFrom 11 = .ok (.iconst 1, 1) := by decide +kernel
theorem dX4_manyFrom_12 : decode cX4_manyFrom 12 = .ok (.ireturn, 1) := by decide +kernel
theorem dX4_manyFrom_13 : decode cX4_manyFrom 13 = .ok (.aload_n 0, 1) := by decide +kernel
theorem dX4_manyFrom_14 : decode cX4_manyFrom 14 = .ok (.iload_n 1, 1) := by decide +kernel
theorem dX4_manyFrom_15 : decode cX4_manyFrom 15 = .ok (.iload_n 2, 1) := by decide +kernel
theorem dX4_manyFrom_16 : decode cX4_manyFrom 16 = .ok (.invokevirtual 86, 3) := by decide +kernel
theorem dX4_manyFrom_19 : decode cX4_manyFrom 19 = .ok (.istore_n 3, 1) := by decide +kernel
theorem dX4_manyFrom_20 : decode cX4_manyFrom 20 = .ok (.aload_n 0, 1) := by decide +kernel
theorem dX4_manyFrom_21 : decode cX4_manyFrom 21 = .ok (.iload_n 1, 1) := by decide +kernel
theorem dX4_manyFrom_22 : decode cX4_manyFrom 22 = .ok (.invokevirtual 97, 3) := by decide +kernel
theorem dX4_manyFrom_25 : decode cX4_manyFrom 25 = .ok (.ifCond .eq 25, 3) := by decide +kernel
theorem dX4_manyFrom_28 : decode cX4_manyFrom 28 = .ok (.iload_n 3, 1) := by decide +kernel
theorem dX4_manyFrom_29 : decode cX4_manyFrom 29 = .ok (.ifCond .ne 7, 3) := by decide +kernel
theorem dX4_manyFrom_32 : decode cX4_manyFrom 32 = .ok (.iconst 0, 1) := by decide +kernel
theorem dX4_manyFrom_33 : decode cX4_manyFrom 33 = .ok (.goto 16, 3) := by decide +kernel
theorem dX4_manyFrom_36 : decode cX4_manyFrom 36 = .ok (.iload_n 3, 1) := by decide +kernel
theorem dX4_manyFrom_37 : decode cX4_manyFrom 37 = .ok (.invokestatic 73, 3) := by decide +kernel
theorem dX4_manyFrom_40 : decode cX4_manyFrom 40 = .ok (.aload_n 0, 1) := by decide +kernel
theorem dX4_manyFrom_41 : decode cX4_manyFrom 41 = .ok (.iload_n 1, 1) := by decide +kernel
theorem dX4_manyFrom_42 : decode cX4_manyFrom 42 = .ok (.iconst 1, 1) := by decide +kernel
theorem dX4_manyFrom_43 : decode cX4_manyFrom 43 = .ok (.iadd, 1) := by decide +kernel
theorem dX4_manyFrom_44 : decode cX4_manyFrom 44 = .ok (.iload_n 2, 1) := by decide +kernel
theorem dX4_manyFrom_45 : decode cX4_manyFrom 45 = .ok (.invokestatic 93, 3) := by decide +kernel
theorem dX4_manyFrom_48 : decode cX4_manyFrom 48 = .ok (.imul, 1) := by decide +kernel
theorem dX4_manyFrom_49 : decode cX4_manyFrom 49 = .ok (.ireturn, 1) := by decide +kernel
theorem dX4_manyFrom_50 : decode cX4_manyFrom 50 = .ok (.iconst 0, 1) := by decide +kernel
theorem dX4_manyFrom_51 : decode cX4_manyFrom 51 = .ok (.istore 4, 2) := by decide +kernel
theorem dX4_manyFrom_53 : decode cX4_manyFrom 53 = .ok (.iconst 0, 1) := by decide +kernel
theorem dX4_manyFrom_54 : decode cX4_manyFrom 54 = .ok (.istore 5, 2) := by decide +kernel
theorem dX4_manyFrom_56 : decode cX4_manyFrom 56 = .ok (.iload 5, 2) := by decide +kernel
theorem dX4_manyFrom_58 : decode cX4_manyFrom 58 = .ok (.aload_n 0, 1) := by decide +kernel
theorem dX4_manyFrom_59 : decode cX4_manyFrom 59 = .ok (.getfield 18, 3) := by decide +kernel
theorem dX4_manyFrom_62 : decode cX4_manyFrom 62 = .ok (.getfield 40, 3) := by decide +kernel
theorem dX4_manyFrom_65 : decode cX4_manyFrom 65 = .ok (.if_icmp .ge 58, 3) := by decide +kernel
theorem dX4_manyFrom_68 : decode cX4_manyFrom 68 = .ok (.iload_n 2, 1) := by decide +kernel
theorem dX4_manyFrom_69 : decode cX4_manyFrom 69 = .ok (.iconst 1, 1) := by decide +kernel
theorem dX4_manyFrom_70 : decode cX4_manyFrom 70 = .ok (.iload 5, 2) := by decide +kernel
theorem dX4_manyFrom_72 : decode cX4_manyFrom 72 = .ok (.ishl, 1) := by decide +kernel
theorem dX4_manyFrom_73 : decode cX4_manyFrom 73 = .ok (.ior, 1) := by decide +kernel
theorem dX4_manyFrom_74 : decode cX4_manyFrom 74 = .ok (.istore 6, 2) := by decide +kernel
theorem dX4_manyFrom_76 : decode cX4_manyFrom 76 = .ok (.iload_n 3, 1) := by decide +kernel
theorem dX4_manyFrom_77 : decode cX4_manyFrom 77 = .ok (.iload 5, 2) := by decide +kernel
theorem dX4_manyFrom_79 : decode cX4_manyFrom 79 = .ok (.invokestatic 70, 3) := by decide +kernel
theorem dX4_manyFrom_82 : decode cX4_manyFrom 82 = .ok (.ifCond .eq 35, 3) := by decide +kernel
theorem dX4_manyFrom_85 : decode cX4_manyFrom 85 = .ok (.aload_n 0, 1) := by decide +kernel
theorem dX4_manyFrom_86 : decode cX4_manyFrom 86 = .ok (.iload_n 1, 1) := by decide +kernel
theorem dX4_manyFrom_87 : decode cX4_manyFrom 87 = .ok (.iload 6, 2) := by decide +kernel
theorem dX4_manyFrom_89 : decode cX4_manyFrom 89 = .ok (.invokevirtual 90, 3) := by decide +kernel
theorem dX4_manyFrom_92 : decode cX4_manyFrom 92 = .ok (.ifCond .eq 25, 3) := by decide +kernel
theorem dX4_manyFrom_95 : decode cX4_manyFrom 95 = .ok (.aload_n 0, 1) := by decide +kernel
theorem dX4_manyFrom_96 : decode cX4_manyFrom 96 = .ok (.getfield 25, 3) := by decide +kernel
theorem dX4_manyFrom_99 : decode cX4_manyFrom 99 = .ok (.iload_n 1, 1) := by decide +kernel
theorem dX4_manyFrom_100 : decode cX4_manyFrom 100 = .ok (.iload 5, 2) := by decide +kernel
theorem dX4_manyFrom_102 : decode cX4_manyFrom 102 = .ok (.iastore, 1) := by decide +kernel
theorem dX4_manyFrom_103 : decode cX4_manyFrom 103 = .ok (.iload 4, 2) := by decide +kernel
theorem dX4_manyFrom_105 : decode cX4_manyFrom 105 = .ok (.aload_n 0, 1) := by decide +kernel
theorem dX4_manyFrom_106 : decode cX4_manyFrom 106 = .ok (.iload_n 1, 1) := by decide +kernel
theorem dX4_manyFrom_107 : decode cX4_manyFrom 107 = .ok (.iconst 1, 1) := by decide +kernel
theorem dX4_manyFrom_108 : decode cX4_manyFrom 108 = .ok (.iadd, 1) := by decide +kernel
theorem dX4_manyFrom_109 : decode cX4_manyFrom 109 = .ok (.iload 6, 2) := by decide +kernel
theorem dX4_manyFrom_111 : decode cX4_manyFrom 111 = .ok (.invokestatic 93, 3) := by decide +kernel
theorem dX4_manyFrom_114 : decode cX4_manyFrom 114 = .ok (.iadd, 1) := by decide +kernel
theorem dX4_manyFrom_115 : decode cX4_manyFrom 115 = .ok (.istore 4, 2) := by decide +kernel
theorem dX4_manyFrom_117 : decode cX4_manyFrom 117 = .ok (.iinc 5 1, 3) := by decide +kernel
theorem dX4_manyFrom_120 : decode cX4_manyFrom 120 = .ok (.goto (-64), 3) := by decide +kernel
theorem dX4_manyFrom_123 : decode cX4_manyFrom 123 = .ok (.iload 4, 2) := by decide +kernel
theorem dX4_manyFrom_125 : decode cX4_manyFrom 125 = .ok (.ireturn, 1) := by decide +kernel
noncomputable def f_X4_manyFrom_b117 (rec : Nat → Int32 → Int32 → Hp → Option (Int32 × Hp)) (x0 : Nat) (x1 : Int32) (x2 : Int32) (x3 : Int32) (x4 : Int32) (x5 : Int32) (σ : Hp) : Option (((Int32 × Int32) ⊕ (Int32)) × Hp) := some (Sum.inl (x4, (x5 + 1)), σ)
set_option maxRecDepth 100000 in
set_option maxHeartbeats 4000000 in
theorem t_X4_manyFrom_b117 {l : Launch} {γ : Gm} {ad : Nat → Nat} {K : Option Value → Hp → Prop} {n : Nat} (hc : Cx l γ (2 + n + 1) 7 ad shC RX4 cX4_manyFrom (some .int) K) {rec : Nat → Int32 → Int32 → Hp → Option (Int32 × Hp)} (hrec : ∀ (x0 : Nat) (x1 : Int32) (x2 : Int32) (σ σ' : Hp) (r : Int32), rec x0 x1 x2 σ = some (r, σ') → Mt l yX4_manyFrom cX4_manyFrom 7 (some .int) (2 + n) shC (fun ad => [.ref (ad x0), .int x1, .int x2]) σ (fun ad => some (.int r)) σ') {x0 : Nat} {x1 : Int32} {x2 : Int32} {x3 : Int32} {x4 : Int32} {x5 : Int32}  {σ : Hp} {KL : ((Int32 × Int32) ⊕ (Int32)) → Hp → Prop} (h : wpO (f_X4_manyFrom_b117 rec x0 x1 x2 x3 x4 x5 σ) KL) (kn : ∀ (v : (Int32 × Int32)) (σ : Hp), KL (Sum.inl v) σ → WW l γ (2 + n + 1) 7 ad shC 56 [(0, .ref (ad x0)), (1, .int x1), (2, .int x2), (3, .int x3), (4, .int v.1), (5, .int v.2)] [] σ) (kx123 : ∀ (v : Int32) (σ : Hp), KL (Sum.inr v) σ → WW l γ (2 + n + 1) 7 ad shC 123 [(4, .int v)] [] σ) : WW l γ (2 + n + 1) 7 ad shC 117 [(0, .ref (ad x0)), (1, .int x1), (2, .int x2), (3, .int x3), (4, .int x4), (5, .int x5)] [] σ := by
  unfold f_X4_manyFrom_b117 at h
  refine r_iincE hc (j := 5) (w := 1) (lv' := [(5, .int (x5 + 1)), (0, .ref (ad x0)), (1, .int x1), (2, .int x2), (3, .int x3), (4, .int x4)]) rfl (by decide) rfl (by decide) rfl dX4_manyFrom_117 ?_
  refine r_goto hc (tgt := 56) dX4_manyFrom_120 (by decide) ?_
  refine r_sub [1, 2, 3, 4, 5, 0] (lv' := [(0, .ref (ad x0)), (1, .int x1), (2, .int x2), (3, .int x3), (4, .int x4), (5, .int (x5 + 1))]) rfl ?_
  have h := wp_v h
  exact kn (x4, (x5 + 1)) _ h
noncomputable def f_X4_manyFrom_L56 (rec : Nat → Int32 → Int32 → Hp → Option (Int32 × Hp)) (x0 : Nat) (x1 : Int32) (x2 : Int32) (x3 : Int32) (v : (Int32 × Int32)) (σ : Hp) : Option (((Int32 × Int32) ⊕ (Int32)) × Hp) := gO (getR shC 4 x0 1 σ) fun v1 => gO (getI shC 1 v1 0 σ) fun v2 => if v2 ≤ v.2 then (some (Sum.inr v.1, σ)) else (lt' ((x2 ||| ((1 : Int32) <<< (v.2 &&& 31)))) fun t3 => bO (f_X6_has x3 v.2 σ) fun r4 σ5 => if r4 = 0 then (f_X4_manyFrom_b117 rec x0 x1 x2 x3 v.1 v.2 σ5) else (gO (chk shC x0 4) fun _ => bO (f_X4_inBounds x0 x1 t3 σ5) fun r6 σ7 => if r6 = 0 then (f_X4_manyFrom_b117 rec x0 x1 x2 x3 v.1 v.2 σ7) else (gO (getR shC 4 x0 3 σ7) fun v9 => gO (astI shC 0 v9 x1 v.2 σ7) fun σ10 => bO (rec x0 (x1 + 1) t3 σ10) fun r11 σ12 => f_X4_manyFrom_b117 rec x0 x1 x2 x3 (v.1 + r11) v.2 σ12)))
set_option maxRecDepth 100000 in
set_option maxHeartbeats 4000000 in
theorem t_X4_manyFrom_L56 {l : Launch} {γ : Gm} {ad : Nat → Nat} {K : Option Value → Hp → Prop} {n : Nat} (hc : Cx l γ (2 + n + 1) 7 ad shC RX4 cX4_manyFrom (some .int) K) {rec : Nat → Int32 → Int32 → Hp → Option (Int32 × Hp)} (hrec : ∀ (x0 : Nat) (x1 : Int32) (x2 : Int32) (σ σ' : Hp) (r : Int32), rec x0 x1 x2 σ = some (r, σ') → Mt l yX4_manyFrom cX4_manyFrom 7 (some .int) (2 + n) shC (fun ad => [.ref (ad x0), .int x1, .int x2]) σ (fun ad => some (.int r)) σ') {x0 : Nat} {x1 : Int32} {x2 : Int32} {x3 : Int32} {v : (Int32 × Int32)} {σ : Hp} {KX : (Int32) → Hp → Prop} (h : wpO (wh (f_X4_manyFrom_L56 rec x0 x1 x2 x3) v σ) KX) (kx123 : ∀ (v : Int32) (σ : Hp), KX v σ → WW l γ (2 + n + 1) 7 ad shC 123 [(4, .int v)] [] σ) : WW l γ (2 + n + 1) 7 ad shC 56 [(0, .ref (ad x0)), (1, .int x1), (2, .int x2), (3, .int x3), (4, .int v.1), (5, .int v.2)] [] σ := by
  refine wh_W (P := fun v σ => WW l γ (2 + n + 1) 7 ad shC 56 [(0, .ref (ad x0)), (1, .int x1), (2, .int x2), (3, .int x3), (4, .int v.1), (5, .int v.2)] [] σ) (fun v σ h => ?_) h
  have kn : ∀ (v : (Int32 × Int32)) (σ : Hp), WW l γ (2 + n + 1) 7 ad shC 56 [(0, .ref (ad x0)), (1, .int x1), (2, .int x2), (3, .int x3), (4, .int v.1), (5, .int v.2)] [] σ → WW l γ (2 + n + 1) 7 ad shC 56 [(0, .ref (ad x0)), (1, .int x1), (2, .int x2), (3, .int x3), (4, .int v.1), (5, .int v.2)] [] σ := fun _ _ h => h
  · unfold f_X4_manyFrom_L56 at h
    refine r_iload hc 5 rfl dX4_manyFrom_56 ?_
    refine r_aload_n hc 0 rfl rfl dX4_manyFrom_58 ?_
    obtain ⟨v1, ev1, h⟩ := wp_g h
    refine r_getR hc ev1 fl_X4_18 rfl dX4_manyFrom_59 ?_
    obtain ⟨v2, ev2, h⟩ := wp_g h
    refine r_getI hc ev2 fl_X4_40 rfl dX4_manyFrom_62 ?_
    refine r_icmp_ge hc (tgt := 123) dX4_manyFrom_65 (by decide) (fun c => ?_) (fun c => ?_)
    · have h := wp_t c h
      refine r_sub [4] (lv' := [(4, .int v.1)]) rfl ?_
      have h := wp_v h
      exact kx123 v.1 _ h
    · have h := wp_f c h
      refine r_iload_n hc 2 rfl rfl dX4_manyFrom_68 ?_
      refine r_iconst hc (v := 1) (by decide) dX4_manyFrom_69 ?_
      refine r_iload hc 5 rfl dX4_manyFrom_70 ?_
      refine r_ishl hc dX4_manyFrom_72 ?_
      refine r_ior hc dX4_manyFrom_73 ?_
      obtain ⟨t3, et3, h⟩ := wp_l h
      refine r_istoreE hc (i := 6) (lv' := [(6, .int t3), (0, .ref (ad x0)), (1, .int x1), (2, .int x2), (3, .int x3), (4, .int v.1), (5, .int v.2)]) et3 (by decide) rfl dX4_manyFrom_74 ?_
      refine r_iload_n hc 4 rfl rfl dX4_manyFrom_76 ?_
      refine r_iload hc 6 rfl dX4_manyFrom_77 ?_
      obtain ⟨r4, σ5, er4, h⟩ := wp_b h
      refine r_callSN hc ms_X6_has nl_X4_70 (c_X6_has er4) rfl rfl (by omega) rfl (Nat.le_of_ble_eq_true rfl) dX4_manyFrom_79 ?_
      refine r_if_eq hc (tgt := 117) dX4_manyFrom_82 (by decide) (fun c => ?_) (fun c => ?_)
      · have h := wp_t c h
        refine r_sub [1, 2, 3, 4, 5, 6] (lv' := [(0, .ref (ad x0)), (1, .int x1), (2, .int x2), (3, .int x3), (4, .int v.1), (5, .int v.2)]) rfl ?_
        exact t_X4_manyFrom_b117 hc hrec h kn kx123
      · have h := wp_f c h
        refine r_aload_n hc 1 rfl rfl dX4_manyFrom_85 ?_
        refine r_iload_n hc 2 rfl rfl dX4_manyFrom_86 ?_
        refine r_iload hc 0 rfl dX4_manyFrom_87 ?_
        obtain ⟨_, ek8, h⟩ := wp_g h
        obtain ⟨r6, σ7, er6, h⟩ := wp_b h
        refine r_callV hc (k0 := x0) mv_X4_inBounds ml_X4_90 (c_X4_inBounds er6) (chk_of ek8) cls_4.1 rfl rfl rfl (by omega) rfl (Nat.le_of_ble_eq_true rfl) dX4_manyFrom_89 ?_
        refine r_if_eq hc (tgt := 117) dX4_manyFrom_92 (by decide) (fun c => ?_) (fun c => ?_)
        · have h := wp_t c h
          refine r_sub [1, 2, 3, 4, 5, 6] (lv' := [(0, .ref (ad x0)), (1, .int x1), (2, .int x2), (3, .int x3), (4, .int v.1), (5, .int v.2)]) rfl ?_
          exact t_X4_manyFrom_b117 hc hrec h kn kx123
        · have h := wp_f c h
          refine r_aload_n hc 1 rfl rfl dX4_manyFrom_95 ?_
          obtain ⟨v9, ev9, h⟩ := wp_g h
          refine r_getR hc ev9 fl_X4_25 rfl dX4_manyFrom_96 ?_
          refine r_iload_n hc 2 rfl rfl dX4_manyFrom_99 ?_
          refine r_iload hc 6 rfl dX4_manyFrom_100 ?_
          obtain ⟨σ10, eσ10, h⟩ := wp_g h
          refine r_iast hc eσ10 dX4_manyFrom_102 ?_
          refine r_iload hc 5 rfl dX4_manyFrom_103 ?_
          refine r_aload_n hc 1 rfl rfl dX4_manyFrom_105 ?_
          refine r_iload_n hc 2 rfl rfl dX4_manyFrom_106 ?_
          refine r_iconst hc (v := 1) (by decide) dX4_manyFrom_107 ?_
          refine r_iadd hc dX4_manyFrom_108 ?_
          refine r_iload hc 0 rfl dX4_manyFrom_109 ?_
          obtain ⟨r11, σ12, er11, h⟩ := wp_b h
          refine r_callS hc ms_X4_manyFrom ml_X4_93 (hrec _ _ _ _ _ _ er11) rfl rfl (by omega) rfl (Nat.le_of_ble_eq_true rfl) dX4_manyFrom_111 ?_
          refine r_iadd hc dX4_manyFrom_114 ?_
          refine r_istoreE hc (i := 4) (lv' := [(4, .int (v.1 + r11)), (6, .int t3), (0, .ref (ad x0)), (1, .int x1), (2, .int x2), (3, .int x3), (5, .int v.2)]) rfl (by decide) rfl dX4_manyFrom_115 ?_
          refine r_sub [2, 3, 4, 5, 0, 6] (lv' := [(0, .ref (ad x0)), (1, .int x1), (2, .int x2), (3, .int x3), (4, .int (v.1 + r11)), (5, .int v.2)]) rfl ?_
          exact t_X4_manyFrom_b117 hc hrec h kn kx123
noncomputable def f_X4_manyFrom_b49 (rec : Nat → Int32 → Int32 → Hp → Option (Int32 × Hp)) (s0 : Int32) (σ : Hp) : Option (Int32 × Hp) := some (s0, σ)
set_option maxRecDepth 100000 in
set_option maxHeartbeats 4000000 in
theorem t_X4_manyFrom_b49 {l : Launch} {γ : Gm} {ad : Nat → Nat} {K : Option Value → Hp → Prop} {n : Nat} (hc : Cx l γ (2 + n + 1) 7 ad shC RX4 cX4_manyFrom (some .int) K) {rec : Nat → Int32 → Int32 → Hp → Option (Int32 × Hp)} (hrec : ∀ (x0 : Nat) (x1 : Int32) (x2 : Int32) (σ σ' : Hp) (r : Int32), rec x0 x1 x2 σ = some (r, σ') → Mt l yX4_manyFrom cX4_manyFrom 7 (some .int) (2 + n) shC (fun ad => [.ref (ad x0), .int x1, .int x2]) σ (fun ad => some (.int r)) σ') {s0 : Int32} {σ : Hp} (h : wpO (f_X4_manyFrom_b49 rec s0 σ) (KI K)) : WW l γ (2 + n + 1) 7 ad shC 49 [] [.int s0] σ := by
  unfold f_X4_manyFrom_b49 at h
  have h := wp_v h
  exact r_iret hc h dX4_manyFrom_49
noncomputable def f_X4_manyFrom_body (rec : Nat → Int32 → Int32 → Hp → Option (Int32 × Hp)) (x0 : Nat) (x1 : Int32) (x2 : Int32) (σ : Hp) : Option (Int32 × Hp) := gO (getR shC 4 x0 0 σ) fun v1 => gO (getI shC 1 v1 0 σ) fun v2 => if x1 < v2 then (gO (chk shC x0 4) fun _ => bO (f_X4_choices x0 x1 x2 σ) fun r3 σ4 => gO (chk shC x0 4) fun _ => bO (f_X4_isUnasked x0 x1 σ4) fun r6 σ7 => if r6 = 0 then (bO (wh (f_X4_manyFrom_L56 rec x0 x1 x2 r3) (0, 0) σ7) fun y9 σ10 => (some (y9, σ10))) else (if r3 = 0 then (f_X4_manyFrom_b49 rec 0 σ7) else (bO (f_J6_bitCount_0f7a4 shC r3 σ7) fun r11 σ12 => bO (rec x0 (x1 + 1) x2 σ12) fun r13 σ14 => f_X4_manyFrom_b49 rec (r11 * r13) σ14))) else (some (1, σ))
set_option maxRecDepth 100000 in
set_option maxHeartbeats 4000000 in
theorem t_X4_manyFrom {l : Launch} {γ : Gm} {ad : Nat → Nat} {K : Option Value → Hp → Prop} {n : Nat} (hc : Cx l γ (2 + n + 1) 7 ad shC RX4 cX4_manyFrom (some .int) K) {rec : Nat → Int32 → Int32 → Hp → Option (Int32 × Hp)} (hrec : ∀ (x0 : Nat) (x1 : Int32) (x2 : Int32) (σ σ' : Hp) (r : Int32), rec x0 x1 x2 σ = some (r, σ') → Mt l yX4_manyFrom cX4_manyFrom 7 (some .int) (2 + n) shC (fun ad => [.ref (ad x0), .int x1, .int x2]) σ (fun ad => some (.int r)) σ') {x0 : Nat} {x1 : Int32} {x2 : Int32} {σ : Hp} (h : wpO (f_X4_manyFrom_body rec x0 x1 x2 σ) (KI K)) : WW l γ (2 + n + 1) 7 ad shC 0 [(0, .ref (ad x0)), (1, .int x1), (2, .int x2)] [] σ := by
  unfold f_X4_manyFrom_body at h
  refine r_iload_n hc 1 rfl rfl dX4_manyFrom_0 ?_
  refine r_aload_n hc 0 rfl rfl dX4_manyFrom_1 ?_
  obtain ⟨v1, ev1, h⟩ := wp_g h
  refine r_getR hc ev1 fl_X4_12 rfl dX4_manyFrom_2 ?_
  obtain ⟨v2, ev2, h⟩ := wp_g h
  refine r_getI hc ev2 fl_X4_40 rfl dX4_manyFrom_5 ?_
  refine r_icmp_lt hc (tgt := 13) dX4_manyFrom_8 (by decide) (fun c => ?_) (fun c => ?_)
  · have h := wp_t c h
    refine r_aload_n hc 0 rfl rfl dX4_manyFrom_13 ?_
    refine r_iload_n hc 1 rfl rfl dX4_manyFrom_14 ?_
    refine r_iload_n hc 2 rfl rfl dX4_manyFrom_15 ?_
    obtain ⟨_, ek5, h⟩ := wp_g h
    obtain ⟨r3, σ4, er3, h⟩ := wp_b h
    refine r_callV hc (k0 := x0) mv_X4_choices ml_X4_86 (c_X4_choices er3) (chk_of ek5) cls_4.1 rfl rfl rfl (by omega) rfl (Nat.le_of_ble_eq_true rfl) dX4_manyFrom_16 ?_
    refine r_istore_nE hc (i := 3) (lv' := [(3, .int r3), (0, .ref (ad x0)), (1, .int x1), (2, .int x2)]) rfl rfl (by decide) rfl dX4_manyFrom_19 ?_
    refine r_aload_n hc 1 rfl rfl dX4_manyFrom_20 ?_
    refine r_iload_n hc 2 rfl rfl dX4_manyFrom_21 ?_
    obtain ⟨_, ek8, h⟩ := wp_g h
    obtain ⟨r6, σ7, er6, h⟩ := wp_b h
    refine r_callV hc (k0 := x0) mv_X4_isUnasked ml_X4_97 (c_X4_isUnasked er6) (chk_of ek8) cls_4.1 rfl rfl rfl (by omega) rfl (Nat.le_of_ble_eq_true rfl) dX4_manyFrom_22 ?_
    refine r_if_eq hc (tgt := 50) dX4_manyFrom_25 (by decide) (fun c => ?_) (fun c => ?_)
    · have h := wp_t c h
      refine r_iconst hc (v := 0) (by decide) dX4_manyFrom_50 ?_
      refine r_istoreE hc (i := 4) (lv' := [(4, .int 0), (3, .int r3), (0, .ref (ad x0)), (1, .int x1), (2, .int x2)]) rfl (by decide) rfl dX4_manyFrom_51 ?_
      refine r_iconst hc (v := 0) (by decide) dX4_manyFrom_53 ?_
      refine r_istoreE hc (i := 5) (lv' := [(5, .int 0), (4, .int 0), (3, .int r3), (0, .ref (ad x0)), (1, .int x1), (2, .int x2)]) rfl (by decide) rfl dX4_manyFrom_54 ?_
      refine r_sub [3, 4, 5, 2, 1, 0] (lv' := [(0, .ref (ad x0)), (1, .int x1), (2, .int x2), (3, .int r3), (4, .int 0), (5, .int 0)]) rfl ?_
      refine t_X4_manyFrom_L56 hc hrec (wp_bb h) ?_
      · intro y9 σ10 h
        refine r_iload hc 0 rfl dX4_manyFrom_123 ?_
        have h := wp_v h
        exact r_iret hc h dX4_manyFrom_125
    · have h := wp_f c h
      refine r_iload_n hc 0 rfl rfl dX4_manyFrom_28 ?_
      refine r_if_ne hc (tgt := 36) dX4_manyFrom_29 (by decide) (fun c => ?_) (fun c => ?_)
      · have h := wp_f c h
        refine r_iload_n hc 0 rfl rfl dX4_manyFrom_36 ?_
        obtain ⟨r11, σ12, er11, h⟩ := wp_b h
        refine r_callS hc ms_J6_bitCount_0f7a4 ml_X4_73 (c_J6_bitCount_0f7a4 er11) rfl rfl (by omega) rfl (Nat.le_of_ble_eq_true rfl) dX4_manyFrom_37 ?_
        refine r_aload_n hc 1 rfl rfl dX4_manyFrom_40 ?_
        refine r_iload_n hc 2 rfl rfl dX4_manyFrom_41 ?_
        refine r_iconst hc (v := 1) (by decide) dX4_manyFrom_42 ?_
        refine r_iadd hc dX4_manyFrom_43 ?_
        refine r_iload_n hc 3 rfl rfl dX4_manyFrom_44 ?_
        obtain ⟨r13, σ14, er13, h⟩ := wp_b h
        refine r_callS hc ms_X4_manyFrom ml_X4_93 (hrec _ _ _ _ _ _ er13) rfl rfl (by omega) rfl (Nat.le_of_ble_eq_true rfl) dX4_manyFrom_45 ?_
        refine r_imul hc dX4_manyFrom_48 ?_
        refine r_sub [] (lv' := []) rfl ?_
        exact t_X4_manyFrom_b49 hc hrec h
      · have h := wp_t c h
        refine r_iconst hc (v := 0) (by decide) dX4_manyFrom_32 ?_
        refine r_goto hc (tgt := 49) dX4_manyFrom_33 (by decide) ?_
        refine r_sub [] (lv' := []) rfl ?_
        exact t_X4_manyFrom_b49 hc hrec h
  · have h := wp_f c h
    refine r_iconst hc (v := 1) (by decide) dX4_manyFrom_11 ?_
    have h := wp_v h
    exact r_iret hc h dX4_manyFrom_12
noncomputable def f_X4_manyFrom : Nat → Nat → Int32 → Int32 → Hp → Option (Int32 × Hp)
  | 0 => fun _ _ _ _ => none
  | n + 1 => f_X4_manyFrom_body (f_X4_manyFrom n)
theorem cn_X4_manyFrom {l : Launch} : ∀ (n : Nat) (x0 : Nat) (x1 : Int32) (x2 : Int32) (σ σ' : Hp) (r : Int32), f_X4_manyFrom n x0 x1 x2 σ = some (r, σ') → Mt l yX4_manyFrom cX4_manyFrom 7 (some .int) (2 + n) shC (fun ad => [.ref (ad x0), .int x1, .int x2]) σ (fun ad => some (.int r)) σ' := by
  intro n
  induction n with
  | zero => intro x0 x1 x2 σ σ' r h; cases h
  | succ n ih => intro x0 x1 x2 σ σ' r h; exact mt_i (own := RX4) (by decide) rfl (fun _ => Nat.le_of_ble_eq_true rfl) (fun γ ad K hc hk => t_X4_manyFrom (n := n) hc ih ⟨_, _, h, hk⟩)
theorem c_X4_manyFrom {l : Launch} {x0 : Nat} {x1 : Int32} {x2 : Int32} {σ σ' : Hp} {r : Int32} (h : f_X4_manyFrom 30 x0 x1 x2 σ = some (r, σ')) : Mt l yX4_manyFrom cX4_manyFrom 7 (some .int) 32 shC (fun ad => [.ref (ad x0), .int x1, .int x2]) σ (fun ad => some (.int r)) σ' := cn_X4_manyFrom 30 x0 x1 x2 σ σ' r h

-- NetMaps$Search.howMany()I
theorem dX4_howMany_0 : decode cX4_howMany 0 = .ok (.aload_n 0, 1) := by decide +kernel
theorem dX4_howMany_1 : decode cX4_howMany 1 = .ok (.iconst 0, 1) := by decide +kernel
theorem dX4_howMany_2 : decode cX4_howMany 2 = .ok (.iconst 0, 1) := by decide +kernel
theorem dX4_howMany_3 : decode cX4_howMany 3 = .ok (.invokestatic 93, 3) := by decide +kernel
theorem dX4_howMany_6 : decode cX4_howMany 6 = .ok (.ireturn, 1) := by decide +kernel
noncomputable def f_X4_howMany (x0 : Nat) (σ : Hp) : Option (Int32 × Hp) := bO (f_X4_manyFrom 30 x0 0 0 σ) fun r1 σ2 => some (r1, σ2)
set_option maxRecDepth 100000 in
set_option maxHeartbeats 4000000 in
theorem t_X4_howMany {l : Launch} {γ : Gm} {ad : Nat → Nat} {K : Option Value → Hp → Prop} (hc : Cx l γ 34 1 ad shC RX4 cX4_howMany (some .int) K) {x0 : Nat} {σ : Hp} (h : wpO (f_X4_howMany x0 σ) (KI K)) : WW l γ 34 1 ad shC 0 [(0, .ref (ad x0))] [] σ := by
  unfold f_X4_howMany at h
  refine r_aload_n hc 0 rfl rfl dX4_howMany_0 ?_
  refine r_iconst hc (v := 0) (by decide) dX4_howMany_1 ?_
  refine r_iconst hc (v := 0) (by decide) dX4_howMany_2 ?_
  obtain ⟨r1, σ2, er1, h⟩ := wp_b h
  refine r_callS hc ms_X4_manyFrom ml_X4_93 (c_X4_manyFrom er1) rfl rfl (by decide) rfl (Nat.le_of_ble_eq_true rfl) dX4_howMany_3 ?_
  have h := wp_v h
  exact r_iret hc h dX4_howMany_6
theorem c_X4_howMany {l : Launch} {x0 : Nat} {σ σ' : Hp} {r : Int32} (h : f_X4_howMany x0 σ = some (r, σ')) : Mt l yX4_howMany cX4_howMany 1 (some .int) 34 shC (fun ad => [.ref (ad x0)]) σ (fun ad => some (.int r)) σ' := mt_i (own := RX4) (by decide) rfl (fun _ => Nat.le_of_ble_eq_true rfl) (fun γ ad K hc hk => t_X4_howMany hc ⟨_, _, h, hk⟩)

-- NetMaps$Search.imagesOf(I)I
theorem dX4_imagesOf_0 : decode cX4_imagesOf 0 = .ok (.iconst 0, 1) := by decide +kernel
theorem dX4_imagesOf_1 : decode cX4_imagesOf 1 = .ok (.istore_n 2, 1) := by decide +kernel
theorem dX4_imagesOf_2 : decode cX4_imagesOf 2 = .ok (.iconst 0, 1) := by decide +kernel
theorem dX4_imagesOf_3 : decode cX4_imagesOf 3 = .ok (.istore_n 3, 1) := by decide +kernel
theorem dX4_imagesOf_4 : decode cX4_imagesOf 4 = .ok (.iload_n 3, 1) := by decide +kernel
theorem dX4_imagesOf_5 : decode cX4_imagesOf 5 = .ok (.aload_n 0, 1) := by decide +kernel
theorem dX4_imagesOf_6 : decode cX4_imagesOf 6 = .ok (.getfield 12, 3) := by decide +kernel
theorem dX4_imagesOf_9 : decode cX4_imagesOf 9 = .ok (.getfield 40, 3) := by decide +kernel
theorem dX4_imagesOf_12 : decode cX4_imagesOf 12 = .ok (.if_icmp .ge 28, 3) := by decide +kernel
theorem dX4_imagesOf_15 : decode cX4_imagesOf 15 = .ok (.iload_n 1, 1) := by decide +kernel
theorem dX4_imagesOf_16 : decode cX4_imagesOf 16 = .ok (.iload_n 3, 1) := by decide +kernel
theorem dX4_imagesOf_17 : decode cX4_imagesOf 17 = .ok (.invokestatic 70, 3) := by decide +kernel
theorem dX4_imagesOf_20 : decode cX4_imagesOf 20 = .ok (.ifCond .eq 14, 3) := by decide +kernel
theorem dX4_imagesOf_23 : decode cX4_imagesOf 23 = .ok (.iload_n 2, 1) := by decide +kernel
theorem dX4_imagesOf_24 : decode cX4_imagesOf 24 = .ok (.iconst 1, 1) := by decide +kernel
theorem dX4_imagesOf_25 : decode cX4_imagesOf 25 = .ok (.aload_n 0, 1) := by decide +kernel
theorem dX4_imagesOf_26 : decode cX4_imagesOf 26 = .ok (.getfield 25, 3) := by decide +kernel
theorem dX4_imagesOf_29 : decode cX4_imagesOf 29 = .ok (.iload_n 3, 1) := by decide +kernel
theorem dX4_imagesOf_30 : decode cX4_imagesOf 30 = .ok (.iaload, 1) := by decide +kernel
theorem dX4_imagesOf_31 : decode cX4_imagesOf 31 = .ok (.ishl, 1) := by decide +kernel
theorem dX4_imagesOf_32 : decode cX4_imagesOf 32 = .ok (.ior, 1) := by decide +kernel
theorem dX4_imagesOf_33 : decode cX4_imagesOf 33 = .ok (.istore_n 2, 1) := by decide +kernel
theorem dX4_imagesOf_34 : decode cX4_imagesOf 34 = .ok (.iinc 3 1, 3) := by decide +kernel
theorem dX4_imagesOf_37 : decode cX4_imagesOf 37 = .ok (.goto (-33), 3) := by decide +kernel
theorem dX4_imagesOf_40 : decode cX4_imagesOf 40 = .ok (.iload_n 2, 1) := by decide +kernel
theorem dX4_imagesOf_41 : decode cX4_imagesOf 41 = .ok (.ireturn, 1) := by decide +kernel
noncomputable def f_X4_imagesOf_b34 (x0 : Nat) (x1 : Int32) (x2 : Int32) (x3 : Int32) (σ : Hp) : Option (((Int32 × Int32) ⊕ (Int32)) × Hp) := some (Sum.inl (x2, (x3 + 1)), σ)
set_option maxRecDepth 100000 in
set_option maxHeartbeats 4000000 in
theorem t_X4_imagesOf_b34 {l : Launch} {γ : Gm} {ad : Nat → Nat} {K : Option Value → Hp → Prop} (hc : Cx l γ 2 4 ad shC RX4 cX4_imagesOf (some .int) K) {x0 : Nat} {x1 : Int32} {x2 : Int32} {x3 : Int32}  {σ : Hp} {KL : ((Int32 × Int32) ⊕ (Int32)) → Hp → Prop} (h : wpO (f_X4_imagesOf_b34 x0 x1 x2 x3 σ) KL) (kn : ∀ (v : (Int32 × Int32)) (σ : Hp), KL (Sum.inl v) σ → WW l γ 2 4 ad shC 4 [(0, .ref (ad x0)), (1, .int x1), (2, .int v.1), (3, .int v.2)] [] σ) (kx40 : ∀ (v : Int32) (σ : Hp), KL (Sum.inr v) σ → WW l γ 2 4 ad shC 40 [(2, .int v)] [] σ) : WW l γ 2 4 ad shC 34 [(0, .ref (ad x0)), (1, .int x1), (2, .int x2), (3, .int x3)] [] σ := by
  unfold f_X4_imagesOf_b34 at h
  refine r_iincE hc (j := 3) (w := 1) (lv' := [(3, .int (x3 + 1)), (0, .ref (ad x0)), (1, .int x1), (2, .int x2)]) rfl (by decide) rfl (by decide) rfl dX4_imagesOf_34 ?_
  refine r_goto hc (tgt := 4) dX4_imagesOf_37 (by decide) ?_
  refine r_sub [1, 2, 3, 0] (lv' := [(0, .ref (ad x0)), (1, .int x1), (2, .int x2), (3, .int (x3 + 1))]) rfl ?_
  have h := wp_v h
  exact kn (x2, (x3 + 1)) _ h
noncomputable def f_X4_imagesOf_L4 (x0 : Nat) (x1 : Int32) (v : (Int32 × Int32)) (σ : Hp) : Option (((Int32 × Int32) ⊕ (Int32)) × Hp) := gO (getR shC 4 x0 0 σ) fun v1 => gO (getI shC 1 v1 0 σ) fun v2 => if v2 ≤ v.2 then (some (Sum.inr v.1, σ)) else (bO (f_X6_has x1 v.2 σ) fun r3 σ4 => if r3 = 0 then (f_X4_imagesOf_b34 x0 x1 v.1 v.2 σ4) else (gO (getR shC 4 x0 3 σ4) fun v5 => gO (aldI shC 0 v5 v.2 σ4) fun v6 => lt' ((v.1 ||| ((1 : Int32) <<< (v6 &&& 31)))) fun t7 => f_X4_imagesOf_b34 x0 x1 t7 v.2 σ4))
set_option maxRecDepth 100000 in
set_option maxHeartbeats 4000000 in
theorem t_X4_imagesOf_L4 {l : Launch} {γ : Gm} {ad : Nat → Nat} {K : Option Value → Hp → Prop}  (hc : Cx l γ 2 4 ad shC RX4 cX4_imagesOf (some .int) K) {x0 : Nat} {x1 : Int32} {v : (Int32 × Int32)} {σ : Hp} {KX : (Int32) → Hp → Prop} (h : wpO (wh (f_X4_imagesOf_L4 x0 x1) v σ) KX) (kx40 : ∀ (v : Int32) (σ : Hp), KX v σ → WW l γ 2 4 ad shC 40 [(2, .int v)] [] σ) : WW l γ 2 4 ad shC 4 [(0, .ref (ad x0)), (1, .int x1), (2, .int v.1), (3, .int v.2)] [] σ := by
  refine wh_W (P := fun v σ => WW l γ 2 4 ad shC 4 [(0, .ref (ad x0)), (1, .int x1), (2, .int v.1), (3, .int v.2)] [] σ) (fun v σ h => ?_) h
  have kn : ∀ (v : (Int32 × Int32)) (σ : Hp), WW l γ 2 4 ad shC 4 [(0, .ref (ad x0)), (1, .int x1), (2, .int v.1), (3, .int v.2)] [] σ → WW l γ 2 4 ad shC 4 [(0, .ref (ad x0)), (1, .int x1), (2, .int v.1), (3, .int v.2)] [] σ := fun _ _ h => h
  · unfold f_X4_imagesOf_L4 at h
    refine r_iload_n hc 3 rfl rfl dX4_imagesOf_4 ?_
    refine r_aload_n hc 0 rfl rfl dX4_imagesOf_5 ?_
    obtain ⟨v1, ev1, h⟩ := wp_g h
    refine r_getR hc ev1 fl_X4_12 rfl dX4_imagesOf_6 ?_
    obtain ⟨v2, ev2, h⟩ := wp_g h
    refine r_getI hc ev2 fl_X4_40 rfl dX4_imagesOf_9 ?_
    refine r_icmp_ge hc (tgt := 40) dX4_imagesOf_12 (by decide) (fun c => ?_) (fun c => ?_)
    · have h := wp_t c h
      refine r_sub [2] (lv' := [(2, .int v.1)]) rfl ?_
      have h := wp_v h
      exact kx40 v.1 _ h
    · have h := wp_f c h
      refine r_iload_n hc 1 rfl rfl dX4_imagesOf_15 ?_
      refine r_iload_n hc 3 rfl rfl dX4_imagesOf_16 ?_
      obtain ⟨r3, σ4, er3, h⟩ := wp_b h
      refine r_callSN hc ms_X6_has nl_X4_70 (c_X6_has er3) rfl rfl (by decide) rfl (Nat.le_of_ble_eq_true rfl) dX4_imagesOf_17 ?_
      refine r_if_eq hc (tgt := 34) dX4_imagesOf_20 (by decide) (fun c => ?_) (fun c => ?_)
      · have h := wp_t c h
        exact t_X4_imagesOf_b34 hc h kn kx40
      · have h := wp_f c h
        refine r_iload_n hc 2 rfl rfl dX4_imagesOf_23 ?_
        refine r_iconst hc (v := 1) (by decide) dX4_imagesOf_24 ?_
        refine r_aload_n hc 0 rfl rfl dX4_imagesOf_25 ?_
        obtain ⟨v5, ev5, h⟩ := wp_g h
        refine r_getR hc ev5 fl_X4_25 rfl dX4_imagesOf_26 ?_
        refine r_iload_n hc 3 rfl rfl dX4_imagesOf_29 ?_
        obtain ⟨v6, ev6, h⟩ := wp_g h
        refine r_iald hc ev6 dX4_imagesOf_30 ?_
        refine r_ishl hc dX4_imagesOf_31 ?_
        refine r_ior hc dX4_imagesOf_32 ?_
        obtain ⟨t7, et7, h⟩ := wp_l h
        refine r_istore_nE hc (i := 2) (lv' := [(2, .int t7), (0, .ref (ad x0)), (1, .int x1), (3, .int v.2)]) et7 rfl (by decide) rfl dX4_imagesOf_33 ?_
        refine r_sub [1, 2, 0, 3] (lv' := [(0, .ref (ad x0)), (1, .int x1), (2, .int t7), (3, .int v.2)]) rfl ?_
        exact t_X4_imagesOf_b34 hc h kn kx40
noncomputable def f_X4_imagesOf (x0 : Nat) (x1 : Int32) (σ : Hp) : Option (Int32 × Hp) := bO (wh (f_X4_imagesOf_L4 x0 x1) (0, 0) σ) fun y1 σ2 => (some (y1, σ2))
set_option maxRecDepth 100000 in
set_option maxHeartbeats 4000000 in
theorem t_X4_imagesOf {l : Launch} {γ : Gm} {ad : Nat → Nat} {K : Option Value → Hp → Prop} (hc : Cx l γ 2 4 ad shC RX4 cX4_imagesOf (some .int) K) {x0 : Nat} {x1 : Int32} {σ : Hp} (h : wpO (f_X4_imagesOf x0 x1 σ) (KI K)) : WW l γ 2 4 ad shC 0 [(0, .ref (ad x0)), (1, .int x1)] [] σ := by
  unfold f_X4_imagesOf at h
  refine r_iconst hc (v := 0) (by decide) dX4_imagesOf_0 ?_
  refine r_istore_nE hc (i := 2) (lv' := [(2, .int 0), (0, .ref (ad x0)), (1, .int x1)]) rfl rfl (by decide) rfl dX4_imagesOf_1 ?_
  refine r_iconst hc (v := 0) (by decide) dX4_imagesOf_2 ?_
  refine r_istore_nE hc (i := 3) (lv' := [(3, .int 0), (2, .int 0), (0, .ref (ad x0)), (1, .int x1)]) rfl rfl (by decide) rfl dX4_imagesOf_3 ?_
  refine r_sub [2, 3, 1, 0] (lv' := [(0, .ref (ad x0)), (1, .int x1), (2, .int 0), (3, .int 0)]) rfl ?_
  refine t_X4_imagesOf_L4 hc (wp_bb h) ?_
  · intro y1 σ2 h
    refine r_iload_n hc 0 rfl rfl dX4_imagesOf_40 ?_
    have h := wp_v h
    exact r_iret hc h dX4_imagesOf_41
theorem c_X4_imagesOf {l : Launch} {x0 : Nat} {x1 : Int32} {σ σ' : Hp} {r : Int32} (h : f_X4_imagesOf x0 x1 σ = some (r, σ')) : Mt l yX4_imagesOf cX4_imagesOf 4 (some .int) 2 shC (fun ad => [.ref (ad x0), .int x1]) σ (fun ad => some (.int r)) σ' := mt_i (own := RX4) (by decide) rfl (fun _ => Nat.le_of_ble_eq_true rfl) (fun γ ad K hc hk => t_X4_imagesOf hc ⟨_, _, h, hk⟩)

-- NetMaps$Search.reachesLines()Z
theorem dX4_reachesLines_0 : decode cX4_reachesLines 0 = .ok (.iconst 0, 1) := by decide +kernel
theorem dX4_reachesLines_1 : decode cX4_reachesLines 1 = .ok (.istore_n 1, 1) := by decide +kernel
theorem dX4_reachesLines_2 : decode cX4_reachesLines 2 = .ok (.iload_n 1, 1) := by decide +kernel
theorem dX4_reachesLines_3 : decode cX4_reachesLines 3 = .ok (.aload_n 0, 1) := by decide +kernel
theorem dX4_reachesLines_4 : decode cX4_reachesLines 4 = .ok (.getfield 18, 3) := by decide +kernel
theorem dX4_reachesLines_7 : decode cX4_reachesLines 7 = .ok (.getfield 40, 3) := by decide +kernel
theorem dX4_reachesLines_10 : decode cX4_reachesLines 10 = .ok (.if_icmp .ge 71, 3) := by decide +kernel
theorem dX4_reachesLines_13 : decode cX4_reachesLines 13 = .ok (.iconst 0, 1) := by decide +kernel
theorem dX4_reachesLines_14 : decode cX4_reachesLines 14 = .ok (.istore_n 2, 1) := by decide +kernel
theorem dX4_reachesLines_15 : decode cX4_reachesLines 15 = .ok (.iconst 0, 1) := by decide +kernel
theorem dX4_reachesLines_16 : decode cX4_reachesLines 16 = .ok (.istore_n 3, 1) := by decide +kernel
theorem dX4_reachesLines_17 : decode cX4_reachesLines 17 = .ok (.iload_n 3, 1) := by decide +kernel
theorem dX4_reachesLines_18 : decode cX4_reachesLines 18 = .ok (.aload_n 0, 1) := by decide +kernel
theorem dX4_reachesLines_19 : decode cX4_reachesLines 19 = .ok (.getfield 12, 3) := by decide +kernel
theorem dX4_reachesLines_22 : decode cX4_reachesLines 22 = .ok (.getfield 40, 3) := by decide +kernel
theorem dX4_reachesLines_25 : decode cX4_reachesLines 25 = .ok (.if_icmp .ge 35, 3) := by decide +kernel
theorem dX4_reachesLines_28 : decode cX4_reachesLines 28 = .ok (.aload_n 0, 1) := by decide +kernel
theorem dX4_reachesLines_29 : decode cX4_reachesLines 29 = .ok (.getfield 25, 3) := by decide +kernel
theorem dX4_reachesLines_32 : decode cX4_reachesLines 32 = .ok (.iload_n 3, 1) := by decide +kernel
theorem dX4_reachesLines_33 : decode cX4_reachesLines 33 = .ok (.iaload, 1) := by decide +kernel
theorem dX4_reachesLines_34 : decode cX4_reachesLines 34 = .ok (.iload_n 1, 1) := by decide +kernel
theorem dX4_reachesLines_35 : decode cX4_reachesLines 35 = .ok (.if_icmp .ne 19, 3) := by decide +kernel
theorem dX4_reachesLines_38 : decode cX4_reachesLines 38 = .ok (.iload_n 2, 1) := by decide +kernel
theorem dX4_reachesLines_39 : decode cX4_reachesLines 39 = .ok (.aload_n 0, 1) := by decide +kernel
theorem dX4_reachesLines_40 : decode cX4_reachesLines 40 = .ok (.aload_n 0, 1) := by decide +kernel
theorem dX4_reachesLines_41 : decode cX4_reachesLines 41 = .ok (.getfield 12, 3) := by decide +kernel
theorem dX4_reachesLines_44 : decode cX4_reachesLines 44 = .ok (.getfield 64, 3) := by decide +kernel
theorem dX4_reachesLines_47 : decode cX4_reachesLines 47 = .ok (.iload_n 3, 1) := by decide +kernel
theorem dX4_reachesLines_48 : decode cX4_reachesLines 48 = .ok (.iaload, 1) := by decide +kernel
theorem dX4_reachesLines_49 : decode cX4_reachesLines 49 = .ok (.invokevirtual 108, 3) := by decide +kernel
theorem dX4_reachesLines_52 : decode cX4_reachesLines 52 = .ok (.ior, 1) := by decide +kernel
theorem dX4_reachesLines_53 : decode cX4_reachesLines 53 = .ok (.istore_n 2, 1) := by decide +kernel
theorem dX4_reachesLines_54 : decode cX4_reachesLines 54 = .ok (.iinc 3 1, 3) := by decide +kernel
theorem dX4_reachesLines_57 : decode cX4_reachesLines 57 = .ok (.goto (-40), 3) := by decide +kernel
theorem dX4_reachesLines_60 : decode cX4_reachesLines 60 = .ok (.iload_n 2, 1) := by decide +kernel
theorem dX4_reachesLines_61 : decode cX4_reachesLines 61 = .ok (.aload_n 0, 1) := by decide +kernel
theorem dX4_reachesLines_62 : decode cX4_reachesLines 62 = .ok (.getfield 18, 3) := by decide +kernel
theorem dX4_reachesLines_65 : decode cX4_reachesLines 65 = .ok (.getfield 64, 3) := by decide +kernel
theorem dX4_reachesLines_68 : decode cX4_reachesLines 68 = .ok (.iload_n 1, 1) := by decide +kernel
theorem dX4_reachesLines_69 : decode cX4_reachesLines 69 = .ok (.iaload, 1) := by decide +kernel
theorem dX4_reachesLines_70 : decode cX4_reachesLines 70 = .ok (.if_icmp .eq 5, 3) := by decide +kernel
theorem dX4_reachesLines_73 : decode cX4_reachesLines 73 = .ok (.iconst 0, 1) := by decide +kernel
theorem dX4_reachesLines_74 : decode cX4_reachesLines 74 = .ok (.ireturn, 1) := by decide +kernel
theorem dX4_reachesLines_75 : decode cX4_reachesLines 75 = .ok (.iinc 1 1, 3) := by decide +kernel
theorem dX4_reachesLines_78 : decode cX4_reachesLines 78 = .ok (.goto (-76), 3) := by decide +kernel
theorem dX4_reachesLines_81 : decode cX4_reachesLines 81 = .ok (.iconst 1, 1) := by decide +kernel
theorem dX4_reachesLines_82 : decode cX4_reachesLines 82 = .ok (.ireturn, 1) := by decide +kernel
noncomputable def f_X4_reachesLines_b54 (x0 : Nat) (x1 : Int32) (x2 : Int32) (x3 : Int32) (σ : Hp) : Option (((Int32 × Int32) ⊕ (Int32)) × Hp) := some (Sum.inl (x2, (x3 + 1)), σ)
set_option maxRecDepth 100000 in
set_option maxHeartbeats 4000000 in
theorem t_X4_reachesLines_b54 {l : Launch} {γ : Gm} {ad : Nat → Nat} {K : Option Value → Hp → Prop} (hc : Cx l γ 3 4 ad shC RX4 cX4_reachesLines (some .boolean) K) {x0 : Nat} {x1 : Int32} {x2 : Int32} {x3 : Int32}  {σ : Hp} {KL : ((Int32 × Int32) ⊕ (Int32)) → Hp → Prop} (h : wpO (f_X4_reachesLines_b54 x0 x1 x2 x3 σ) KL) (kn : ∀ (v : (Int32 × Int32)) (σ : Hp), KL (Sum.inl v) σ → WW l γ 3 4 ad shC 17 [(0, .ref (ad x0)), (1, .int x1), (2, .int v.1), (3, .int v.2)] [] σ) (kx60 : ∀ (v : Int32) (σ : Hp), KL (Sum.inr v) σ → WW l γ 3 4 ad shC 60 [(0, .ref (ad x0)), (1, .int x1), (2, .int v)] [] σ) : WW l γ 3 4 ad shC 54 [(0, .ref (ad x0)), (1, .int x1), (2, .int x2), (3, .int x3)] [] σ := by
  unfold f_X4_reachesLines_b54 at h
  refine r_iincE hc (j := 3) (w := 1) (lv' := [(3, .int (x3 + 1)), (0, .ref (ad x0)), (1, .int x1), (2, .int x2)]) rfl (by decide) rfl (by decide) rfl dX4_reachesLines_54 ?_
  refine r_goto hc (tgt := 17) dX4_reachesLines_57 (by decide) ?_
  refine r_sub [1, 2, 3, 0] (lv' := [(0, .ref (ad x0)), (1, .int x1), (2, .int x2), (3, .int (x3 + 1))]) rfl ?_
  have h := wp_v h
  exact kn (x2, (x3 + 1)) _ h
noncomputable def f_X4_reachesLines_L17 (x0 : Nat) (x1 : Int32) (v : (Int32 × Int32)) (σ : Hp) : Option (((Int32 × Int32) ⊕ (Int32)) × Hp) := gO (getR shC 4 x0 0 σ) fun v1 => gO (getI shC 1 v1 0 σ) fun v2 => if v2 ≤ v.2 then (some (Sum.inr v.1, σ)) else (gO (getR shC 4 x0 3 σ) fun v3 => gO (aldI shC 0 v3 v.2 σ) fun v4 => if v4 = x1 then (gO (getR shC 4 x0 0 σ) fun v5 => gO (getR shC 1 v5 1 σ) fun v6 => gO (aldI shC 0 v6 v.2 σ) fun v7 => gO (chk shC x0 4) fun _ => bO (f_X4_imagesOf x0 v7 σ) fun r8 σ9 => f_X4_reachesLines_b54 x0 x1 (v.1 ||| r8) v.2 σ9) else (f_X4_reachesLines_b54 x0 x1 v.1 v.2 σ))
set_option maxRecDepth 100000 in
set_option maxHeartbeats 4000000 in
theorem t_X4_reachesLines_L17 {l : Launch} {γ : Gm} {ad : Nat → Nat} {K : Option Value → Hp → Prop}  (hc : Cx l γ 3 4 ad shC RX4 cX4_reachesLines (some .boolean) K) {x0 : Nat} {x1 : Int32} {v : (Int32 × Int32)} {σ : Hp} {KX : (Int32) → Hp → Prop} (h : wpO (wh (f_X4_reachesLines_L17 x0 x1) v σ) KX) (kx60 : ∀ (v : Int32) (σ : Hp), KX v σ → WW l γ 3 4 ad shC 60 [(0, .ref (ad x0)), (1, .int x1), (2, .int v)] [] σ) : WW l γ 3 4 ad shC 17 [(0, .ref (ad x0)), (1, .int x1), (2, .int v.1), (3, .int v.2)] [] σ := by
  refine wh_W (P := fun v σ => WW l γ 3 4 ad shC 17 [(0, .ref (ad x0)), (1, .int x1), (2, .int v.1), (3, .int v.2)] [] σ) (fun v σ h => ?_) h
  have kn : ∀ (v : (Int32 × Int32)) (σ : Hp), WW l γ 3 4 ad shC 17 [(0, .ref (ad x0)), (1, .int x1), (2, .int v.1), (3, .int v.2)] [] σ → WW l γ 3 4 ad shC 17 [(0, .ref (ad x0)), (1, .int x1), (2, .int v.1), (3, .int v.2)] [] σ := fun _ _ h => h
  · unfold f_X4_reachesLines_L17 at h
    refine r_iload_n hc 3 rfl rfl dX4_reachesLines_17 ?_
    refine r_aload_n hc 0 rfl rfl dX4_reachesLines_18 ?_
    obtain ⟨v1, ev1, h⟩ := wp_g h
    refine r_getR hc ev1 fl_X4_12 rfl dX4_reachesLines_19 ?_
    obtain ⟨v2, ev2, h⟩ := wp_g h
    refine r_getI hc ev2 fl_X4_40 rfl dX4_reachesLines_22 ?_
    refine r_icmp_ge hc (tgt := 60) dX4_reachesLines_25 (by decide) (fun c => ?_) (fun c => ?_)
    · have h := wp_t c h
      refine r_sub [0, 1, 2] (lv' := [(0, .ref (ad x0)), (1, .int x1), (2, .int v.1)]) rfl ?_
      have h := wp_v h
      exact kx60 v.1 _ h
    · have h := wp_f c h
      refine r_aload_n hc 0 rfl rfl dX4_reachesLines_28 ?_
      obtain ⟨v3, ev3, h⟩ := wp_g h
      refine r_getR hc ev3 fl_X4_25 rfl dX4_reachesLines_29 ?_
      refine r_iload_n hc 3 rfl rfl dX4_reachesLines_32 ?_
      obtain ⟨v4, ev4, h⟩ := wp_g h
      refine r_iald hc ev4 dX4_reachesLines_33 ?_
      refine r_iload_n hc 1 rfl rfl dX4_reachesLines_34 ?_
      refine r_icmp_ne hc (tgt := 54) dX4_reachesLines_35 (by decide) (fun c => ?_) (fun c => ?_)
      · have h := wp_f c h
        exact t_X4_reachesLines_b54 hc h kn kx60
      · have h := wp_t c h
        refine r_iload_n hc 2 rfl rfl dX4_reachesLines_38 ?_
        refine r_aload_n hc 0 rfl rfl dX4_reachesLines_39 ?_
        refine r_aload_n hc 0 rfl rfl dX4_reachesLines_40 ?_
        obtain ⟨v5, ev5, h⟩ := wp_g h
        refine r_getR hc ev5 fl_X4_12 rfl dX4_reachesLines_41 ?_
        obtain ⟨v6, ev6, h⟩ := wp_g h
        refine r_getR hc ev6 fl_X4_64 rfl dX4_reachesLines_44 ?_
        refine r_iload_n hc 3 rfl rfl dX4_reachesLines_47 ?_
        obtain ⟨v7, ev7, h⟩ := wp_g h
        refine r_iald hc ev7 dX4_reachesLines_48 ?_
        obtain ⟨_, ek10, h⟩ := wp_g h
        obtain ⟨r8, σ9, er8, h⟩ := wp_b h
        refine r_callV hc (k0 := x0) mv_X4_imagesOf ml_X4_108 (c_X4_imagesOf er8) (chk_of ek10) cls_4.1 rfl rfl rfl (by decide) rfl (Nat.le_of_ble_eq_true rfl) dX4_reachesLines_49 ?_
        refine r_ior hc dX4_reachesLines_52 ?_
        refine r_istore_nE hc (i := 2) (lv' := [(2, .int (v.1 ||| r8)), (0, .ref (ad x0)), (1, .int x1), (3, .int v.2)]) rfl rfl (by decide) rfl dX4_reachesLines_53 ?_
        refine r_sub [1, 2, 0, 3] (lv' := [(0, .ref (ad x0)), (1, .int x1), (2, .int (v.1 ||| r8)), (3, .int v.2)]) rfl ?_
        exact t_X4_reachesLines_b54 hc h kn kx60
noncomputable def f_X4_reachesLines_L2 (x0 : Nat) (v : (Int32)) (σ : Hp) : Option (((Int32) ⊕ ((Unit) ⊕ (Unit))) × Hp) := gO (getR shC 4 x0 1 σ) fun v1 => gO (getI shC 1 v1 0 σ) fun v2 => if v2 ≤ v then (some (Sum.inr (Sum.inr ()), σ)) else (bO (wh (f_X4_reachesLines_L17 x0 v) (0, 0) σ) fun y3 σ4 => (gO (getR shC 4 x0 1 σ4) fun v5 => gO (getR shC 1 v5 1 σ4) fun v6 => gO (aldI shC 0 v6 v σ4) fun v7 => if y3 = v7 then (some (Sum.inl (v + 1), σ4)) else (some (Sum.inr (Sum.inl ()), σ4))))
set_option maxRecDepth 100000 in
set_option maxHeartbeats 4000000 in
theorem t_X4_reachesLines_L2 {l : Launch} {γ : Gm} {ad : Nat → Nat} {K : Option Value → Hp → Prop}  (hc : Cx l γ 3 4 ad shC RX4 cX4_reachesLines (some .boolean) K) {x0 : Nat} {v : (Int32)} {σ : Hp} {KX : ((Unit) ⊕ (Unit)) → Hp → Prop} (h : wpO (wh (f_X4_reachesLines_L2 x0) v σ) KX) (kx73 : ∀ (v : Unit) (σ : Hp), KX (Sum.inl v) σ → WW l γ 3 4 ad shC 73 [] [] σ) (kx81 : ∀ (v : Unit) (σ : Hp), KX (Sum.inr v) σ → WW l γ 3 4 ad shC 81 [] [] σ) : WW l γ 3 4 ad shC 2 [(0, .ref (ad x0)), (1, .int v)] [] σ := by
  refine wh_W (P := fun v σ => WW l γ 3 4 ad shC 2 [(0, .ref (ad x0)), (1, .int v)] [] σ) (fun v σ h => ?_) h
  have kn : ∀ (v : (Int32)) (σ : Hp), WW l γ 3 4 ad shC 2 [(0, .ref (ad x0)), (1, .int v)] [] σ → WW l γ 3 4 ad shC 2 [(0, .ref (ad x0)), (1, .int v)] [] σ := fun _ _ h => h
  · unfold f_X4_reachesLines_L2 at h
    refine r_iload_n hc 1 rfl rfl dX4_reachesLines_2 ?_
    refine r_aload_n hc 0 rfl rfl dX4_reachesLines_3 ?_
    obtain ⟨v1, ev1, h⟩ := wp_g h
    refine r_getR hc ev1 fl_X4_18 rfl dX4_reachesLines_4 ?_
    obtain ⟨v2, ev2, h⟩ := wp_g h
    refine r_getI hc ev2 fl_X4_40 rfl dX4_reachesLines_7 ?_
    refine r_icmp_ge hc (tgt := 81) dX4_reachesLines_10 (by decide) (fun c => ?_) (fun c => ?_)
    · have h := wp_t c h
      refine r_sub [] (lv' := []) rfl ?_
      have h := wp_v h
      exact kx81 () _ h
    · have h := wp_f c h
      refine r_iconst hc (v := 0) (by decide) dX4_reachesLines_13 ?_
      refine r_istore_nE hc (i := 2) (lv' := [(2, .int 0), (0, .ref (ad x0)), (1, .int v)]) rfl rfl (by decide) rfl dX4_reachesLines_14 ?_
      refine r_iconst hc (v := 0) (by decide) dX4_reachesLines_15 ?_
      refine r_istore_nE hc (i := 3) (lv' := [(3, .int 0), (2, .int 0), (0, .ref (ad x0)), (1, .int v)]) rfl rfl (by decide) rfl dX4_reachesLines_16 ?_
      refine r_sub [2, 3, 1, 0] (lv' := [(0, .ref (ad x0)), (1, .int v), (2, .int 0), (3, .int 0)]) rfl ?_
      refine t_X4_reachesLines_L17 hc (wp_bb h) ?_
      · intro y3 σ4 h
        refine r_iload_n hc 2 rfl rfl dX4_reachesLines_60 ?_
        refine r_aload_n hc 0 rfl rfl dX4_reachesLines_61 ?_
        obtain ⟨v5, ev5, h⟩ := wp_g h
        refine r_getR hc ev5 fl_X4_18 rfl dX4_reachesLines_62 ?_
        obtain ⟨v6, ev6, h⟩ := wp_g h
        refine r_getR hc ev6 fl_X4_64 rfl dX4_reachesLines_65 ?_
        refine r_iload_n hc 1 rfl rfl dX4_reachesLines_68 ?_
        obtain ⟨v7, ev7, h⟩ := wp_g h
        refine r_iald hc ev7 dX4_reachesLines_69 ?_
        refine r_icmp_eq hc (tgt := 75) dX4_reachesLines_70 (by decide) (fun c => ?_) (fun c => ?_)
        · have h := wp_t c h
          refine r_iincE hc (j := 1) (w := 1) (lv' := [(1, .int (v + 1)), (0, .ref (ad x0)), (2, .int y3)]) rfl (by decide) rfl (by decide) rfl dX4_reachesLines_75 ?_
          refine r_goto hc (tgt := 2) dX4_reachesLines_78 (by decide) ?_
          refine r_sub [1, 0] (lv' := [(0, .ref (ad x0)), (1, .int (v + 1))]) rfl ?_
          have h := wp_v h
          exact kn (v + 1) _ h
        · have h := wp_f c h
          refine r_sub [] (lv' := []) rfl ?_
          have h := wp_v h
          exact kx73 () _ h
noncomputable def f_X4_reachesLines (x0 : Nat) (σ : Hp) : Option (Int32 × Hp) := bO (wh (f_X4_reachesLines_L2 x0) 0 σ) fun y1 σ2 => (Sum.elim (fun y1' => (some (0, σ2))) (fun y3 => (some (1, σ2))) y1)
set_option maxRecDepth 100000 in
set_option maxHeartbeats 4000000 in
theorem t_X4_reachesLines {l : Launch} {γ : Gm} {ad : Nat → Nat} {K : Option Value → Hp → Prop} (hc : Cx l γ 3 4 ad shC RX4 cX4_reachesLines (some .boolean) K) {x0 : Nat} {σ : Hp} (h : wpO (f_X4_reachesLines x0 σ) (KI K)) : WW l γ 3 4 ad shC 0 [(0, .ref (ad x0))] [] σ := by
  unfold f_X4_reachesLines at h
  refine r_iconst hc (v := 0) (by decide) dX4_reachesLines_0 ?_
  refine r_istore_nE hc (i := 1) (lv' := [(1, .int 0), (0, .ref (ad x0))]) rfl rfl (by decide) rfl dX4_reachesLines_1 ?_
  refine r_sub [1, 0] (lv' := [(0, .ref (ad x0)), (1, .int 0)]) rfl ?_
  refine t_X4_reachesLines_L2 hc (wp_bb h) ?_ ?_
  · intro y1' σ2 h
    have h := wp_sl h
    refine r_iconst hc (v := 0) (by decide) dX4_reachesLines_73 ?_
    have h := wp_v h
    exact r_zret hc h (by decide) dX4_reachesLines_74
  · intro y3 σ2 h
    have h := wp_sr h
    refine r_iconst hc (v := 1) (by decide) dX4_reachesLines_81 ?_
    have h := wp_v h
    exact r_zret hc h (by decide) dX4_reachesLines_82
theorem c_X4_reachesLines {l : Launch} {x0 : Nat} {σ σ' : Hp} {r : Int32} (h : f_X4_reachesLines x0 σ = some (r, σ')) : Mt l yX4_reachesLines cX4_reachesLines 4 (some .boolean) 3 shC (fun ad => [.ref (ad x0)]) σ (fun ad => some (.int r)) σ' := mt_i (own := RX4) (by decide) rfl (fun _ => Nat.le_of_ble_eq_true rfl) (fun γ ad K hc hk => t_X4_reachesLines hc ⟨_, _, h, hk⟩)

-- NetMaps$Search.reachingFrom(LNetMaps$Search;II)I
theorem dX4_reachingFrom_0 : decode cX4_reachingFrom 0 = .ok (.iload_n 1, 1) := by decide +kernel
theorem dX4_reachingFrom_1 : decode cX4_reachingFrom 1 = .ok (.aload_n 0, 1) := by decide +kernel
theorem dX4_reachingFrom_2 : decode cX4_reachingFrom 2 = .ok (.getfield 12, 3) := by decide +kernel
theorem dX4_reachingFrom_5 : decode cX4_reachingFrom 5 = .ok (.getfield 40, 3) := by decide +kernel
theorem dX4_reachingFrom_8 : decode cX4_reachingFrom 8 = .ok (.if_icmp .lt 16, 3) := by decide +kernel
theorem dX4_reachingFrom_11 : decode cX4_reachingFrom 11 = .ok (.aload_n 0, 1) := by decide +kernel
theorem dX4_reachingFrom_12 : decode cX4_reachingFrom 12 = .ok (.invokevirtual 104, 3) := by decide +kernel
theorem dX4_reachingFrom_15 : decode cX4_reachingFrom 15 = .ok (.ifCond .eq 7, 3) := by decide +kernel
theorem dX4_reachingFrom_18 : decode cX4_reachingFrom 18 = .ok (.iconst 1, 1) := by decide +kernel
theorem dX4_reachingFrom_19 : decode cX4_reachingFrom 19 = .ok (.goto 4, 3) := by decide +kernel
theorem dX4_reachingFrom_22 : decode cX4_reachingFrom 22 = .ok (.iconst 0, 1) := by decide +kernel
theorem dX4_reachingFrom_23 : decode cX4_reachingFrom 23 = .ok (.ireturn, 1) := by decide +kernel
theorem dX4_reachingFrom_24 : decode cX4_reachingFrom 24 = .ok (.aload_n 0, 1) := by decide +kernel
theorem dX4_reachingFrom_25 : decode cX4_reachingFrom 25 = .ok (.iload_n 1, 1) := by decide +kernel
theorem dX4_reachingFrom_26 : decode cX4_reachingFrom 26 = .ok (.iload_n 2, 1) := by decide +kernel
theorem dX4_reachingFrom_27 : decode cX4_reachingFrom 27 = .ok (.invokevirtual 86, 3) := by decide +kernel
theorem dX4_reachingFrom_30 : decode cX4_reachingFrom 30 = .ok (.istore_n 3, 1) := by decide +kernel
theorem dX4_reachingFrom_31 : decode cX4_reachingFrom 31 = .ok (.iconst 0, 1) := by decide +kernel
theorem dX4_reachingFrom_32 : decode cX4_reachingFrom 32 = .ok (.istore 4, 2) := by decide +kernel
theorem dX4_reachingFrom_34 : decode cX4_reachingFrom 34 = .ok (.iconst 0, 1) := by decide +kernel
theorem dX4_reachingFrom_35 : decode cX4_reachingFrom 35 = .ok (.istore 5, 2) := by decide +kernel
theorem dX4_reachingFrom_37 : decode cX4_reachingFrom 37 = .ok (.iload 5, 2) := by decide +kernel
theorem dX4_reachingFrom_39 : decode cX4_reachingFrom 39 = .ok (.aload_n 0, 1) := by decide +kernel
theorem dX4_reachingFrom_40 : decode cX4_reachingFrom 40 = .ok (.getfield 18, 3) := by decide +kernel
theorem dX4_reachingFrom_43 : decode cX4_reachingFrom 43 = .ok (.getfield 40, 3) := by decide +kernel
theorem dX4_reachingFrom_46 : decode cX4_reachingFrom 46 = .ok (.if_icmp .ge 58, 3) := by decide +kernel
theorem dX4_reachingFrom_49 : decode cX4_reachingFrom 49 = .ok (.iload_n 2, 1) := by decide +kernel
theorem dX4_reachingFrom_50 : decode cX4_reachingFrom 50 = .ok (.iconst 1, 1) := by decide +kernel
theorem dX4_reachingFrom_51 : decode cX4_reachingFrom 51 = .ok (.iload 5, 2) := by decide +kernel
theorem dX4_reachingFrom_53 : decode cX4_reachingFrom 53 = .ok (.ishl, 1) := by decide +kernel
theorem dX4_reachingFrom_54 : decode cX4_reachingFrom 54 = .ok (.ior, 1) := by decide +kernel
theorem dX4_reachingFrom_55 : decode cX4_reachingFrom 55 = .ok (.istore 6, 2) := by decide +kernel
theorem dX4_reachingFrom_57 : decode cX4_reachingFrom 57 = .ok (.iload_n 3, 1) := by decide +kernel
theorem dX4_reachingFrom_58 : decode cX4_reachingFrom 58 = .ok (.iload 5, 2) := by decide +kernel
theorem dX4_reachingFrom_60 : decode cX4_reachingFrom 60 = .ok (.invokestatic 70, 3) := by decide +kernel
theorem dX4_reachingFrom_63 : decode cX4_reachingFrom 63 = .ok (.ifCond .eq 35, 3) := by decide +kernel
theorem dX4_reachingFrom_66 : decode cX4_reachingFrom 66 = .ok (.aload_n 0, 1) := by decide +kernel
theorem dX4_reachingFrom_67 : decode cX4_reachingFrom 67 = .ok (.iload_n 1, 1) := by decide +kernel
theorem dX4_reachingFrom_68 : decode cX4_reachingFrom 68 = .ok (.iload 6, 2) := by decide +kernel
theorem dX4_reachingFrom_70 : decode cX4_reachingFrom 70 = .ok (.invokevirtual 90, 3) := by decide +kernel
theorem dX4_reachingFrom_73 : decode cX4_reachingFrom 73 = .ok (.ifCond .eq 25, 3) := by decide +kernel
theorem dX4_reachingFrom_76 : decode cX4_reachingFrom 76 = .ok (.aload_n 0, 1) := by decide +kernel
theorem dX4_reachingFrom_77 : decode cX4_reachingFrom 77 = .ok (.getfield 25, 3) := by decide +kernel
theorem dX4_reachingFrom_80 : decode cX4_reachingFrom 80 = .ok (.iload_n 1, 1) := by decide +kernel
theorem dX4_reachingFrom_81 : decode cX4_reachingFrom 81 = .ok (.iload 5, 2) := by decide +kernel
theorem dX4_reachingFrom_83 : decode cX4_reachingFrom 83 = .ok (.iastore, 1) := by decide +kernel
theorem dX4_reachingFrom_84 : decode cX4_reachingFrom 84 = .ok (.iload 4, 2) := by decide +kernel
theorem dX4_reachingFrom_86 : decode cX4_reachingFrom 86 = .ok (.aload_n 0, 1) := by decide +kernel
theorem dX4_reachingFrom_87 : decode cX4_reachingFrom 87 = .ok (.iload_n 1, 1) := by decide +kernel
theorem dX4_reachingFrom_88 : decode cX4_reachingFrom 88 = .ok (.iconst 1, 1) := by decide +kernel
theorem dX4_reachingFrom_89 : decode cX4_reachingFrom 89 = .ok (.iadd, 1) := by decide +kernel
theorem dX4_reachingFrom_90 : decode cX4_reachingFrom 90 = .ok (.iload 6, 2) := by decide +kernel
theorem dX4_reachingFrom_92 : decode cX4_reachingFrom 92 = .ok (.invokestatic 101, 3) := by decide +kernel
theorem dX4_reachingFrom_95 : decode cX4_reachingFrom 95 = .ok (.iadd, 1) := by decide +kernel
theorem dX4_reachingFrom_96 : decode cX4_reachingFrom 96 = .ok (.istore 4, 2) := by decide +kernel
theorem dX4_reachingFrom_98 : decode cX4_reachingFrom 98 = .ok (.iinc 5 1, 3) := by decide +kernel
theorem dX4_reachingFrom_101 : decode cX4_reachingFrom 101 = .ok (.goto (-64), 3) := by decide +kernel
theorem dX4_reachingFrom_104 : decode cX4_reachingFrom 104 = .ok (.iload 4, 2) := by decide +kernel
theorem dX4_reachingFrom_106 : decode cX4_reachingFrom 106 = .ok (.ireturn, 1) := by decide +kernel
noncomputable def f_X4_reachingFrom_b98 (rec : Nat → Int32 → Int32 → Hp → Option (Int32 × Hp)) (x0 : Nat) (x1 : Int32) (x2 : Int32) (x3 : Int32) (x4 : Int32) (x5 : Int32) (σ : Hp) : Option (((Int32 × Int32) ⊕ (Int32)) × Hp) := some (Sum.inl (x4, (x5 + 1)), σ)
set_option maxRecDepth 100000 in
set_option maxHeartbeats 4000000 in
theorem t_X4_reachingFrom_b98 {l : Launch} {γ : Gm} {ad : Nat → Nat} {K : Option Value → Hp → Prop} {n : Nat} (hc : Cx l γ (3 + n + 1) 7 ad shC RX4 cX4_reachingFrom (some .int) K) {rec : Nat → Int32 → Int32 → Hp → Option (Int32 × Hp)} (hrec : ∀ (x0 : Nat) (x1 : Int32) (x2 : Int32) (σ σ' : Hp) (r : Int32), rec x0 x1 x2 σ = some (r, σ') → Mt l yX4_reachingFrom cX4_reachingFrom 7 (some .int) (3 + n) shC (fun ad => [.ref (ad x0), .int x1, .int x2]) σ (fun ad => some (.int r)) σ') {x0 : Nat} {x1 : Int32} {x2 : Int32} {x3 : Int32} {x4 : Int32} {x5 : Int32}  {σ : Hp} {KL : ((Int32 × Int32) ⊕ (Int32)) → Hp → Prop} (h : wpO (f_X4_reachingFrom_b98 rec x0 x1 x2 x3 x4 x5 σ) KL) (kn : ∀ (v : (Int32 × Int32)) (σ : Hp), KL (Sum.inl v) σ → WW l γ (3 + n + 1) 7 ad shC 37 [(0, .ref (ad x0)), (1, .int x1), (2, .int x2), (3, .int x3), (4, .int v.1), (5, .int v.2)] [] σ) (kx104 : ∀ (v : Int32) (σ : Hp), KL (Sum.inr v) σ → WW l γ (3 + n + 1) 7 ad shC 104 [(4, .int v)] [] σ) : WW l γ (3 + n + 1) 7 ad shC 98 [(0, .ref (ad x0)), (1, .int x1), (2, .int x2), (3, .int x3), (4, .int x4), (5, .int x5)] [] σ := by
  unfold f_X4_reachingFrom_b98 at h
  refine r_iincE hc (j := 5) (w := 1) (lv' := [(5, .int (x5 + 1)), (0, .ref (ad x0)), (1, .int x1), (2, .int x2), (3, .int x3), (4, .int x4)]) rfl (by decide) rfl (by decide) rfl dX4_reachingFrom_98 ?_
  refine r_goto hc (tgt := 37) dX4_reachingFrom_101 (by decide) ?_
  refine r_sub [1, 2, 3, 4, 5, 0] (lv' := [(0, .ref (ad x0)), (1, .int x1), (2, .int x2), (3, .int x3), (4, .int x4), (5, .int (x5 + 1))]) rfl ?_
  have h := wp_v h
  exact kn (x4, (x5 + 1)) _ h
noncomputable def f_X4_reachingFrom_L37 (rec : Nat → Int32 → Int32 → Hp → Option (Int32 × Hp)) (x0 : Nat) (x1 : Int32) (x2 : Int32) (x3 : Int32) (v : (Int32 × Int32)) (σ : Hp) : Option (((Int32 × Int32) ⊕ (Int32)) × Hp) := gO (getR shC 4 x0 1 σ) fun v1 => gO (getI shC 1 v1 0 σ) fun v2 => if v2 ≤ v.2 then (some (Sum.inr v.1, σ)) else (lt' ((x2 ||| ((1 : Int32) <<< (v.2 &&& 31)))) fun t3 => bO (f_X6_has x3 v.2 σ) fun r4 σ5 => if r4 = 0 then (f_X4_reachingFrom_b98 rec x0 x1 x2 x3 v.1 v.2 σ5) else (gO (chk shC x0 4) fun _ => bO (f_X4_inBounds x0 x1 t3 σ5) fun r6 σ7 => if r6 = 0 then (f_X4_reachingFrom_b98 rec x0 x1 x2 x3 v.1 v.2 σ7) else (gO (getR shC 4 x0 3 σ7) fun v9 => gO (astI shC 0 v9 x1 v.2 σ7) fun σ10 => bO (rec x0 (x1 + 1) t3 σ10) fun r11 σ12 => f_X4_reachingFrom_b98 rec x0 x1 x2 x3 (v.1 + r11) v.2 σ12)))
set_option maxRecDepth 100000 in
set_option maxHeartbeats 4000000 in
theorem t_X4_reachingFrom_L37 {l : Launch} {γ : Gm} {ad : Nat → Nat} {K : Option Value → Hp → Prop} {n : Nat} (hc : Cx l γ (3 + n + 1) 7 ad shC RX4 cX4_reachingFrom (some .int) K) {rec : Nat → Int32 → Int32 → Hp → Option (Int32 × Hp)} (hrec : ∀ (x0 : Nat) (x1 : Int32) (x2 : Int32) (σ σ' : Hp) (r : Int32), rec x0 x1 x2 σ = some (r, σ') → Mt l yX4_reachingFrom cX4_reachingFrom 7 (some .int) (3 + n) shC (fun ad => [.ref (ad x0), .int x1, .int x2]) σ (fun ad => some (.int r)) σ') {x0 : Nat} {x1 : Int32} {x2 : Int32} {x3 : Int32} {v : (Int32 × Int32)} {σ : Hp} {KX : (Int32) → Hp → Prop} (h : wpO (wh (f_X4_reachingFrom_L37 rec x0 x1 x2 x3) v σ) KX) (kx104 : ∀ (v : Int32) (σ : Hp), KX v σ → WW l γ (3 + n + 1) 7 ad shC 104 [(4, .int v)] [] σ) : WW l γ (3 + n + 1) 7 ad shC 37 [(0, .ref (ad x0)), (1, .int x1), (2, .int x2), (3, .int x3), (4, .int v.1), (5, .int v.2)] [] σ := by
  refine wh_W (P := fun v σ => WW l γ (3 + n + 1) 7 ad shC 37 [(0, .ref (ad x0)), (1, .int x1), (2, .int x2), (3, .int x3), (4, .int v.1), (5, .int v.2)] [] σ) (fun v σ h => ?_) h
  have kn : ∀ (v : (Int32 × Int32)) (σ : Hp), WW l γ (3 + n + 1) 7 ad shC 37 [(0, .ref (ad x0)), (1, .int x1), (2, .int x2), (3, .int x3), (4, .int v.1), (5, .int v.2)] [] σ → WW l γ (3 + n + 1) 7 ad shC 37 [(0, .ref (ad x0)), (1, .int x1), (2, .int x2), (3, .int x3), (4, .int v.1), (5, .int v.2)] [] σ := fun _ _ h => h
  · unfold f_X4_reachingFrom_L37 at h
    refine r_iload hc 5 rfl dX4_reachingFrom_37 ?_
    refine r_aload_n hc 0 rfl rfl dX4_reachingFrom_39 ?_
    obtain ⟨v1, ev1, h⟩ := wp_g h
    refine r_getR hc ev1 fl_X4_18 rfl dX4_reachingFrom_40 ?_
    obtain ⟨v2, ev2, h⟩ := wp_g h
    refine r_getI hc ev2 fl_X4_40 rfl dX4_reachingFrom_43 ?_
    refine r_icmp_ge hc (tgt := 104) dX4_reachingFrom_46 (by decide) (fun c => ?_) (fun c => ?_)
    · have h := wp_t c h
      refine r_sub [4] (lv' := [(4, .int v.1)]) rfl ?_
      have h := wp_v h
      exact kx104 v.1 _ h
    · have h := wp_f c h
      refine r_iload_n hc 2 rfl rfl dX4_reachingFrom_49 ?_
      refine r_iconst hc (v := 1) (by decide) dX4_reachingFrom_50 ?_
      refine r_iload hc 5 rfl dX4_reachingFrom_51 ?_
      refine r_ishl hc dX4_reachingFrom_53 ?_
      refine r_ior hc dX4_reachingFrom_54 ?_
      obtain ⟨t3, et3, h⟩ := wp_l h
      refine r_istoreE hc (i := 6) (lv' := [(6, .int t3), (0, .ref (ad x0)), (1, .int x1), (2, .int x2), (3, .int x3), (4, .int v.1), (5, .int v.2)]) et3 (by decide) rfl dX4_reachingFrom_55 ?_
      refine r_iload_n hc 4 rfl rfl dX4_reachingFrom_57 ?_
      refine r_iload hc 6 rfl dX4_reachingFrom_58 ?_
      obtain ⟨r4, σ5, er4, h⟩ := wp_b h
      refine r_callSN hc ms_X6_has nl_X4_70 (c_X6_has er4) rfl rfl (by omega) rfl (Nat.le_of_ble_eq_true rfl) dX4_reachingFrom_60 ?_
      refine r_if_eq hc (tgt := 98) dX4_reachingFrom_63 (by decide) (fun c => ?_) (fun c => ?_)
      · have h := wp_t c h
        refine r_sub [1, 2, 3, 4, 5, 6] (lv' := [(0, .ref (ad x0)), (1, .int x1), (2, .int x2), (3, .int x3), (4, .int v.1), (5, .int v.2)]) rfl ?_
        exact t_X4_reachingFrom_b98 hc hrec h kn kx104
      · have h := wp_f c h
        refine r_aload_n hc 1 rfl rfl dX4_reachingFrom_66 ?_
        refine r_iload_n hc 2 rfl rfl dX4_reachingFrom_67 ?_
        refine r_iload hc 0 rfl dX4_reachingFrom_68 ?_
        obtain ⟨_, ek8, h⟩ := wp_g h
        obtain ⟨r6, σ7, er6, h⟩ := wp_b h
        refine r_callV hc (k0 := x0) mv_X4_inBounds ml_X4_90 (c_X4_inBounds er6) (chk_of ek8) cls_4.1 rfl rfl rfl (by omega) rfl (Nat.le_of_ble_eq_true rfl) dX4_reachingFrom_70 ?_
        refine r_if_eq hc (tgt := 98) dX4_reachingFrom_73 (by decide) (fun c => ?_) (fun c => ?_)
        · have h := wp_t c h
          refine r_sub [1, 2, 3, 4, 5, 6] (lv' := [(0, .ref (ad x0)), (1, .int x1), (2, .int x2), (3, .int x3), (4, .int v.1), (5, .int v.2)]) rfl ?_
          exact t_X4_reachingFrom_b98 hc hrec h kn kx104
        · have h := wp_f c h
          refine r_aload_n hc 1 rfl rfl dX4_reachingFrom_76 ?_
          obtain ⟨v9, ev9, h⟩ := wp_g h
          refine r_getR hc ev9 fl_X4_25 rfl dX4_reachingFrom_77 ?_
          refine r_iload_n hc 2 rfl rfl dX4_reachingFrom_80 ?_
          refine r_iload hc 6 rfl dX4_reachingFrom_81 ?_
          obtain ⟨σ10, eσ10, h⟩ := wp_g h
          refine r_iast hc eσ10 dX4_reachingFrom_83 ?_
          refine r_iload hc 5 rfl dX4_reachingFrom_84 ?_
          refine r_aload_n hc 1 rfl rfl dX4_reachingFrom_86 ?_
          refine r_iload_n hc 2 rfl rfl dX4_reachingFrom_87 ?_
          refine r_iconst hc (v := 1) (by decide) dX4_reachingFrom_88 ?_
          refine r_iadd hc dX4_reachingFrom_89 ?_
          refine r_iload hc 0 rfl dX4_reachingFrom_90 ?_
          obtain ⟨r11, σ12, er11, h⟩ := wp_b h
          refine r_callS hc ms_X4_reachingFrom ml_X4_101 (hrec _ _ _ _ _ _ er11) rfl rfl (by omega) rfl (Nat.le_of_ble_eq_true rfl) dX4_reachingFrom_92 ?_
          refine r_iadd hc dX4_reachingFrom_95 ?_
          refine r_istoreE hc (i := 4) (lv' := [(4, .int (v.1 + r11)), (6, .int t3), (0, .ref (ad x0)), (1, .int x1), (2, .int x2), (3, .int x3), (5, .int v.2)]) rfl (by decide) rfl dX4_reachingFrom_96 ?_
          refine r_sub [2, 3, 4, 5, 0, 6] (lv' := [(0, .ref (ad x0)), (1, .int x1), (2, .int x2), (3, .int x3), (4, .int (v.1 + r11)), (5, .int v.2)]) rfl ?_
          exact t_X4_reachingFrom_b98 hc hrec h kn kx104
noncomputable def f_X4_reachingFrom_b23 (rec : Nat → Int32 → Int32 → Hp → Option (Int32 × Hp)) (s0 : Int32) (σ : Hp) : Option (Int32 × Hp) := some (s0, σ)
set_option maxRecDepth 100000 in
set_option maxHeartbeats 4000000 in
theorem t_X4_reachingFrom_b23 {l : Launch} {γ : Gm} {ad : Nat → Nat} {K : Option Value → Hp → Prop} {n : Nat} (hc : Cx l γ (3 + n + 1) 7 ad shC RX4 cX4_reachingFrom (some .int) K) {rec : Nat → Int32 → Int32 → Hp → Option (Int32 × Hp)} (hrec : ∀ (x0 : Nat) (x1 : Int32) (x2 : Int32) (σ σ' : Hp) (r : Int32), rec x0 x1 x2 σ = some (r, σ') → Mt l yX4_reachingFrom cX4_reachingFrom 7 (some .int) (3 + n) shC (fun ad => [.ref (ad x0), .int x1, .int x2]) σ (fun ad => some (.int r)) σ') {s0 : Int32} {σ : Hp} (h : wpO (f_X4_reachingFrom_b23 rec s0 σ) (KI K)) : WW l γ (3 + n + 1) 7 ad shC 23 [] [.int s0] σ := by
  unfold f_X4_reachingFrom_b23 at h
  have h := wp_v h
  exact r_iret hc h dX4_reachingFrom_23
noncomputable def f_X4_reachingFrom_body (rec : Nat → Int32 → Int32 → Hp → Option (Int32 × Hp)) (x0 : Nat) (x1 : Int32) (x2 : Int32) (σ : Hp) : Option (Int32 × Hp) := gO (getR shC 4 x0 0 σ) fun v1 => gO (getI shC 1 v1 0 σ) fun v2 => if x1 < v2 then (gO (chk shC x0 4) fun _ => bO (f_X4_choices x0 x1 x2 σ) fun r3 σ4 => bO (wh (f_X4_reachingFrom_L37 rec x0 x1 x2 r3) (0, 0) σ4) fun y6 σ7 => (some (y6, σ7))) else (gO (chk shC x0 4) fun _ => bO (f_X4_reachesLines x0 σ) fun r8 σ9 => if r8 = 0 then (f_X4_reachingFrom_b23 rec 0 σ9) else (f_X4_reachingFrom_b23 rec 1 σ9))
set_option maxRecDepth 100000 in
set_option maxHeartbeats 4000000 in
theorem t_X4_reachingFrom {l : Launch} {γ : Gm} {ad : Nat → Nat} {K : Option Value → Hp → Prop} {n : Nat} (hc : Cx l γ (3 + n + 1) 7 ad shC RX4 cX4_reachingFrom (some .int) K) {rec : Nat → Int32 → Int32 → Hp → Option (Int32 × Hp)} (hrec : ∀ (x0 : Nat) (x1 : Int32) (x2 : Int32) (σ σ' : Hp) (r : Int32), rec x0 x1 x2 σ = some (r, σ') → Mt l yX4_reachingFrom cX4_reachingFrom 7 (some .int) (3 + n) shC (fun ad => [.ref (ad x0), .int x1, .int x2]) σ (fun ad => some (.int r)) σ') {x0 : Nat} {x1 : Int32} {x2 : Int32} {σ : Hp} (h : wpO (f_X4_reachingFrom_body rec x0 x1 x2 σ) (KI K)) : WW l γ (3 + n + 1) 7 ad shC 0 [(0, .ref (ad x0)), (1, .int x1), (2, .int x2)] [] σ := by
  unfold f_X4_reachingFrom_body at h
  refine r_iload_n hc 1 rfl rfl dX4_reachingFrom_0 ?_
  refine r_aload_n hc 0 rfl rfl dX4_reachingFrom_1 ?_
  obtain ⟨v1, ev1, h⟩ := wp_g h
  refine r_getR hc ev1 fl_X4_12 rfl dX4_reachingFrom_2 ?_
  obtain ⟨v2, ev2, h⟩ := wp_g h
  refine r_getI hc ev2 fl_X4_40 rfl dX4_reachingFrom_5 ?_
  refine r_icmp_lt hc (tgt := 24) dX4_reachingFrom_8 (by decide) (fun c => ?_) (fun c => ?_)
  · have h := wp_t c h
    refine r_aload_n hc 0 rfl rfl dX4_reachingFrom_24 ?_
    refine r_iload_n hc 1 rfl rfl dX4_reachingFrom_25 ?_
    refine r_iload_n hc 2 rfl rfl dX4_reachingFrom_26 ?_
    obtain ⟨_, ek5, h⟩ := wp_g h
    obtain ⟨r3, σ4, er3, h⟩ := wp_b h
    refine r_callV hc (k0 := x0) mv_X4_choices ml_X4_86 (c_X4_choices er3) (chk_of ek5) cls_4.1 rfl rfl rfl (by omega) rfl (Nat.le_of_ble_eq_true rfl) dX4_reachingFrom_27 ?_
    refine r_istore_nE hc (i := 3) (lv' := [(3, .int r3), (0, .ref (ad x0)), (1, .int x1), (2, .int x2)]) rfl rfl (by decide) rfl dX4_reachingFrom_30 ?_
    refine r_iconst hc (v := 0) (by decide) dX4_reachingFrom_31 ?_
    refine r_istoreE hc (i := 4) (lv' := [(4, .int 0), (3, .int r3), (0, .ref (ad x0)), (1, .int x1), (2, .int x2)]) rfl (by decide) rfl dX4_reachingFrom_32 ?_
    refine r_iconst hc (v := 0) (by decide) dX4_reachingFrom_34 ?_
    refine r_istoreE hc (i := 5) (lv' := [(5, .int 0), (4, .int 0), (3, .int r3), (0, .ref (ad x0)), (1, .int x1), (2, .int x2)]) rfl (by decide) rfl dX4_reachingFrom_35 ?_
    refine r_sub [3, 4, 5, 2, 1, 0] (lv' := [(0, .ref (ad x0)), (1, .int x1), (2, .int x2), (3, .int r3), (4, .int 0), (5, .int 0)]) rfl ?_
    refine t_X4_reachingFrom_L37 hc hrec (wp_bb h) ?_
    · intro y6 σ7 h
      refine r_iload hc 0 rfl dX4_reachingFrom_104 ?_
      have h := wp_v h
      exact r_iret hc h dX4_reachingFrom_106
  · have h := wp_f c h
    refine r_aload_n hc 0 rfl rfl dX4_reachingFrom_11 ?_
    obtain ⟨_, ek10, h⟩ := wp_g h
    obtain ⟨r8, σ9, er8, h⟩ := wp_b h
    refine r_callV hc (k0 := x0) mv_X4_reachesLines ml_X4_104 (c_X4_reachesLines er8) (chk_of ek10) cls_4.1 rfl rfl rfl (by omega) rfl (Nat.le_of_ble_eq_true rfl) dX4_reachingFrom_12 ?_
    refine r_if_eq hc (tgt := 22) dX4_reachingFrom_15 (by decide) (fun c => ?_) (fun c => ?_)
    · have h := wp_t c h
      refine r_iconst hc (v := 0) (by decide) dX4_reachingFrom_22 ?_
      refine r_sub [] (lv' := []) rfl ?_
      exact t_X4_reachingFrom_b23 hc hrec h
    · have h := wp_f c h
      refine r_iconst hc (v := 1) (by decide) dX4_reachingFrom_18 ?_
      refine r_goto hc (tgt := 23) dX4_reachingFrom_19 (by decide) ?_
      refine r_sub [] (lv' := []) rfl ?_
      exact t_X4_reachingFrom_b23 hc hrec h
noncomputable def f_X4_reachingFrom : Nat → Nat → Int32 → Int32 → Hp → Option (Int32 × Hp)
  | 0 => fun _ _ _ _ => none
  | n + 1 => f_X4_reachingFrom_body (f_X4_reachingFrom n)
theorem cn_X4_reachingFrom {l : Launch} : ∀ (n : Nat) (x0 : Nat) (x1 : Int32) (x2 : Int32) (σ σ' : Hp) (r : Int32), f_X4_reachingFrom n x0 x1 x2 σ = some (r, σ') → Mt l yX4_reachingFrom cX4_reachingFrom 7 (some .int) (3 + n) shC (fun ad => [.ref (ad x0), .int x1, .int x2]) σ (fun ad => some (.int r)) σ' := by
  intro n
  induction n with
  | zero => intro x0 x1 x2 σ σ' r h; cases h
  | succ n ih => intro x0 x1 x2 σ σ' r h; exact mt_i (own := RX4) (by decide) rfl (fun _ => Nat.le_of_ble_eq_true rfl) (fun γ ad K hc hk => t_X4_reachingFrom (n := n) hc ih ⟨_, _, h, hk⟩)
theorem c_X4_reachingFrom {l : Launch} {x0 : Nat} {x1 : Int32} {x2 : Int32} {σ σ' : Hp} {r : Int32} (h : f_X4_reachingFrom 30 x0 x1 x2 σ = some (r, σ')) : Mt l yX4_reachingFrom cX4_reachingFrom 7 (some .int) 33 shC (fun ad => [.ref (ad x0), .int x1, .int x2]) σ (fun ad => some (.int r)) σ' := cn_X4_reachingFrom 30 x0 x1 x2 σ σ' r h

-- NetMaps$Search.howManyReachLines()I
theorem dX4_howManyReachLines_0 : decode cX4_howManyReachLines 0 = .ok (.aload_n 0, 1) := by decide +kernel
theorem dX4_howManyReachLines_1 : decode cX4_howManyReachLines 1 = .ok (.iconst 0, 1) := by decide +kernel
theorem dX4_howManyReachLines_2 : decode cX4_howManyReachLines 2 = .ok (.iconst 0, 1) := by decide +kernel
theorem dX4_howManyReachLines_3 : decode cX4_howManyReachLines 3 = .ok (.invokestatic 101, 3) := by decide +kernel
theorem dX4_howManyReachLines_6 : decode cX4_howManyReachLines 6 = .ok (.ireturn, 1) := by decide +kernel
noncomputable def f_X4_howManyReachLines (x0 : Nat) (σ : Hp) : Option (Int32 × Hp) := bO (f_X4_reachingFrom 30 x0 0 0 σ) fun r1 σ2 => some (r1, σ2)
set_option maxRecDepth 100000 in
set_option maxHeartbeats 4000000 in
theorem t_X4_howManyReachLines {l : Launch} {γ : Gm} {ad : Nat → Nat} {K : Option Value → Hp → Prop} (hc : Cx l γ 35 1 ad shC RX4 cX4_howManyReachLines (some .int) K) {x0 : Nat} {σ : Hp} (h : wpO (f_X4_howManyReachLines x0 σ) (KI K)) : WW l γ 35 1 ad shC 0 [(0, .ref (ad x0))] [] σ := by
  unfold f_X4_howManyReachLines at h
  refine r_aload_n hc 0 rfl rfl dX4_howManyReachLines_0 ?_
  refine r_iconst hc (v := 0) (by decide) dX4_howManyReachLines_1 ?_
  refine r_iconst hc (v := 0) (by decide) dX4_howManyReachLines_2 ?_
  obtain ⟨r1, σ2, er1, h⟩ := wp_b h
  refine r_callS hc ms_X4_reachingFrom ml_X4_101 (c_X4_reachingFrom er1) rfl rfl (by decide) rfl (Nat.le_of_ble_eq_true rfl) dX4_howManyReachLines_3 ?_
  have h := wp_v h
  exact r_iret hc h dX4_howManyReachLines_6
theorem c_X4_howManyReachLines {l : Launch} {x0 : Nat} {σ σ' : Hp} {r : Int32} (h : f_X4_howManyReachLines x0 σ = some (r, σ')) : Mt l yX4_howManyReachLines cX4_howManyReachLines 1 (some .int) 35 shC (fun ad => [.ref (ad x0)]) σ (fun ad => some (.int r)) σ' := mt_i (own := RX4) (by decide) rfl (fun _ => Nat.le_of_ble_eq_true rfl) (fun γ ad K hc hk => t_X4_howManyReachLines hc ⟨_, _, h, hk⟩)

-- NetMaps.maps(III)I
theorem dX6_maps_0 : decode cX6_maps 0 = .ok (.iload_n 1, 1) := by decide +kernel
theorem dX6_maps_1 : decode cX6_maps 1 = .ok (.invokestatic 76, 3) := by decide +kernel
theorem dX6_maps_4 : decode cX6_maps 4 = .ok (.ifCond .ne 19, 3) := by decide +kernel
theorem dX6_maps_7 : decode cX6_maps 7 = .ok (.iload_n 2, 1) := by decide +kernel
theorem dX6_maps_8 : decode cX6_maps 8 = .ok (.invokestatic 76, 3) := by decide +kernel
theorem dX6_maps_11 : decode cX6_maps 11 = .ok (.ifCond .ne 12, 3) := by decide +kernel
theorem dX6_maps_14 : decode cX6_maps 14 = .ok (.iload_n 3, 1) := by decide +kernel
theorem dX6_maps_15 : decode cX6_maps 15 = .ok (.ifCond .lt 8, 3) := by decide +kernel
theorem dX6_maps_18 : decode cX6_maps 18 = .ok (.iload_n 3, 1) := by decide +kernel
theorem dX6_maps_19 : decode cX6_maps 19 = .ok (.iconst 4, 1) := by decide +kernel
theorem dX6_maps_20 : decode cX6_maps 20 = .ok (.if_icmp .le 5, 3) := by decide +kernel
theorem dX6_maps_23 : decode cX6_maps 23 = .ok (.iconst (-1), 1) := by decide +kernel
theorem dX6_maps_24 : decode cX6_maps 24 = .ok (.ireturn, 1) := by decide +kernel
theorem dX6_maps_25 : decode cX6_maps 25 = .ok (.aload_n 0, 1) := by decide +kernel
theorem dX6_maps_26 : decode cX6_maps 26 = .ok (.iload_n 1, 1) := by decide +kernel
theorem dX6_maps_27 : decode cX6_maps 27 = .ok (.invokevirtual 91, 3) := by decide +kernel
theorem dX6_maps_30 : decode cX6_maps 30 = .ok (.astore 4, 2) := by decide +kernel
theorem dX6_maps_32 : decode cX6_maps 32 = .ok (.aload_n 0, 1) := by decide +kernel
theorem dX6_maps_33 : decode cX6_maps 33 = .ok (.iload_n 2, 1) := by decide +kernel
theorem dX6_maps_34 : decode cX6_maps 34 = .ok (.invokevirtual 91, 3) := by decide +kernel
theorem dX6_maps_37 : decode cX6_maps 37 = .ok (.astore 5, 2) := by decide +kernel
theorem dX6_maps_39 : decode cX6_maps 39 = .ok (.aload 4, 2) := by decide +kernel
theorem dX6_maps_41 : decode cX6_maps 41 = .ok (.invokevirtual 109, 3) := by decide +kernel
theorem dX6_maps_44 : decode cX6_maps 44 = .ok (.ifCond .ne 11, 3) := by decide +kernel
theorem dX6_maps_47 : decode cX6_maps 47 = .ok (.aload 5, 2) := by decide +kernel
theorem dX6_maps_49 : decode cX6_maps 49 = .ok (.invokevirtual 109, 3) := by decide +kernel
theorem dX6_maps_52 : decode cX6_maps 52 = .ok (.ifCond .eq 6, 3) := by decide +kernel
theorem dX6_maps_55 : decode cX6_maps 55 = .ok (.bipush (-2), 2) := by decide +kernel
theorem dX6_maps_57 : decode cX6_maps 57 = .ok (.ireturn, 1) := by decide +kernel
theorem dX6_maps_58 : decode cX6_maps 58 = .ok (.iload_n 3, 1) := by decide +kernel
theorem dX6_maps_59 : decode cX6_maps 59 = .ok (.iconst 4, 1) := by decide +kernel
theorem dX6_maps_60 : decode cX6_maps 60 = .ok (.if_icmp .ne 45, 3) := by decide +kernel
theorem dX6_maps_63 : decode cX6_maps 63 = .ok (.aload 4, 2) := by decide +kernel
theorem dX6_maps_65 : decode cX6_maps 65 = .ok (.getfield 126, 3) := by decide +kernel
theorem dX6_maps_68 : decode cX6_maps 68 = .ok (.aload 5, 2) := by decide +kernel
theorem dX6_maps_70 : decode cX6_maps 70 = .ok (.getfield 126, 3) := by decide +kernel
theorem dX6_maps_73 : decode cX6_maps 73 = .ok (.if_icmp .ne 16, 3) := by decide +kernel
theorem dX6_maps_76 : decode cX6_maps 76 = .ok (.aload 4, 2) := by decide +kernel
theorem dX6_maps_78 : decode cX6_maps 78 = .ok (.invokevirtual 102, 3) := by decide +kernel
theorem dX6_maps_81 : decode cX6_maps 81 = .ok (.aload 5, 2) := by decide +kernel
theorem dX6_maps_83 : decode cX6_maps 83 = .ok (.invokevirtual 102, 3) := by decide +kernel
theorem dX6_maps_86 : decode cX6_maps 86 = .ok (.if_icmp .eq 5, 3) := by decide +kernel
theorem dX6_maps_89 : decode cX6_maps 89 = .ok (.iconst 0, 1) := by decide +kernel
theorem dX6_maps_90 : decode cX6_maps 90 = .ok (.ireturn, 1) := by decide +kernel
theorem dX6_maps_91 : decode cX6_maps 91 = .ok (.aload_n 0, 1) := by decide +kernel
theorem dX6_maps_92 : decode cX6_maps 92 = .ok (.getfield 41, 3) := by decide +kernel
theorem dX6_maps_95 : decode cX6_maps 95 = .ok (.aload 4, 2) := by decide +kernel
theorem dX6_maps_97 : decode cX6_maps 97 = .ok (.aload 5, 2) := by decide +kernel
theorem dX6_maps_99 : decode cX6_maps 99 = .ok (.invokevirtual 216, 3) := by decide +kernel
theorem dX6_maps_102 : decode cX6_maps 102 = .ok (.goto 21, 3) := by decide +kernel
theorem dX6_maps_105 : decode cX6_maps 105 = .ok (.aload_n 0, 1) := by decide +kernel
theorem dX6_maps_106 : decode cX6_maps 106 = .ok (.getfield 41, 3) := by decide +kernel
theorem dX6_maps_109 : decode cX6_maps 109 = .ok (.aload 4, 2) := by decide +kernel
theorem dX6_maps_111 : decode cX6_maps 111 = .ok (.aload 5, 2) := by decide +kernel
theorem dX6_maps_113 : decode cX6_maps 113 = .ok (.aload_n 0, 1) := by decide +kernel
theorem dX6_maps_114 : decode cX6_maps 114 = .ok (.getfield 10, 3) := by decide +kernel
theorem dX6_maps_117 : decode cX6_maps 117 = .ok (.getfield 213, 3) := by decide +kernel
theorem dX6_maps_120 : decode cX6_maps 120 = .ok (.invokevirtual 220, 3) := by decide +kernel
theorem dX6_maps_123 : decode cX6_maps 123 = .ok (.iload_n 3, 1) := by decide +kernel
theorem dX6_maps_124 : decode cX6_maps 124 = .ok (.iconst 1, 1) := by decide +kernel
theorem dX6_maps_125 : decode cX6_maps 125 = .ok (.if_icmp .eq 8, 3) := by decide +kernel
theorem dX6_maps_128 : decode cX6_maps 128 = .ok (.iload_n 3, 1) := by decide +kernel
theorem dX6_maps_129 : decode cX6_maps 129 = .ok (.iconst 4, 1) := by decide +kernel
theorem dX6_maps_130 : decode cX6_maps 130 = .ok (.if_icmp .ne 17, 3) := by decide +kernel
theorem dX6_maps_133 : decode cX6_maps 133 = .ok (.aload_n 0, 1) := by decide +kernel
theorem dX6_maps_134 : decode cX6_maps 134 = .ok (.getfield 41, 3) := by decide +kernel
theorem dX6_maps_137 : decode cX6_maps 137 = .ok (.aload 4, 2) := by decide +kernel
theorem dX6_maps_139 : decode cX6_maps 139 = .ok (.getfield 126, 3) := by decide +kernel
theorem dX6_maps_142 : decode cX6_maps 142 = .ok (.bipush 7, 2) := by decide +kernel
theorem dX6_maps_144 : decode cX6_maps 144 = .ok (.invokevirtual 224, 3) := by decide +kernel
theorem dX6_maps_147 : decode cX6_maps 147 = .ok (.iload_n 3, 1) := by decide +kernel
theorem dX6_maps_148 : decode cX6_maps 148 = .ok (.iconst 2, 1) := by decide +kernel
theorem dX6_maps_149 : decode cX6_maps 149 = .ok (.if_icmp .eq 8, 3) := by decide +kernel
theorem dX6_maps_152 : decode cX6_maps 152 = .ok (.iload_n 3, 1) := by decide +kernel
theorem dX6_maps_153 : decode cX6_maps 153 = .ok (.iconst 3, 1) := by decide +kernel
theorem dX6_maps_154 : decode cX6_maps 154 = .ok (.if_icmp .ne 17, 3) := by decide +kernel
theorem dX6_maps_157 : decode cX6_maps 157 = .ok (.aload_n 0, 1) := by decide +kernel
theorem dX6_maps_158 : decode cX6_maps 158 = .ok (.getfield 41, 3) := by decide +kernel
theorem dX6_maps_161 : decode cX6_maps 161 = .ok (.aload 5, 2) := by decide +kernel
theorem dX6_maps_163 : decode cX6_maps 163 = .ok (.getfield 126, 3) := by decide +kernel
theorem dX6_maps_166 : decode cX6_maps 166 = .ok (.bipush 7, 2) := by decide +kernel
theorem dX6_maps_168 : decode cX6_maps 168 = .ok (.invokevirtual 224, 3) := by decide +kernel
theorem dX6_maps_171 : decode cX6_maps 171 = .ok (.iload_n 3, 1) := by decide +kernel
theorem dX6_maps_172 : decode cX6_maps 172 = .ok (.iconst 3, 1) := by decide +kernel
theorem dX6_maps_173 : decode cX6_maps 173 = .ok (.if_icmp .ne 13, 3) := by decide +kernel
theorem dX6_maps_176 : decode cX6_maps 176 = .ok (.aload_n 0, 1) := by decide +kernel
theorem dX6_maps_177 : decode cX6_maps 177 = .ok (.getfield 41, 3) := by decide +kernel
theorem dX6_maps_180 : decode cX6_maps 180 = .ok (.invokevirtual 227, 3) := by decide +kernel
theorem dX6_maps_183 : decode cX6_maps 183 = .ok (.goto 10, 3) := by decide +kernel
theorem dX6_maps_186 : decode cX6_maps 186 = .ok (.aload_n 0, 1) := by decide +kernel
theorem dX6_maps_187 : decode cX6_maps 187 = .ok (.getfield 41, 3) := by decide +kernel
theorem dX6_maps_190 : decode cX6_maps 190 = .ok (.invokevirtual 230, 3) := by decide +kernel
theorem dX6_maps_193 : decode cX6_maps 193 = .ok (.ireturn, 1) := by decide +kernel
noncomputable def f_X6_maps_b23  (σ : Hp) : Option (Int32 × Hp) := some ((-1), σ)
set_option maxRecDepth 100000 in
set_option maxHeartbeats 4000000 in
theorem t_X6_maps_b23 {l : Launch} {γ : Gm} {ad : Nat → Nat} {K : Option Value → Hp → Prop} (hc : Cx l γ 36 6 ad shC RX6 cX6_maps (some .int) K)  {σ : Hp} (h : wpO (f_X6_maps_b23  σ) (KI K)) : WW l γ 36 6 ad shC 23 [] [] σ := by
  unfold f_X6_maps_b23 at h
  refine r_iconst hc (v := (-1)) (by decide) dX6_maps_23 ?_
  have h := wp_v h
  exact r_iret hc h dX6_maps_24
noncomputable def f_X6_maps_b55  (σ : Hp) : Option (Int32 × Hp) := some ((-2), σ)
set_option maxRecDepth 100000 in
set_option maxHeartbeats 4000000 in
theorem t_X6_maps_b55 {l : Launch} {γ : Gm} {ad : Nat → Nat} {K : Option Value → Hp → Prop} (hc : Cx l γ 36 6 ad shC RX6 cX6_maps (some .int) K)  {σ : Hp} (h : wpO (f_X6_maps_b55  σ) (KI K)) : WW l γ 36 6 ad shC 55 [] [] σ := by
  unfold f_X6_maps_b55 at h
  refine r_bipush hc (v := (-2)) (by decide) dX6_maps_55 ?_
  have h := wp_v h
  exact r_iret hc h dX6_maps_57
noncomputable def f_X6_maps_b193 (s0 : Int32) (σ : Hp) : Option (Int32 × Hp) := some (s0, σ)
set_option maxRecDepth 100000 in
set_option maxHeartbeats 4000000 in
theorem t_X6_maps_b193 {l : Launch} {γ : Gm} {ad : Nat → Nat} {K : Option Value → Hp → Prop} (hc : Cx l γ 36 6 ad shC RX6 cX6_maps (some .int) K) {s0 : Int32} {σ : Hp} (h : wpO (f_X6_maps_b193 s0 σ) (KI K)) : WW l γ 36 6 ad shC 193 [] [.int s0] σ := by
  unfold f_X6_maps_b193 at h
  have h := wp_v h
  exact r_iret hc h dX6_maps_193
noncomputable def f_X6_maps_b171 (x0 : Nat) (x3 : Int32) (σ : Hp) : Option (Int32 × Hp) := if x3 = 3 then (gO (getR shC 6 x0 7 σ) fun v5 => gO (chk shC v5 4) fun _ => bO (f_X4_howManyReachLines v5 σ) fun r6 σ7 => f_X6_maps_b193 r6 σ7) else (gO (getR shC 6 x0 7 σ) fun v1 => gO (chk shC v1 4) fun _ => bO (f_X4_howMany v1 σ) fun r2 σ3 => f_X6_maps_b193 r2 σ3)
set_option maxRecDepth 100000 in
set_option maxHeartbeats 4000000 in
theorem t_X6_maps_b171 {l : Launch} {γ : Gm} {ad : Nat → Nat} {K : Option Value → Hp → Prop} (hc : Cx l γ 36 6 ad shC RX6 cX6_maps (some .int) K) {x0 : Nat} {x3 : Int32} {σ : Hp} (h : wpO (f_X6_maps_b171 x0 x3 σ) (KI K)) : WW l γ 36 6 ad shC 171 [(0, .ref (ad x0)), (3, .int x3)] [] σ := by
  unfold f_X6_maps_b171 at h
  refine r_iload_n hc 1 rfl rfl dX6_maps_171 ?_
  refine r_iconst hc (v := 3) (by decide) dX6_maps_172 ?_
  refine r_icmp_ne hc (tgt := 186) dX6_maps_173 (by decide) (fun c => ?_) (fun c => ?_)
  · have h := wp_f c h
    refine r_aload_n hc 0 rfl rfl dX6_maps_186 ?_
    obtain ⟨v1, ev1, h⟩ := wp_g h
    refine r_getR hc ev1 fl_X6_41 rfl dX6_maps_187 ?_
    obtain ⟨_, ek4, h⟩ := wp_g h
    obtain ⟨r2, σ3, er2, h⟩ := wp_b h
    refine r_callV hc (k0 := v1) mv_X4_howMany ml_X6_230 (c_X4_howMany er2) (chk_of ek4) cls_4.1 rfl rfl rfl (by decide) rfl (Nat.le_of_ble_eq_true rfl) dX6_maps_190 ?_
    refine r_sub [] (lv' := []) rfl ?_
    exact t_X6_maps_b193 hc h
  · have h := wp_t c h
    refine r_aload_n hc 0 rfl rfl dX6_maps_176 ?_
    obtain ⟨v5, ev5, h⟩ := wp_g h
    refine r_getR hc ev5 fl_X6_41 rfl dX6_maps_177 ?_
    obtain ⟨_, ek8, h⟩ := wp_g h
    obtain ⟨r6, σ7, er6, h⟩ := wp_b h
    refine r_callV hc (k0 := v5) mv_X4_howManyReachLines ml_X6_227 (c_X4_howManyReachLines er6) (chk_of ek8) cls_4.1 rfl rfl rfl (by decide) rfl (Nat.le_of_ble_eq_true rfl) dX6_maps_180 ?_
    refine r_goto hc (tgt := 193) dX6_maps_183 (by decide) ?_
    refine r_sub [] (lv' := []) rfl ?_
    exact t_X6_maps_b193 hc h
noncomputable def f_X6_maps_b157 (x0 : Nat) (x3 : Int32) (x5 : Nat) (σ : Hp) : Option (Int32 × Hp) := gO (getR shC 6 x0 7 σ) fun v1 => gO (getI shC 1 x5 0 σ) fun v2 => gO (chk shC v1 4) fun _ => bO (f_X4_bound v1 v2 7 σ) fun _ σ4 => f_X6_maps_b171 x0 x3 σ4
set_option maxRecDepth 100000 in
set_option maxHeartbeats 4000000 in
theorem t_X6_maps_b157 {l : Launch} {γ : Gm} {ad : Nat → Nat} {K : Option Value → Hp → Prop} (hc : Cx l γ 36 6 ad shC RX6 cX6_maps (some .int) K) {x0 : Nat} {x3 : Int32} {x5 : Nat} {σ : Hp} (h : wpO (f_X6_maps_b157 x0 x3 x5 σ) (KI K)) : WW l γ 36 6 ad shC 157 [(0, .ref (ad x0)), (3, .int x3), (5, .ref (ad x5))] [] σ := by
  unfold f_X6_maps_b157 at h
  refine r_aload_n hc 0 rfl rfl dX6_maps_157 ?_
  obtain ⟨v1, ev1, h⟩ := wp_g h
  refine r_getR hc ev1 fl_X6_41 rfl dX6_maps_158 ?_
  refine r_aload hc 2 rfl dX6_maps_161 ?_
  obtain ⟨v2, ev2, h⟩ := wp_g h
  refine r_getI hc ev2 fl_X6_126 rfl dX6_maps_163 ?_
  refine r_bipush hc (v := 7) (by decide) dX6_maps_166 ?_
  obtain ⟨_, ek5, h⟩ := wp_g h
  obtain ⟨_, σ4, er3, h⟩ := wp_b h
  refine r_callV hc (k0 := v1) mv_X4_bound ml_X6_224 (c_X4_bound er3) (chk_of ek5) cls_4.1 rfl rfl rfl (by decide) rfl (Nat.le_of_ble_eq_true rfl) dX6_maps_168 ?_
  refine r_sub [0, 1] (lv' := [(0, .ref (ad x0)), (3, .int x3)]) rfl ?_
  exact t_X6_maps_b171 hc h
noncomputable def f_X6_maps_b147 (x0 : Nat) (x3 : Int32) (x5 : Nat) (σ : Hp) : Option (Int32 × Hp) := if x3 = 2 then (f_X6_maps_b157 x0 x3 x5 σ) else (if x3 = 3 then (f_X6_maps_b157 x0 x3 x5 σ) else (f_X6_maps_b171 x0 x3 σ))
set_option maxRecDepth 100000 in
set_option maxHeartbeats 4000000 in
theorem t_X6_maps_b147 {l : Launch} {γ : Gm} {ad : Nat → Nat} {K : Option Value → Hp → Prop} (hc : Cx l γ 36 6 ad shC RX6 cX6_maps (some .int) K) {x0 : Nat} {x3 : Int32} {x5 : Nat} {σ : Hp} (h : wpO (f_X6_maps_b147 x0 x3 x5 σ) (KI K)) : WW l γ 36 6 ad shC 147 [(0, .ref (ad x0)), (3, .int x3), (5, .ref (ad x5))] [] σ := by
  unfold f_X6_maps_b147 at h
  refine r_iload_n hc 1 rfl rfl dX6_maps_147 ?_
  refine r_iconst hc (v := 2) (by decide) dX6_maps_148 ?_
  refine r_icmp_eq hc (tgt := 157) dX6_maps_149 (by decide) (fun c => ?_) (fun c => ?_)
  · have h := wp_t c h
    exact t_X6_maps_b157 hc h
  · have h := wp_f c h
    refine r_iload_n hc 1 rfl rfl dX6_maps_152 ?_
    refine r_iconst hc (v := 3) (by decide) dX6_maps_153 ?_
    refine r_icmp_ne hc (tgt := 171) dX6_maps_154 (by decide) (fun c => ?_) (fun c => ?_)
    · have h := wp_f c h
      refine r_sub [0, 1] (lv' := [(0, .ref (ad x0)), (3, .int x3)]) rfl ?_
      exact t_X6_maps_b171 hc h
    · have h := wp_t c h
      exact t_X6_maps_b157 hc h
noncomputable def f_X6_maps_b133 (x0 : Nat) (x3 : Int32) (x4 : Nat) (x5 : Nat) (σ : Hp) : Option (Int32 × Hp) := gO (getR shC 6 x0 7 σ) fun v1 => gO (getI shC 1 x4 0 σ) fun v2 => gO (chk shC v1 4) fun _ => bO (f_X4_bound v1 v2 7 σ) fun _ σ4 => f_X6_maps_b147 x0 x3 x5 σ4
set_option maxRecDepth 100000 in
set_option maxHeartbeats 4000000 in
theorem t_X6_maps_b133 {l : Launch} {γ : Gm} {ad : Nat → Nat} {K : Option Value → Hp → Prop} (hc : Cx l γ 36 6 ad shC RX6 cX6_maps (some .int) K) {x0 : Nat} {x3 : Int32} {x4 : Nat} {x5 : Nat} {σ : Hp} (h : wpO (f_X6_maps_b133 x0 x3 x4 x5 σ) (KI K)) : WW l γ 36 6 ad shC 133 [(0, .ref (ad x0)), (3, .int x3), (4, .ref (ad x4)), (5, .ref (ad x5))] [] σ := by
  unfold f_X6_maps_b133 at h
  refine r_aload_n hc 0 rfl rfl dX6_maps_133 ?_
  obtain ⟨v1, ev1, h⟩ := wp_g h
  refine r_getR hc ev1 fl_X6_41 rfl dX6_maps_134 ?_
  refine r_aload hc 2 rfl dX6_maps_137 ?_
  obtain ⟨v2, ev2, h⟩ := wp_g h
  refine r_getI hc ev2 fl_X6_126 rfl dX6_maps_139 ?_
  refine r_bipush hc (v := 7) (by decide) dX6_maps_142 ?_
  obtain ⟨_, ek5, h⟩ := wp_g h
  obtain ⟨_, σ4, er3, h⟩ := wp_b h
  refine r_callV hc (k0 := v1) mv_X4_bound ml_X6_224 (c_X4_bound er3) (chk_of ek5) cls_4.1 rfl rfl rfl (by decide) rfl (Nat.le_of_ble_eq_true rfl) dX6_maps_144 ?_
  refine r_sub [0, 1, 3] (lv' := [(0, .ref (ad x0)), (3, .int x3), (5, .ref (ad x5))]) rfl ?_
  exact t_X6_maps_b147 hc h
noncomputable def f_X6_maps_b123 (x0 : Nat) (x3 : Int32) (x4 : Nat) (x5 : Nat) (σ : Hp) : Option (Int32 × Hp) := if x3 = 1 then (f_X6_maps_b133 x0 x3 x4 x5 σ) else (if x3 = 4 then (f_X6_maps_b133 x0 x3 x4 x5 σ) else (f_X6_maps_b147 x0 x3 x5 σ))
set_option maxRecDepth 100000 in
set_option maxHeartbeats 4000000 in
theorem t_X6_maps_b123 {l : Launch} {γ : Gm} {ad : Nat → Nat} {K : Option Value → Hp → Prop} (hc : Cx l γ 36 6 ad shC RX6 cX6_maps (some .int) K) {x0 : Nat} {x3 : Int32} {x4 : Nat} {x5 : Nat} {σ : Hp} (h : wpO (f_X6_maps_b123 x0 x3 x4 x5 σ) (KI K)) : WW l γ 36 6 ad shC 123 [(0, .ref (ad x0)), (3, .int x3), (4, .ref (ad x4)), (5, .ref (ad x5))] [] σ := by
  unfold f_X6_maps_b123 at h
  refine r_iload_n hc 1 rfl rfl dX6_maps_123 ?_
  refine r_iconst hc (v := 1) (by decide) dX6_maps_124 ?_
  refine r_icmp_eq hc (tgt := 133) dX6_maps_125 (by decide) (fun c => ?_) (fun c => ?_)
  · have h := wp_t c h
    exact t_X6_maps_b133 hc h
  · have h := wp_f c h
    refine r_iload_n hc 1 rfl rfl dX6_maps_128 ?_
    refine r_iconst hc (v := 4) (by decide) dX6_maps_129 ?_
    refine r_icmp_ne hc (tgt := 147) dX6_maps_130 (by decide) (fun c => ?_) (fun c => ?_)
    · have h := wp_f c h
      refine r_sub [0, 1, 3] (lv' := [(0, .ref (ad x0)), (3, .int x3), (5, .ref (ad x5))]) rfl ?_
      exact t_X6_maps_b147 hc h
    · have h := wp_t c h
      exact t_X6_maps_b133 hc h
noncomputable def f_X6_maps_b89  (σ : Hp) : Option (Int32 × Hp) := some (0, σ)
set_option maxRecDepth 100000 in
set_option maxHeartbeats 4000000 in
theorem t_X6_maps_b89 {l : Launch} {γ : Gm} {ad : Nat → Nat} {K : Option Value → Hp → Prop} (hc : Cx l γ 36 6 ad shC RX6 cX6_maps (some .int) K)  {σ : Hp} (h : wpO (f_X6_maps_b89  σ) (KI K)) : WW l γ 36 6 ad shC 89 [] [] σ := by
  unfold f_X6_maps_b89 at h
  refine r_iconst hc (v := 0) (by decide) dX6_maps_89 ?_
  have h := wp_v h
  exact r_iret hc h dX6_maps_90
noncomputable def f_X6_maps (x0 : Nat) (x1 : Int32) (x2 : Int32) (x3 : Int32) (σ : Hp) : Option (Int32 × Hp) := bO (f_X6_noDrawer x1 σ) fun r1 σ2 => if r1 = 0 then (bO (f_X6_noDrawer x2 σ2) fun r3 σ4 => if r3 = 0 then (if x3 < 0 then (f_X6_maps_b23  σ4) else (if x3 ≤ 4 then (gO (chk shC x0 6) fun _ => bO (f_X6_in x0 x1 σ4) fun r5 σ6 => gO (chk shC x0 6) fun _ => bO (f_X6_in x0 x2 σ6) fun r8 σ9 => gO (chk shC r5 1) fun _ => bO (f_X1_isEmpty r5 σ9) fun r11 σ12 => if r11 = 0 then (gO (chk shC r8 1) fun _ => bO (f_X1_isEmpty r8 σ12) fun r14 σ15 => if r14 = 0 then (if x3 = 4 then (gO (getI shC 1 r5 0 σ15) fun v23 => gO (getI shC 1 r8 0 σ15) fun v24 => if v23 = v24 then (gO (chk shC r5 1) fun _ => bO (f_X1_lines r5 σ15) fun r25 σ26 => gO (chk shC r8 1) fun _ => bO (f_X1_lines r8 σ26) fun r28 σ29 => if r25 = r28 then (gO (getR shC 6 x0 7 σ29) fun v31 => gO (chk shC v31 4) fun _ => bO (f_X4_freely v31 r5 r8 σ29) fun _ σ33 => f_X6_maps_b123 x0 x3 r5 r8 σ33) else (f_X6_maps_b89  σ29)) else (f_X6_maps_b89  σ15)) else (gO (getR shC 6 x0 7 σ15) fun v17 => gO (getR shC 6 x0 0 σ15) fun v18 => gO (getR shC 5 v18 1 σ15) fun v19 => gO (chk shC v17 4) fun _ => bO (f_X4_byLists v17 r5 r8 v19 σ15) fun _ σ21 => f_X6_maps_b123 x0 x3 r5 r8 σ21)) else (f_X6_maps_b55  σ15)) else (f_X6_maps_b55  σ12)) else (f_X6_maps_b23  σ4))) else (f_X6_maps_b23  σ4)) else (f_X6_maps_b23  σ2)
set_option maxRecDepth 100000 in
set_option maxHeartbeats 4000000 in
theorem t_X6_maps {l : Launch} {γ : Gm} {ad : Nat → Nat} {K : Option Value → Hp → Prop} (hc : Cx l γ 36 6 ad shC RX6 cX6_maps (some .int) K) {x0 : Nat} {x1 : Int32} {x2 : Int32} {x3 : Int32} {σ : Hp} (h : wpO (f_X6_maps x0 x1 x2 x3 σ) (KI K)) : WW l γ 36 6 ad shC 0 [(0, .ref (ad x0)), (1, .int x1), (2, .int x2), (3, .int x3)] [] σ := by
  unfold f_X6_maps at h
  refine r_iload_n hc 1 rfl rfl dX6_maps_0 ?_
  obtain ⟨r1, σ2, er1, h⟩ := wp_b h
  refine r_callS hc ms_X6_noDrawer ml_X6_76 (c_X6_noDrawer er1) rfl rfl (by decide) rfl (Nat.le_of_ble_eq_true rfl) dX6_maps_1 ?_
  refine r_if_ne hc (tgt := 23) dX6_maps_4 (by decide) (fun c => ?_) (fun c => ?_)
  · have h := wp_f c h
    refine r_sub [] (lv' := []) rfl ?_
    exact t_X6_maps_b23 hc h
  · have h := wp_t c h
    refine r_iload_n hc 2 rfl rfl dX6_maps_7 ?_
    obtain ⟨r3, σ4, er3, h⟩ := wp_b h
    refine r_callS hc ms_X6_noDrawer ml_X6_76 (c_X6_noDrawer er3) rfl rfl (by decide) rfl (Nat.le_of_ble_eq_true rfl) dX6_maps_8 ?_
    refine r_if_ne hc (tgt := 23) dX6_maps_11 (by decide) (fun c => ?_) (fun c => ?_)
    · have h := wp_f c h
      refine r_sub [] (lv' := []) rfl ?_
      exact t_X6_maps_b23 hc h
    · have h := wp_t c h
      refine r_iload_n hc 3 rfl rfl dX6_maps_14 ?_
      refine r_if_lt hc (tgt := 23) dX6_maps_15 (by decide) (fun c => ?_) (fun c => ?_)
      · have h := wp_t c h
        refine r_sub [] (lv' := []) rfl ?_
        exact t_X6_maps_b23 hc h
      · have h := wp_f c h
        refine r_iload_n hc 3 rfl rfl dX6_maps_18 ?_
        refine r_iconst hc (v := 4) (by decide) dX6_maps_19 ?_
        refine r_icmp_le hc (tgt := 25) dX6_maps_20 (by decide) (fun c => ?_) (fun c => ?_)
        · have h := wp_t c h
          refine r_aload_n hc 0 rfl rfl dX6_maps_25 ?_
          refine r_iload_n hc 1 rfl rfl dX6_maps_26 ?_
          obtain ⟨_, ek7, h⟩ := wp_g h
          obtain ⟨r5, σ6, er5, h⟩ := wp_b h
          refine r_callV hc (k0 := x0) mv_X6_in ml_X6_91 (c_X6_in er5) (chk_of ek7) cls_6.1 rfl rfl rfl (by decide) rfl (Nat.le_of_ble_eq_true rfl) dX6_maps_27 ?_
          refine r_astore hc (i := 4) (lv' := [(4, .ref (ad r5)), (0, .ref (ad x0)), (1, .int x1), (2, .int x2), (3, .int x3)]) (by decide) rfl dX6_maps_30 ?_
          refine r_aload_n hc 1 rfl rfl dX6_maps_32 ?_
          refine r_iload_n hc 3 rfl rfl dX6_maps_33 ?_
          obtain ⟨_, ek10, h⟩ := wp_g h
          obtain ⟨r8, σ9, er8, h⟩ := wp_b h
          refine r_callV hc (k0 := x0) mv_X6_in ml_X6_91 (c_X6_in er8) (chk_of ek10) cls_6.1 rfl rfl rfl (by decide) rfl (Nat.le_of_ble_eq_true rfl) dX6_maps_34 ?_
          refine r_astore hc (i := 5) (lv' := [(5, .ref (ad r8)), (4, .ref (ad r5)), (0, .ref (ad x0)), (1, .int x1), (2, .int x2), (3, .int x3)]) (by decide) rfl dX6_maps_37 ?_
          refine r_aload hc 1 rfl dX6_maps_39 ?_
          obtain ⟨_, ek13, h⟩ := wp_g h
          obtain ⟨r11, σ12, er11, h⟩ := wp_b h
          refine r_callV hc (k0 := r5) mv_X1_isEmpty ml_X6_109 (c_X1_isEmpty er11) (chk_of ek13) cls_1.1 rfl rfl rfl (by decide) rfl (Nat.le_of_ble_eq_true rfl) dX6_maps_41 ?_
          refine r_if_ne hc (tgt := 55) dX6_maps_44 (by decide) (fun c => ?_) (fun c => ?_)
          · have h := wp_f c h
            refine r_sub [] (lv' := []) rfl ?_
            exact t_X6_maps_b55 hc h
          · have h := wp_t c h
            refine r_aload hc 0 rfl dX6_maps_47 ?_
            obtain ⟨_, ek16, h⟩ := wp_g h
            obtain ⟨r14, σ15, er14, h⟩ := wp_b h
            refine r_callV hc (k0 := r8) mv_X1_isEmpty ml_X6_109 (c_X1_isEmpty er14) (chk_of ek16) cls_1.1 rfl rfl rfl (by decide) rfl (Nat.le_of_ble_eq_true rfl) dX6_maps_49 ?_
            refine r_if_eq hc (tgt := 58) dX6_maps_52 (by decide) (fun c => ?_) (fun c => ?_)
            · have h := wp_t c h
              refine r_iload_n hc 5 rfl rfl dX6_maps_58 ?_
              refine r_iconst hc (v := 4) (by decide) dX6_maps_59 ?_
              refine r_icmp_ne hc (tgt := 105) dX6_maps_60 (by decide) (fun c => ?_) (fun c => ?_)
              · have h := wp_f c h
                refine r_aload_n hc 2 rfl rfl dX6_maps_105 ?_
                obtain ⟨v17, ev17, h⟩ := wp_g h
                refine r_getR hc ev17 fl_X6_41 rfl dX6_maps_106 ?_
                refine r_aload hc 1 rfl dX6_maps_109 ?_
                refine r_aload hc 0 rfl dX6_maps_111 ?_
                refine r_aload_n hc 2 rfl rfl dX6_maps_113 ?_
                obtain ⟨v18, ev18, h⟩ := wp_g h
                refine r_getR hc ev18 fl_X6_10 rfl dX6_maps_114 ?_
                obtain ⟨v19, ev19, h⟩ := wp_g h
                refine r_getR hc ev19 fl_X6_213 rfl dX6_maps_117 ?_
                obtain ⟨_, ek22, h⟩ := wp_g h
                obtain ⟨_, σ21, er20, h⟩ := wp_b h
                refine r_callV hc (k0 := v17) mv_X4_byLists ml_X6_220 (c_X4_byLists er20) (chk_of ek22) cls_4.1 rfl rfl rfl (by decide) rfl (Nat.le_of_ble_eq_true rfl) dX6_maps_120 ?_
                refine r_sub [2, 5, 1, 0] (lv' := [(0, .ref (ad x0)), (3, .int x3), (4, .ref (ad r5)), (5, .ref (ad r8))]) rfl ?_
                exact t_X6_maps_b123 hc h
              · have h := wp_t c h
                refine r_aload hc 1 rfl dX6_maps_63 ?_
                obtain ⟨v23, ev23, h⟩ := wp_g h
                refine r_getI hc ev23 fl_X6_126 rfl dX6_maps_65 ?_
                refine r_aload hc 0 rfl dX6_maps_68 ?_
                obtain ⟨v24, ev24, h⟩ := wp_g h
                refine r_getI hc ev24 fl_X6_126 rfl dX6_maps_70 ?_
                refine r_icmp_ne hc (tgt := 89) dX6_maps_73 (by decide) (fun c => ?_) (fun c => ?_)
                · have h := wp_f c h
                  refine r_sub [] (lv' := []) rfl ?_
                  exact t_X6_maps_b89 hc h
                · have h := wp_t c h
                  refine r_aload hc 1 rfl dX6_maps_76 ?_
                  obtain ⟨_, ek27, h⟩ := wp_g h
                  obtain ⟨r25, σ26, er25, h⟩ := wp_b h
                  refine r_callV hc (k0 := r5) mv_X1_lines ml_X6_102 (c_X1_lines er25) (chk_of ek27) cls_1.1 rfl rfl rfl (by decide) rfl (Nat.le_of_ble_eq_true rfl) dX6_maps_78 ?_
                  refine r_aload hc 0 rfl dX6_maps_81 ?_
                  obtain ⟨_, ek30, h⟩ := wp_g h
                  obtain ⟨r28, σ29, er28, h⟩ := wp_b h
                  refine r_callV hc (k0 := r8) mv_X1_lines ml_X6_102 (c_X1_lines er28) (chk_of ek30) cls_1.1 rfl rfl rfl (by decide) rfl (Nat.le_of_ble_eq_true rfl) dX6_maps_83 ?_
                  refine r_icmp_eq hc (tgt := 91) dX6_maps_86 (by decide) (fun c => ?_) (fun c => ?_)
                  · have h := wp_t c h
                    refine r_aload_n hc 2 rfl rfl dX6_maps_91 ?_
                    obtain ⟨v31, ev31, h⟩ := wp_g h
                    refine r_getR hc ev31 fl_X6_41 rfl dX6_maps_92 ?_
                    refine r_aload hc 1 rfl dX6_maps_95 ?_
                    refine r_aload hc 0 rfl dX6_maps_97 ?_
                    obtain ⟨_, ek34, h⟩ := wp_g h
                    obtain ⟨_, σ33, er32, h⟩ := wp_b h
                    refine r_callV hc (k0 := v31) mv_X4_freely ml_X6_216 (c_X4_freely er32) (chk_of ek34) cls_4.1 rfl rfl rfl (by decide) rfl (Nat.le_of_ble_eq_true rfl) dX6_maps_99 ?_
                    refine r_goto hc (tgt := 123) dX6_maps_102 (by decide) ?_
                    refine r_sub [2, 5, 1, 0] (lv' := [(0, .ref (ad x0)), (3, .int x3), (4, .ref (ad r5)), (5, .ref (ad r8))]) rfl ?_
                    exact t_X6_maps_b123 hc h
                  · have h := wp_f c h
                    refine r_sub [] (lv' := []) rfl ?_
                    exact t_X6_maps_b89 hc h
            · have h := wp_f c h
              refine r_sub [] (lv' := []) rfl ?_
              exact t_X6_maps_b55 hc h
        · have h := wp_f c h
          refine r_sub [] (lv' := []) rfl ?_
          exact t_X6_maps_b23 hc h
theorem c_X6_maps {l : Launch} {x0 : Nat} {x1 : Int32} {x2 : Int32} {x3 : Int32} {σ σ' : Hp} {r : Int32} (h : f_X6_maps x0 x1 x2 x3 σ = some (r, σ')) : Mt l yX6_maps cX6_maps 6 (some .int) 36 shC (fun ad => [.ref (ad x0), .int x1, .int x2, .int x3]) σ (fun ad => some (.int r)) σ' := mt_i (own := RX6) (by decide) rfl (fun _ => Nat.le_of_ble_eq_true rfl) (fun γ ad K hc hk => t_X6_maps hc ⟨_, _, h, hk⟩)

-- NetMaps$Search.pick(I)Z
theorem dX4_pick_0 : decode cX4_pick 0 = .ok (.iload_n 1, 1) := by decide +kernel
theorem dX4_pick_1 : decode cX4_pick 1 = .ok (.istore_n 2, 1) := by decide +kernel
theorem dX4_pick_2 : decode cX4_pick 2 = .ok (.iconst 0, 1) := by decide +kernel
theorem dX4_pick_3 : decode cX4_pick 3 = .ok (.istore_n 3, 1) := by decide +kernel
theorem dX4_pick_4 : decode cX4_pick 4 = .ok (.iconst 0, 1) := by decide +kernel
theorem dX4_pick_5 : decode cX4_pick 5 = .ok (.istore 4, 2) := by decide +kernel
theorem dX4_pick_7 : decode cX4_pick 7 = .ok (.iload 4, 2) := by decide +kernel
theorem dX4_pick_9 : decode cX4_pick 9 = .ok (.aload_n 0, 1) := by decide +kernel
theorem dX4_pick_10 : decode cX4_pick 10 = .ok (.getfield 12, 3) := by decide +kernel
theorem dX4_pick_13 : decode cX4_pick 13 = .ok (.getfield 40, 3) := by decide +kernel
theorem dX4_pick_16 : decode cX4_pick 16 = .ok (.if_icmp .ge 128, 3) := by decide +kernel
theorem dX4_pick_19 : decode cX4_pick 19 = .ok (.aload_n 0, 1) := by decide +kernel
theorem dX4_pick_20 : decode cX4_pick 20 = .ok (.iload 4, 2) := by decide +kernel
theorem dX4_pick_22 : decode cX4_pick 22 = .ok (.iload_n 3, 1) := by decide +kernel
theorem dX4_pick_23 : decode cX4_pick 23 = .ok (.invokevirtual 86, 3) := by decide +kernel
theorem dX4_pick_26 : decode cX4_pick 26 = .ok (.istore 5, 2) := by decide +kernel
theorem dX4_pick_28 : decode cX4_pick 28 = .ok (.iconst 0, 1) := by decide +kernel
theorem dX4_pick_29 : decode cX4_pick 29 = .ok (.istore 6, 2) := by decide +kernel
theorem dX4_pick_31 : decode cX4_pick 31 = .ok (.iconst 0, 1) := by decide +kernel
theorem dX4_pick_32 : decode cX4_pick 32 = .ok (.istore 7, 2) := by decide +kernel
theorem dX4_pick_34 : decode cX4_pick 34 = .ok (.iload 7, 2) := by decide +kernel
theorem dX4_pick_36 : decode cX4_pick 36 = .ok (.aload_n 0, 1) := by decide +kernel
theorem dX4_pick_37 : decode cX4_pick 37 = .ok (.getfield 18, 3) := by decide +kernel
theorem dX4_pick_40 : decode cX4_pick 40 = .ok (.getfield 40, 3) := by decide +kernel
theorem dX4_pick_43 : decode cX4_pick 43 = .ok (.if_icmp .ge 76, 3) := by decide +kernel
theorem dX4_pick_46 : decode cX4_pick 46 = .ok (.iload 6, 2) := by decide +kernel
theorem dX4_pick_48 : decode cX4_pick 48 = .ok (.ifCond .ne 71, 3) := by decide +kernel
theorem dX4_pick_51 : decode cX4_pick 51 = .ok (.iload 5, 2) := by decide +kernel
theorem dX4_pick_53 : decode cX4_pick 53 = .ok (.iload 7, 2) := by decide +kernel
theorem dX4_pick_55 : decode cX4_pick 55 = .ok (.invokestatic 70, 3) := by decide +kernel
theorem dX4_pick_58 : decode cX4_pick 58 = .ok (.ifCond .eq 55, 3) := by decide +kernel
theorem dX4_pick_61 : decode cX4_pick 61 = .ok (.aload_n 0, 1) := by decide +kernel
theorem dX4_pick_62 : decode cX4_pick 62 = .ok (.getfield 25, 3) := by decide +kernel
theorem dX4_pick_65 : decode cX4_pick 65 = .ok (.iload 4, 2) := by decide +kernel
theorem dX4_pick_67 : decode cX4_pick 67 = .ok (.iload 7, 2) := by decide +kernel
theorem dX4_pick_69 : decode cX4_pick 69 = .ok (.iastore, 1) := by decide +kernel
theorem dX4_pick_70 : decode cX4_pick 70 = .ok (.aload_n 0, 1) := by decide +kernel
theorem dX4_pick_71 : decode cX4_pick 71 = .ok (.iload 4, 2) := by decide +kernel
theorem dX4_pick_73 : decode cX4_pick 73 = .ok (.iconst 1, 1) := by decide +kernel
theorem dX4_pick_74 : decode cX4_pick 74 = .ok (.iadd, 1) := by decide +kernel
theorem dX4_pick_75 : decode cX4_pick 75 = .ok (.iload_n 3, 1) := by decide +kernel
theorem dX4_pick_76 : decode cX4_pick 76 = .ok (.iconst 1, 1) := by decide +kernel
theorem dX4_pick_77 : decode cX4_pick 77 = .ok (.iload 7, 2) := by decide +kernel
theorem dX4_pick_79 : decode cX4_pick 79 = .ok (.ishl, 1) := by decide +kernel
theorem dX4_pick_80 : decode cX4_pick 80 = .ok (.ior, 1) := by decide +kernel
theorem dX4_pick_81 : decode cX4_pick 81 = .ok (.invokestatic 93, 3) := by decide +kernel
theorem dX4_pick_84 : decode cX4_pick 84 = .ok (.istore 8, 2) := by decide +kernel
theorem dX4_pick_86 : decode cX4_pick 86 = .ok (.iload_n 2, 1) := by decide +kernel
theorem dX4_pick_87 : decode cX4_pick 87 = .ok (.iload 8, 2) := by decide +kernel
theorem dX4_pick_89 : decode cX4_pick 89 = .ok (.if_icmp .ge 7, 3) := by decide +kernel
theorem dX4_pick_92 : decode cX4_pick 92 = .ok (.iconst 1, 1) := by decide +kernel
theorem dX4_pick_93 : decode cX4_pick 93 = .ok (.goto 4, 3) := by decide +kernel
theorem dX4_pick_96 : decode cX4_pick 96 = .ok (.iconst 0, 1) := by decide +kernel
theorem dX4_pick_97 : decode cX4_pick 97 = .ok (.istore 6, 2) := by decide +kernel
theorem dX4_pick_99 : decode cX4_pick 99 = .ok (.iload_n 2, 1) := by decide +kernel
theorem dX4_pick_100 : decode cX4_pick 100 = .ok (.iload 6, 2) := by decide +kernel
theorem dX4_pick_102 : decode cX4_pick 102 = .ok (.ifCond .eq 7, 3) := by decide +kernel
theorem dX4_pick_105 : decode cX4_pick 105 = .ok (.iconst 0, 1) := by decide +kernel
theorem dX4_pick_106 : decode cX4_pick 106 = .ok (.goto 5, 3) := by decide +kernel
theorem dX4_pick_109 : decode cX4_pick 109 = .ok (.iload 8, 2) := by decide +kernel
theorem dX4_pick_111 : decode cX4_pick 111 = .ok (.isub, 1) := by decide +kernel
theorem dX4_pick_112 : decode cX4_pick 112 = .ok (.istore_n 2, 1) := by decide +kernel
theorem dX4_pick_113 : decode cX4_pick 113 = .ok (.iinc 7 1, 3) := by decide +kernel
theorem dX4_pick_116 : decode cX4_pick 116 = .ok (.goto (-82), 3) := by decide +kernel
theorem dX4_pick_119 : decode cX4_pick 119 = .ok (.iload 6, 2) := by decide +kernel
theorem dX4_pick_121 : decode cX4_pick 121 = .ok (.ifCond .ne 5, 3) := by decide +kernel
theorem dX4_pick_124 : decode cX4_pick 124 = .ok (.iconst 0, 1) := by decide +kernel
theorem dX4_pick_125 : decode cX4_pick 125 = .ok (.ireturn, 1) := by decide +kernel
theorem dX4_pick_126 : decode cX4_pick 126 = .ok (.iload_n 3, 1) := by decide +kernel
theorem dX4_pick_127 : decode cX4_pick 127 = .ok (.iconst 1, 1) := by decide +kernel
theorem dX4_pick_128 : decode cX4_pick 128 = .ok (.aload_n 0, 1) := by decide +kernel
theorem dX4_pick_129 : decode cX4_pick 129 = .ok (.getfield 25, 3) := by decide +kernel
theorem dX4_pick_132 : decode cX4_pick 132 = .ok (.iload 4, 2) := by decide +kernel
theorem dX4_pick_134 : decode cX4_pick 134 = .ok (.iaload, 1) := by decide +kernel
theorem dX4_pick_135 : decode cX4_pick 135 = .ok (.ishl, 1) := by decide +kernel
theorem dX4_pick_136 : decode cX4_pick 136 = .ok (.ior, 1) := by decide +kernel
theorem dX4_pick_137 : decode cX4_pick 137 = .ok (.istore_n 3, 1) := by decide +kernel
theorem dX4_pick_138 : decode cX4_pick 138 = .ok (.iinc 4 1, 3) := by decide +kernel
theorem dX4_pick_141 : decode cX4_pick 141 = .ok (.goto (-134), 3) := by decide +kernel
theorem dX4_pick_144 : decode cX4_pick 144 = .ok (.iconst 1, 1) := by decide +kernel
theorem dX4_pick_145 : decode cX4_pick 145 = .ok (.ireturn, 1) := by decide +kernel
noncomputable def f_X4_pick_b113 (x0 : Nat) (x2 : Int32) (x3 : Int32) (x4 : Int32) (x5 : Int32) (x6 : Int32) (x7 : Int32) (σ : Hp) : Option (((Int32 × Int32 × Int32) ⊕ (Int32 × Int32)) × Hp) := some (Sum.inl (x2, x6, (x7 + 1)), σ)
set_option maxRecDepth 100000 in
set_option maxHeartbeats 4000000 in
theorem t_X4_pick_b113 {l : Launch} {γ : Gm} {ad : Nat → Nat} {K : Option Value → Hp → Prop} (hc : Cx l γ 34 9 ad shC RX4 cX4_pick (some .boolean) K) {x0 : Nat} {x2 : Int32} {x3 : Int32} {x4 : Int32} {x5 : Int32} {x6 : Int32} {x7 : Int32}  {σ : Hp} {KL : ((Int32 × Int32 × Int32) ⊕ (Int32 × Int32)) → Hp → Prop} (h : wpO (f_X4_pick_b113 x0 x2 x3 x4 x5 x6 x7 σ) KL) (kn : ∀ (v : (Int32 × Int32 × Int32)) (σ : Hp), KL (Sum.inl v) σ → WW l γ 34 9 ad shC 34 [(0, .ref (ad x0)), (2, .int v.1), (3, .int x3), (4, .int x4), (5, .int x5), (6, .int v.2.1), (7, .int v.2.2)] [] σ) (kx119 : ∀ (v : Int32 × Int32) (σ : Hp), KL (Sum.inr v) σ → WW l γ 34 9 ad shC 119 [(0, .ref (ad x0)), (2, .int v.1), (3, .int x3), (4, .int x4), (6, .int v.2)] [] σ) : WW l γ 34 9 ad shC 113 [(0, .ref (ad x0)), (2, .int x2), (3, .int x3), (4, .int x4), (5, .int x5), (6, .int x6), (7, .int x7)] [] σ := by
  unfold f_X4_pick_b113 at h
  refine r_iincE hc (j := 6) (w := 1) (lv' := [(7, .int (x7 + 1)), (0, .ref (ad x0)), (2, .int x2), (3, .int x3), (4, .int x4), (5, .int x5), (6, .int x6)]) rfl (by decide) rfl (by decide) rfl dX4_pick_113 ?_
  refine r_goto hc (tgt := 34) dX4_pick_116 (by decide) ?_
  refine r_sub [1, 2, 3, 4, 5, 6, 0] (lv' := [(0, .ref (ad x0)), (2, .int x2), (3, .int x3), (4, .int x4), (5, .int x5), (6, .int x6), (7, .int (x7 + 1))]) rfl ?_
  have h := wp_v h
  exact kn (x2, x6, (x7 + 1)) _ h
noncomputable def f_X4_pick_b111 (x0 : Nat) (x3 : Int32) (x4 : Int32) (x5 : Int32) (x6 : Int32) (x7 : Int32) (s0 : Int32) (s1 : Int32) (σ : Hp) : Option (((Int32 × Int32 × Int32) ⊕ (Int32 × Int32)) × Hp) := f_X4_pick_b113 x0 (s0 - s1) x3 x4 x5 x6 x7 σ
set_option maxRecDepth 100000 in
set_option maxHeartbeats 4000000 in
theorem t_X4_pick_b111 {l : Launch} {γ : Gm} {ad : Nat → Nat} {K : Option Value → Hp → Prop} (hc : Cx l γ 34 9 ad shC RX4 cX4_pick (some .boolean) K) {x0 : Nat} {x3 : Int32} {x4 : Int32} {x5 : Int32} {x6 : Int32} {x7 : Int32} {s0 : Int32} {s1 : Int32}  {σ : Hp} {KL : ((Int32 × Int32 × Int32) ⊕ (Int32 × Int32)) → Hp → Prop} (h : wpO (f_X4_pick_b111 x0 x3 x4 x5 x6 x7 s0 s1 σ) KL) (kn : ∀ (v : (Int32 × Int32 × Int32)) (σ : Hp), KL (Sum.inl v) σ → WW l γ 34 9 ad shC 34 [(0, .ref (ad x0)), (2, .int v.1), (3, .int x3), (4, .int x4), (5, .int x5), (6, .int v.2.1), (7, .int v.2.2)] [] σ) (kx119 : ∀ (v : Int32 × Int32) (σ : Hp), KL (Sum.inr v) σ → WW l γ 34 9 ad shC 119 [(0, .ref (ad x0)), (2, .int v.1), (3, .int x3), (4, .int x4), (6, .int v.2)] [] σ) : WW l γ 34 9 ad shC 111 [(0, .ref (ad x0)), (3, .int x3), (4, .int x4), (5, .int x5), (6, .int x6), (7, .int x7)] [.int s1, .int s0] σ := by
  unfold f_X4_pick_b111 at h
  refine r_isub hc dX4_pick_111 ?_
  refine r_istore_nE hc (i := 2) (lv' := [(2, .int (s0 - s1)), (0, .ref (ad x0)), (3, .int x3), (4, .int x4), (5, .int x5), (6, .int x6), (7, .int x7)]) rfl rfl (by decide) rfl dX4_pick_112 ?_
  refine r_sub [1, 0, 2, 3, 4, 5, 6] (lv' := [(0, .ref (ad x0)), (2, .int (s0 - s1)), (3, .int x3), (4, .int x4), (5, .int x5), (6, .int x6), (7, .int x7)]) rfl ?_
  exact t_X4_pick_b113 hc h kn kx119
noncomputable def f_X4_pick_b97 (x0 : Nat) (x2 : Int32) (x3 : Int32) (x4 : Int32) (x5 : Int32) (x7 : Int32) (x8 : Int32) (s0 : Int32) (σ : Hp) : Option (((Int32 × Int32 × Int32) ⊕ (Int32 × Int32)) × Hp) := if s0 = 0 then (f_X4_pick_b111 x0 x3 x4 x5 s0 x7 x2 x8 σ) else (f_X4_pick_b111 x0 x3 x4 x5 s0 x7 x2 0 σ)
set_option maxRecDepth 100000 in
set_option maxHeartbeats 4000000 in
theorem t_X4_pick_b97 {l : Launch} {γ : Gm} {ad : Nat → Nat} {K : Option Value → Hp → Prop} (hc : Cx l γ 34 9 ad shC RX4 cX4_pick (some .boolean) K) {x0 : Nat} {x2 : Int32} {x3 : Int32} {x4 : Int32} {x5 : Int32} {x7 : Int32} {x8 : Int32} {s0 : Int32}  {σ : Hp} {KL : ((Int32 × Int32 × Int32) ⊕ (Int32 × Int32)) → Hp → Prop} (h : wpO (f_X4_pick_b97 x0 x2 x3 x4 x5 x7 x8 s0 σ) KL) (kn : ∀ (v : (Int32 × Int32 × Int32)) (σ : Hp), KL (Sum.inl v) σ → WW l γ 34 9 ad shC 34 [(0, .ref (ad x0)), (2, .int v.1), (3, .int x3), (4, .int x4), (5, .int x5), (6, .int v.2.1), (7, .int v.2.2)] [] σ) (kx119 : ∀ (v : Int32 × Int32) (σ : Hp), KL (Sum.inr v) σ → WW l γ 34 9 ad shC 119 [(0, .ref (ad x0)), (2, .int v.1), (3, .int x3), (4, .int x4), (6, .int v.2)] [] σ) : WW l γ 34 9 ad shC 97 [(0, .ref (ad x0)), (2, .int x2), (3, .int x3), (4, .int x4), (5, .int x5), (7, .int x7), (8, .int x8)] [.int s0] σ := by
  unfold f_X4_pick_b97 at h
  refine r_istoreE hc (i := 6) (lv' := [(6, .int s0), (0, .ref (ad x0)), (2, .int x2), (3, .int x3), (4, .int x4), (5, .int x5), (7, .int x7), (8, .int x8)]) rfl (by decide) rfl dX4_pick_97 ?_
  refine r_iload_n hc 2 rfl rfl dX4_pick_99 ?_
  refine r_iload hc 0 rfl dX4_pick_100 ?_
  refine r_if_eq hc (tgt := 109) dX4_pick_102 (by decide) (fun c => ?_) (fun c => ?_)
  · have h := wp_t c h
    refine r_iload hc 7 rfl dX4_pick_109 ?_
    refine r_sub [1, 3, 4, 5, 0, 6] (lv' := [(0, .ref (ad x0)), (3, .int x3), (4, .int x4), (5, .int x5), (6, .int s0), (7, .int x7)]) rfl ?_
    exact t_X4_pick_b111 hc h kn kx119
  · have h := wp_f c h
    refine r_iconst hc (v := 0) (by decide) dX4_pick_105 ?_
    refine r_goto hc (tgt := 111) dX4_pick_106 (by decide) ?_
    refine r_sub [1, 3, 4, 5, 0, 6] (lv' := [(0, .ref (ad x0)), (3, .int x3), (4, .int x4), (5, .int x5), (6, .int s0), (7, .int x7)]) rfl ?_
    exact t_X4_pick_b111 hc h kn kx119
noncomputable def f_X4_pick_L34 (x0 : Nat) (x3 : Int32) (x4 : Int32) (x5 : Int32) (v : (Int32 × Int32 × Int32)) (σ : Hp) : Option (((Int32 × Int32 × Int32) ⊕ (Int32 × Int32)) × Hp) := gO (getR shC 4 x0 1 σ) fun v1 => gO (getI shC 1 v1 0 σ) fun v2 => if v2 ≤ v.2.2 then (some (Sum.inr (v.1, v.2.1), σ)) else (if v.2.1 = 0 then (bO (f_X6_has x5 v.2.2 σ) fun r3 σ4 => if r3 = 0 then (f_X4_pick_b113 x0 v.1 x3 x4 x5 v.2.1 v.2.2 σ4) else (gO (getR shC 4 x0 3 σ4) fun v5 => gO (astI shC 0 v5 x4 v.2.2 σ4) fun σ6 => bO (f_X4_manyFrom 30 x0 (x4 + 1) (x3 ||| ((1 : Int32) <<< (v.2.2 &&& 31))) σ6) fun r7 σ8 => if r7 ≤ v.1 then (f_X4_pick_b97 x0 v.1 x3 x4 x5 v.2.2 r7 0 σ8) else (f_X4_pick_b97 x0 v.1 x3 x4 x5 v.2.2 r7 1 σ8))) else (some (Sum.inr (v.1, v.2.1), σ)))
set_option maxRecDepth 100000 in
set_option maxHeartbeats 4000000 in
theorem t_X4_pick_L34 {l : Launch} {γ : Gm} {ad : Nat → Nat} {K : Option Value → Hp → Prop}  (hc : Cx l γ 34 9 ad shC RX4 cX4_pick (some .boolean) K) {x0 : Nat} {x3 : Int32} {x4 : Int32} {x5 : Int32} {v : (Int32 × Int32 × Int32)} {σ : Hp} {KX : (Int32 × Int32) → Hp → Prop} (h : wpO (wh (f_X4_pick_L34 x0 x3 x4 x5) v σ) KX) (kx119 : ∀ (v : Int32 × Int32) (σ : Hp), KX v σ → WW l γ 34 9 ad shC 119 [(0, .ref (ad x0)), (2, .int v.1), (3, .int x3), (4, .int x4), (6, .int v.2)] [] σ) : WW l γ 34 9 ad shC 34 [(0, .ref (ad x0)), (2, .int v.1), (3, .int x3), (4, .int x4), (5, .int x5), (6, .int v.2.1), (7, .int v.2.2)] [] σ := by
  refine wh_W (P := fun v σ => WW l γ 34 9 ad shC 34 [(0, .ref (ad x0)), (2, .int v.1), (3, .int x3), (4, .int x4), (5, .int x5), (6, .int v.2.1), (7, .int v.2.2)] [] σ) (fun v σ h => ?_) h
  have kn : ∀ (v : (Int32 × Int32 × Int32)) (σ : Hp), WW l γ 34 9 ad shC 34 [(0, .ref (ad x0)), (2, .int v.1), (3, .int x3), (4, .int x4), (5, .int x5), (6, .int v.2.1), (7, .int v.2.2)] [] σ → WW l γ 34 9 ad shC 34 [(0, .ref (ad x0)), (2, .int v.1), (3, .int x3), (4, .int x4), (5, .int x5), (6, .int v.2.1), (7, .int v.2.2)] [] σ := fun _ _ h => h
  · unfold f_X4_pick_L34 at h
    refine r_iload hc 6 rfl dX4_pick_34 ?_
    refine r_aload_n hc 0 rfl rfl dX4_pick_36 ?_
    obtain ⟨v1, ev1, h⟩ := wp_g h
    refine r_getR hc ev1 fl_X4_18 rfl dX4_pick_37 ?_
    obtain ⟨v2, ev2, h⟩ := wp_g h
    refine r_getI hc ev2 fl_X4_40 rfl dX4_pick_40 ?_
    refine r_icmp_ge hc (tgt := 119) dX4_pick_43 (by decide) (fun c => ?_) (fun c => ?_)
    · have h := wp_t c h
      refine r_sub [0, 1, 2, 3, 5] (lv' := [(0, .ref (ad x0)), (2, .int v.1), (3, .int x3), (4, .int x4), (6, .int v.2.1)]) rfl ?_
      have h := wp_v h
      exact kx119 (v.1, v.2.1) _ h
    · have h := wp_f c h
      refine r_iload hc 5 rfl dX4_pick_46 ?_
      refine r_if_ne hc (tgt := 119) dX4_pick_48 (by decide) (fun c => ?_) (fun c => ?_)
      · have h := wp_f c h
        refine r_sub [0, 1, 2, 3, 5] (lv' := [(0, .ref (ad x0)), (2, .int v.1), (3, .int x3), (4, .int x4), (6, .int v.2.1)]) rfl ?_
        have h := wp_v h
        exact kx119 (v.1, v.2.1) _ h
      · have h := wp_t c h
        refine r_iload hc 4 rfl dX4_pick_51 ?_
        refine r_iload hc 6 rfl dX4_pick_53 ?_
        obtain ⟨r3, σ4, er3, h⟩ := wp_b h
        refine r_callSN hc ms_X6_has nl_X4_70 (c_X6_has er3) rfl rfl (by decide) rfl (Nat.le_of_ble_eq_true rfl) dX4_pick_55 ?_
        refine r_if_eq hc (tgt := 113) dX4_pick_58 (by decide) (fun c => ?_) (fun c => ?_)
        · have h := wp_t c h
          exact t_X4_pick_b113 hc h kn kx119
        · have h := wp_f c h
          refine r_aload_n hc 0 rfl rfl dX4_pick_61 ?_
          obtain ⟨v5, ev5, h⟩ := wp_g h
          refine r_getR hc ev5 fl_X4_25 rfl dX4_pick_62 ?_
          refine r_iload hc 3 rfl dX4_pick_65 ?_
          refine r_iload hc 6 rfl dX4_pick_67 ?_
          obtain ⟨σ6, eσ6, h⟩ := wp_g h
          refine r_iast hc eσ6 dX4_pick_69 ?_
          refine r_aload_n hc 0 rfl rfl dX4_pick_70 ?_
          refine r_iload hc 3 rfl dX4_pick_71 ?_
          refine r_iconst hc (v := 1) (by decide) dX4_pick_73 ?_
          refine r_iadd hc dX4_pick_74 ?_
          refine r_iload_n hc 2 rfl rfl dX4_pick_75 ?_
          refine r_iconst hc (v := 1) (by decide) dX4_pick_76 ?_
          refine r_iload hc 6 rfl dX4_pick_77 ?_
          refine r_ishl hc dX4_pick_79 ?_
          refine r_ior hc dX4_pick_80 ?_
          obtain ⟨r7, σ8, er7, h⟩ := wp_b h
          refine r_callS hc ms_X4_manyFrom ml_X4_93 (c_X4_manyFrom er7) rfl rfl (by decide) rfl (Nat.le_of_ble_eq_true rfl) dX4_pick_81 ?_
          refine r_istoreE hc (i := 8) (lv' := [(8, .int r7), (0, .ref (ad x0)), (2, .int v.1), (3, .int x3), (4, .int x4), (5, .int x5), (6, .int v.2.1), (7, .int v.2.2)]) rfl (by decide) rfl dX4_pick_84 ?_
          refine r_iload_n hc 2 rfl rfl dX4_pick_86 ?_
          refine r_iload hc 0 rfl dX4_pick_87 ?_
          refine r_icmp_ge hc (tgt := 96) dX4_pick_89 (by decide) (fun c => ?_) (fun c => ?_)
          · have h := wp_t c h
            refine r_iconst hc (v := 0) (by decide) dX4_pick_96 ?_
            refine r_sub [1, 2, 3, 4, 5, 7, 0] (lv' := [(0, .ref (ad x0)), (2, .int v.1), (3, .int x3), (4, .int x4), (5, .int x5), (7, .int v.2.2), (8, .int r7)]) rfl ?_
            exact t_X4_pick_b97 hc h kn kx119
          · have h := wp_f c h
            refine r_iconst hc (v := 1) (by decide) dX4_pick_92 ?_
            refine r_goto hc (tgt := 97) dX4_pick_93 (by decide) ?_
            refine r_sub [1, 2, 3, 4, 5, 7, 0] (lv' := [(0, .ref (ad x0)), (2, .int v.1), (3, .int x3), (4, .int x4), (5, .int x5), (7, .int v.2.2), (8, .int r7)]) rfl ?_
            exact t_X4_pick_b97 hc h kn kx119
noncomputable def f_X4_pick_b119 (x0 : Nat) (x2 : Int32) (x3 : Int32) (x4 : Int32) (x6 : Int32) (σ : Hp) : Option (((Int32 × Int32 × Int32) ⊕ ((Unit) ⊕ (Unit))) × Hp) := if x6 = 0 then (some (Sum.inr (Sum.inl ()), σ)) else (gO (getR shC 4 x0 3 σ) fun v1 => gO (aldI shC 0 v1 x4 σ) fun v2 => lt' ((x3 ||| ((1 : Int32) <<< (v2 &&& 31)))) fun t3 => some (Sum.inl (x2, t3, (x4 + 1)), σ))
set_option maxRecDepth 100000 in
set_option maxHeartbeats 4000000 in
theorem t_X4_pick_b119 {l : Launch} {γ : Gm} {ad : Nat → Nat} {K : Option Value → Hp → Prop} (hc : Cx l γ 34 9 ad shC RX4 cX4_pick (some .boolean) K) {x0 : Nat} {x2 : Int32} {x3 : Int32} {x4 : Int32} {x6 : Int32}  {σ : Hp} {KL : ((Int32 × Int32 × Int32) ⊕ ((Unit) ⊕ (Unit))) → Hp → Prop} (h : wpO (f_X4_pick_b119 x0 x2 x3 x4 x6 σ) KL) (kn : ∀ (v : (Int32 × Int32 × Int32)) (σ : Hp), KL (Sum.inl v) σ → WW l γ 34 9 ad shC 7 [(0, .ref (ad x0)), (2, .int v.1), (3, .int v.2.1), (4, .int v.2.2)] [] σ) (kx124 : ∀ (v : Unit) (σ : Hp), KL (Sum.inr (Sum.inl v)) σ → WW l γ 34 9 ad shC 124 [] [] σ) (kx144 : ∀ (v : Unit) (σ : Hp), KL (Sum.inr (Sum.inr v)) σ → WW l γ 34 9 ad shC 144 [] [] σ) : WW l γ 34 9 ad shC 119 [(0, .ref (ad x0)), (2, .int x2), (3, .int x3), (4, .int x4), (6, .int x6)] [] σ := by
  unfold f_X4_pick_b119 at h
  refine r_iload hc 4 rfl dX4_pick_119 ?_
  refine r_if_ne hc (tgt := 126) dX4_pick_121 (by decide) (fun c => ?_) (fun c => ?_)
  · have h := wp_f c h
    refine r_iload_n hc 2 rfl rfl dX4_pick_126 ?_
    refine r_iconst hc (v := 1) (by decide) dX4_pick_127 ?_
    refine r_aload_n hc 0 rfl rfl dX4_pick_128 ?_
    obtain ⟨v1, ev1, h⟩ := wp_g h
    refine r_getR hc ev1 fl_X4_25 rfl dX4_pick_129 ?_
    refine r_iload hc 3 rfl dX4_pick_132 ?_
    obtain ⟨v2, ev2, h⟩ := wp_g h
    refine r_iald hc ev2 dX4_pick_134 ?_
    refine r_ishl hc dX4_pick_135 ?_
    refine r_ior hc dX4_pick_136 ?_
    obtain ⟨t3, et3, h⟩ := wp_l h
    refine r_istore_nE hc (i := 3) (lv' := [(3, .int t3), (0, .ref (ad x0)), (2, .int x2), (4, .int x4), (6, .int x6)]) et3 rfl (by decide) rfl dX4_pick_137 ?_
    refine r_iincE hc (j := 3) (w := 1) (lv' := [(4, .int (x4 + 1)), (3, .int t3), (0, .ref (ad x0)), (2, .int x2), (6, .int x6)]) rfl (by decide) rfl (by decide) rfl dX4_pick_138 ?_
    refine r_goto hc (tgt := 7) dX4_pick_141 (by decide) ?_
    refine r_sub [2, 3, 1, 0] (lv' := [(0, .ref (ad x0)), (2, .int x2), (3, .int t3), (4, .int (x4 + 1))]) rfl ?_
    have h := wp_v h
    exact kn (x2, t3, (x4 + 1)) _ h
  · have h := wp_t c h
    refine r_sub [] (lv' := []) rfl ?_
    have h := wp_v h
    exact kx124 () _ h
noncomputable def f_X4_pick_L7 (x0 : Nat) (v : (Int32 × Int32 × Int32)) (σ : Hp) : Option (((Int32 × Int32 × Int32) ⊕ ((Unit) ⊕ (Unit))) × Hp) := gO (getR shC 4 x0 0 σ) fun v1 => gO (getI shC 1 v1 0 σ) fun v2 => if v2 ≤ v.2.2 then (some (Sum.inr (Sum.inr ()), σ)) else (gO (chk shC x0 4) fun _ => bO (f_X4_choices x0 v.2.2 v.2.1 σ) fun r3 σ4 => bO (wh (f_X4_pick_L34 x0 v.2.1 v.2.2 r3) (v.1, 0, 0) σ4) fun y6 σ7 => (f_X4_pick_b119 x0 y6.1 v.2.1 v.2.2 y6.2 σ7))
set_option maxRecDepth 100000 in
set_option maxHeartbeats 4000000 in
theorem t_X4_pick_L7 {l : Launch} {γ : Gm} {ad : Nat → Nat} {K : Option Value → Hp → Prop}  (hc : Cx l γ 34 9 ad shC RX4 cX4_pick (some .boolean) K) {x0 : Nat} {v : (Int32 × Int32 × Int32)} {σ : Hp} {KX : ((Unit) ⊕ (Unit)) → Hp → Prop} (h : wpO (wh (f_X4_pick_L7 x0) v σ) KX) (kx124 : ∀ (v : Unit) (σ : Hp), KX (Sum.inl v) σ → WW l γ 34 9 ad shC 124 [] [] σ) (kx144 : ∀ (v : Unit) (σ : Hp), KX (Sum.inr v) σ → WW l γ 34 9 ad shC 144 [] [] σ) : WW l γ 34 9 ad shC 7 [(0, .ref (ad x0)), (2, .int v.1), (3, .int v.2.1), (4, .int v.2.2)] [] σ := by
  refine wh_W (P := fun v σ => WW l γ 34 9 ad shC 7 [(0, .ref (ad x0)), (2, .int v.1), (3, .int v.2.1), (4, .int v.2.2)] [] σ) (fun v σ h => ?_) h
  have kn : ∀ (v : (Int32 × Int32 × Int32)) (σ : Hp), WW l γ 34 9 ad shC 7 [(0, .ref (ad x0)), (2, .int v.1), (3, .int v.2.1), (4, .int v.2.2)] [] σ → WW l γ 34 9 ad shC 7 [(0, .ref (ad x0)), (2, .int v.1), (3, .int v.2.1), (4, .int v.2.2)] [] σ := fun _ _ h => h
  · unfold f_X4_pick_L7 at h
    refine r_iload hc 3 rfl dX4_pick_7 ?_
    refine r_aload_n hc 0 rfl rfl dX4_pick_9 ?_
    obtain ⟨v1, ev1, h⟩ := wp_g h
    refine r_getR hc ev1 fl_X4_12 rfl dX4_pick_10 ?_
    obtain ⟨v2, ev2, h⟩ := wp_g h
    refine r_getI hc ev2 fl_X4_40 rfl dX4_pick_13 ?_
    refine r_icmp_ge hc (tgt := 144) dX4_pick_16 (by decide) (fun c => ?_) (fun c => ?_)
    · have h := wp_t c h
      refine r_sub [] (lv' := []) rfl ?_
      have h := wp_v h
      exact kx144 () _ h
    · have h := wp_f c h
      refine r_aload_n hc 0 rfl rfl dX4_pick_19 ?_
      refine r_iload hc 3 rfl dX4_pick_20 ?_
      refine r_iload_n hc 2 rfl rfl dX4_pick_22 ?_
      obtain ⟨_, ek5, h⟩ := wp_g h
      obtain ⟨r3, σ4, er3, h⟩ := wp_b h
      refine r_callV hc (k0 := x0) mv_X4_choices ml_X4_86 (c_X4_choices er3) (chk_of ek5) cls_4.1 rfl rfl rfl (by decide) rfl (Nat.le_of_ble_eq_true rfl) dX4_pick_23 ?_
      refine r_istoreE hc (i := 5) (lv' := [(5, .int r3), (0, .ref (ad x0)), (2, .int v.1), (3, .int v.2.1), (4, .int v.2.2)]) rfl (by decide) rfl dX4_pick_26 ?_
      refine r_iconst hc (v := 0) (by decide) dX4_pick_28 ?_
      refine r_istoreE hc (i := 6) (lv' := [(6, .int 0), (5, .int r3), (0, .ref (ad x0)), (2, .int v.1), (3, .int v.2.1), (4, .int v.2.2)]) rfl (by decide) rfl dX4_pick_29 ?_
      refine r_iconst hc (v := 0) (by decide) dX4_pick_31 ?_
      refine r_istoreE hc (i := 7) (lv' := [(7, .int 0), (6, .int 0), (5, .int r3), (0, .ref (ad x0)), (2, .int v.1), (3, .int v.2.1), (4, .int v.2.2)]) rfl (by decide) rfl dX4_pick_32 ?_
      refine r_sub [3, 4, 5, 6, 2, 1, 0] (lv' := [(0, .ref (ad x0)), (2, .int v.1), (3, .int v.2.1), (4, .int v.2.2), (5, .int r3), (6, .int 0), (7, .int 0)]) rfl ?_
      refine t_X4_pick_L34 hc (wp_bb h) ?_
      · intro y6 σ7 h
        exact t_X4_pick_b119 hc h kn kx124 kx144
noncomputable def f_X4_pick (x0 : Nat) (x1 : Int32) (σ : Hp) : Option (Int32 × Hp) := bO (wh (f_X4_pick_L7 x0) (x1, 0, 0) σ) fun y1 σ2 => (Sum.elim (fun y1' => (some (0, σ2))) (fun y3 => (some (1, σ2))) y1)
set_option maxRecDepth 100000 in
set_option maxHeartbeats 4000000 in
theorem t_X4_pick {l : Launch} {γ : Gm} {ad : Nat → Nat} {K : Option Value → Hp → Prop} (hc : Cx l γ 34 9 ad shC RX4 cX4_pick (some .boolean) K) {x0 : Nat} {x1 : Int32} {σ : Hp} (h : wpO (f_X4_pick x0 x1 σ) (KI K)) : WW l γ 34 9 ad shC 0 [(0, .ref (ad x0)), (1, .int x1)] [] σ := by
  unfold f_X4_pick at h
  refine r_iload_n hc 1 rfl rfl dX4_pick_0 ?_
  refine r_istore_nE hc (i := 2) (lv' := [(2, .int x1), (0, .ref (ad x0)), (1, .int x1)]) rfl rfl (by decide) rfl dX4_pick_1 ?_
  refine r_iconst hc (v := 0) (by decide) dX4_pick_2 ?_
  refine r_istore_nE hc (i := 3) (lv' := [(3, .int 0), (2, .int x1), (0, .ref (ad x0)), (1, .int x1)]) rfl rfl (by decide) rfl dX4_pick_3 ?_
  refine r_iconst hc (v := 0) (by decide) dX4_pick_4 ?_
  refine r_istoreE hc (i := 4) (lv' := [(4, .int 0), (3, .int 0), (2, .int x1), (0, .ref (ad x0)), (1, .int x1)]) rfl (by decide) rfl dX4_pick_5 ?_
  refine r_sub [3, 2, 1, 0] (lv' := [(0, .ref (ad x0)), (2, .int x1), (3, .int 0), (4, .int 0)]) rfl ?_
  refine t_X4_pick_L7 hc (wp_bb h) ?_ ?_
  · intro y1' σ2 h
    have h := wp_sl h
    refine r_iconst hc (v := 0) (by decide) dX4_pick_124 ?_
    have h := wp_v h
    exact r_zret hc h (by decide) dX4_pick_125
  · intro y3 σ2 h
    have h := wp_sr h
    refine r_iconst hc (v := 1) (by decide) dX4_pick_144 ?_
    have h := wp_v h
    exact r_zret hc h (by decide) dX4_pick_145
theorem c_X4_pick {l : Launch} {x0 : Nat} {x1 : Int32} {σ σ' : Hp} {r : Int32} (h : f_X4_pick x0 x1 σ = some (r, σ')) : Mt l yX4_pick cX4_pick 9 (some .boolean) 34 shC (fun ad => [.ref (ad x0), .int x1]) σ (fun ad => some (.int r)) σ' := mt_i (own := RX4) (by decide) rfl (fun _ => Nat.le_of_ble_eq_true rfl) (fun γ ad K hc hk => t_X4_pick hc ⟨_, _, h, hk⟩)

-- NetMaps.map(IIII)I
theorem dX6_map_0 : decode cX6_map 0 = .ok (.aload_n 0, 1) := by decide +kernel
theorem dX6_map_1 : decode cX6_map 1 = .ok (.iload_n 1, 1) := by decide +kernel
theorem dX6_map_2 : decode cX6_map 2 = .ok (.iload 4, 2) := by decide +kernel
theorem dX6_map_4 : decode cX6_map 4 = .ok (.invokevirtual 112, 3) := by decide +kernel
theorem dX6_map_7 : decode cX6_map 7 = .ok (.ifCond .ne 14, 3) := by decide +kernel
theorem dX6_map_10 : decode cX6_map 10 = .ok (.iload_n 2, 1) := by decide +kernel
theorem dX6_map_11 : decode cX6_map 11 = .ok (.invokestatic 76, 3) := by decide +kernel
theorem dX6_map_14 : decode cX6_map 14 = .ok (.ifCond .ne 7, 3) := by decide +kernel
theorem dX6_map_17 : decode cX6_map 17 = .ok (.iload_n 3, 1) := by decide +kernel
theorem dX6_map_18 : decode cX6_map 18 = .ok (.ifCond .ge 5, 3) := by decide +kernel
theorem dX6_map_21 : decode cX6_map 21 = .ok (.iconst (-1), 1) := by decide +kernel
theorem dX6_map_22 : decode cX6_map 22 = .ok (.ireturn, 1) := by decide +kernel
theorem dX6_map_23 : decode cX6_map 23 = .ok (.aload_n 0, 1) := by decide +kernel
theorem dX6_map_24 : decode cX6_map 24 = .ok (.iload_n 1, 1) := by decide +kernel
theorem dX6_map_25 : decode cX6_map 25 = .ok (.invokevirtual 91, 3) := by decide +kernel
theorem dX6_map_28 : decode cX6_map 28 = .ok (.invokevirtual 109, 3) := by decide +kernel
theorem dX6_map_31 : decode cX6_map 31 = .ok (.ifCond .ne 14, 3) := by decide +kernel
theorem dX6_map_34 : decode cX6_map 34 = .ok (.aload_n 0, 1) := by decide +kernel
theorem dX6_map_35 : decode cX6_map 35 = .ok (.iload_n 2, 1) := by decide +kernel
theorem dX6_map_36 : decode cX6_map 36 = .ok (.invokevirtual 91, 3) := by decide +kernel
theorem dX6_map_39 : decode cX6_map 39 = .ok (.invokevirtual 109, 3) := by decide +kernel
theorem dX6_map_42 : decode cX6_map 42 = .ok (.ifCond .eq 6, 3) := by decide +kernel
theorem dX6_map_45 : decode cX6_map 45 = .ok (.bipush (-2), 2) := by decide +kernel
theorem dX6_map_47 : decode cX6_map 47 = .ok (.ireturn, 1) := by decide +kernel
theorem dX6_map_48 : decode cX6_map 48 = .ok (.aload_n 0, 1) := by decide +kernel
theorem dX6_map_49 : decode cX6_map 49 = .ok (.getfield 41, 3) := by decide +kernel
theorem dX6_map_52 : decode cX6_map 52 = .ok (.aload_n 0, 1) := by decide +kernel
theorem dX6_map_53 : decode cX6_map 53 = .ok (.iload_n 1, 1) := by decide +kernel
theorem dX6_map_54 : decode cX6_map 54 = .ok (.invokevirtual 91, 3) := by decide +kernel
theorem dX6_map_57 : decode cX6_map 57 = .ok (.aload_n 0, 1) := by decide +kernel
theorem dX6_map_58 : decode cX6_map 58 = .ok (.iload_n 2, 1) := by decide +kernel
theorem dX6_map_59 : decode cX6_map 59 = .ok (.invokevirtual 91, 3) := by decide +kernel
theorem dX6_map_62 : decode cX6_map 62 = .ok (.aload_n 0, 1) := by decide +kernel
theorem dX6_map_63 : decode cX6_map 63 = .ok (.getfield 10, 3) := by decide +kernel
theorem dX6_map_66 : decode cX6_map 66 = .ok (.getfield 213, 3) := by decide +kernel
theorem dX6_map_69 : decode cX6_map 69 = .ok (.invokevirtual 220, 3) := by decide +kernel
theorem dX6_map_72 : decode cX6_map 72 = .ok (.aload_n 0, 1) := by decide +kernel
theorem dX6_map_73 : decode cX6_map 73 = .ok (.getfield 41, 3) := by decide +kernel
theorem dX6_map_76 : decode cX6_map 76 = .ok (.iload_n 3, 1) := by decide +kernel
theorem dX6_map_77 : decode cX6_map 77 = .ok (.invokevirtual 233, 3) := by decide +kernel
theorem dX6_map_80 : decode cX6_map 80 = .ok (.ifCond .eq 16, 3) := by decide +kernel
theorem dX6_map_83 : decode cX6_map 83 = .ok (.aload_n 0, 1) := by decide +kernel
theorem dX6_map_84 : decode cX6_map 84 = .ok (.getfield 41, 3) := by decide +kernel
theorem dX6_map_87 : decode cX6_map 87 = .ok (.getfield 236, 3) := by decide +kernel
theorem dX6_map_90 : decode cX6_map 90 = .ok (.iload 4, 2) := by decide +kernel
theorem dX6_map_92 : decode cX6_map 92 = .ok (.iaload, 1) := by decide +kernel
theorem dX6_map_93 : decode cX6_map 93 = .ok (.goto 5, 3) := by decide +kernel
theorem dX6_map_96 : decode cX6_map 96 = .ok (.bipush (-3), 2) := by decide +kernel
theorem dX6_map_98 : decode cX6_map 98 = .ok (.ireturn, 1) := by decide +kernel
noncomputable def f_X6_map_b21  (σ : Hp) : Option (Int32 × Hp) := some ((-1), σ)
set_option maxRecDepth 100000 in
set_option maxHeartbeats 4000000 in
theorem t_X6_map_b21 {l : Launch} {γ : Gm} {ad : Nat → Nat} {K : Option Value → Hp → Prop} (hc : Cx l γ 35 5 ad shC RX6 cX6_map (some .int) K)  {σ : Hp} (h : wpO (f_X6_map_b21  σ) (KI K)) : WW l γ 35 5 ad shC 21 [] [] σ := by
  unfold f_X6_map_b21 at h
  refine r_iconst hc (v := (-1)) (by decide) dX6_map_21 ?_
  have h := wp_v h
  exact r_iret hc h dX6_map_22
noncomputable def f_X6_map_b45  (σ : Hp) : Option (Int32 × Hp) := some ((-2), σ)
set_option maxRecDepth 100000 in
set_option maxHeartbeats 4000000 in
theorem t_X6_map_b45 {l : Launch} {γ : Gm} {ad : Nat → Nat} {K : Option Value → Hp → Prop} (hc : Cx l γ 35 5 ad shC RX6 cX6_map (some .int) K)  {σ : Hp} (h : wpO (f_X6_map_b45  σ) (KI K)) : WW l γ 35 5 ad shC 45 [] [] σ := by
  unfold f_X6_map_b45 at h
  refine r_bipush hc (v := (-2)) (by decide) dX6_map_45 ?_
  have h := wp_v h
  exact r_iret hc h dX6_map_47
noncomputable def f_X6_map_b98 (s0 : Int32) (σ : Hp) : Option (Int32 × Hp) := some (s0, σ)
set_option maxRecDepth 100000 in
set_option maxHeartbeats 4000000 in
theorem t_X6_map_b98 {l : Launch} {γ : Gm} {ad : Nat → Nat} {K : Option Value → Hp → Prop} (hc : Cx l γ 35 5 ad shC RX6 cX6_map (some .int) K) {s0 : Int32} {σ : Hp} (h : wpO (f_X6_map_b98 s0 σ) (KI K)) : WW l γ 35 5 ad shC 98 [] [.int s0] σ := by
  unfold f_X6_map_b98 at h
  have h := wp_v h
  exact r_iret hc h dX6_map_98
noncomputable def f_X6_map (x0 : Nat) (x1 : Int32) (x2 : Int32) (x3 : Int32) (x4 : Int32) (σ : Hp) : Option (Int32 × Hp) := gO (chk shC x0 6) fun _ => bO (f_X6_noNode x0 x1 x4 σ) fun r1 σ2 => if r1 = 0 then (bO (f_X6_noDrawer x2 σ2) fun r4 σ5 => if r4 = 0 then (if 0 ≤ x3 then (gO (chk shC x0 6) fun _ => bO (f_X6_in x0 x1 σ5) fun r6 σ7 => gO (chk shC r6 1) fun _ => bO (f_X1_isEmpty r6 σ7) fun r9 σ10 => if r9 = 0 then (gO (chk shC x0 6) fun _ => bO (f_X6_in x0 x2 σ10) fun r12 σ13 => gO (chk shC r12 1) fun _ => bO (f_X1_isEmpty r12 σ13) fun r15 σ16 => if r15 = 0 then (gO (getR shC 6 x0 7 σ16) fun v18 => gO (chk shC x0 6) fun _ => bO (f_X6_in x0 x1 σ16) fun r19 σ20 => gO (chk shC x0 6) fun _ => bO (f_X6_in x0 x2 σ20) fun r22 σ23 => gO (getR shC 6 x0 0 σ23) fun v25 => gO (getR shC 5 v25 1 σ23) fun v26 => gO (chk shC v18 4) fun _ => bO (f_X4_byLists v18 r19 r22 v26 σ23) fun _ σ28 => gO (getR shC 6 x0 7 σ28) fun v30 => gO (chk shC v30 4) fun _ => bO (f_X4_pick v30 x3 σ28) fun r31 σ32 => if r31 = 0 then (f_X6_map_b98 (-3) σ32) else (gO (getR shC 6 x0 7 σ32) fun v34 => gO (getR shC 4 v34 3 σ32) fun v35 => gO (aldI shC 0 v35 x4 σ32) fun v36 => f_X6_map_b98 v36 σ32)) else (f_X6_map_b45  σ16)) else (f_X6_map_b45  σ10)) else (f_X6_map_b21  σ5)) else (f_X6_map_b21  σ5)) else (f_X6_map_b21  σ2)
set_option maxRecDepth 100000 in
set_option maxHeartbeats 4000000 in
theorem t_X6_map {l : Launch} {γ : Gm} {ad : Nat → Nat} {K : Option Value → Hp → Prop} (hc : Cx l γ 35 5 ad shC RX6 cX6_map (some .int) K) {x0 : Nat} {x1 : Int32} {x2 : Int32} {x3 : Int32} {x4 : Int32} {σ : Hp} (h : wpO (f_X6_map x0 x1 x2 x3 x4 σ) (KI K)) : WW l γ 35 5 ad shC 0 [(0, .ref (ad x0)), (1, .int x1), (2, .int x2), (3, .int x3), (4, .int x4)] [] σ := by
  unfold f_X6_map at h
  refine r_aload_n hc 0 rfl rfl dX6_map_0 ?_
  refine r_iload_n hc 1 rfl rfl dX6_map_1 ?_
  refine r_iload hc 4 rfl dX6_map_2 ?_
  obtain ⟨_, ek3, h⟩ := wp_g h
  obtain ⟨r1, σ2, er1, h⟩ := wp_b h
  refine r_callV hc (k0 := x0) mv_X6_noNode ml_X6_112 (c_X6_noNode er1) (chk_of ek3) cls_6.1 rfl rfl rfl (by decide) rfl (Nat.le_of_ble_eq_true rfl) dX6_map_4 ?_
  refine r_if_ne hc (tgt := 21) dX6_map_7 (by decide) (fun c => ?_) (fun c => ?_)
  · have h := wp_f c h
    refine r_sub [] (lv' := []) rfl ?_
    exact t_X6_map_b21 hc h
  · have h := wp_t c h
    refine r_iload_n hc 2 rfl rfl dX6_map_10 ?_
    obtain ⟨r4, σ5, er4, h⟩ := wp_b h
    refine r_callS hc ms_X6_noDrawer ml_X6_76 (c_X6_noDrawer er4) rfl rfl (by decide) rfl (Nat.le_of_ble_eq_true rfl) dX6_map_11 ?_
    refine r_if_ne hc (tgt := 21) dX6_map_14 (by decide) (fun c => ?_) (fun c => ?_)
    · have h := wp_f c h
      refine r_sub [] (lv' := []) rfl ?_
      exact t_X6_map_b21 hc h
    · have h := wp_t c h
      refine r_iload_n hc 3 rfl rfl dX6_map_17 ?_
      refine r_if_ge hc (tgt := 23) dX6_map_18 (by decide) (fun c => ?_) (fun c => ?_)
      · have h := wp_t c h
        refine r_aload_n hc 0 rfl rfl dX6_map_23 ?_
        refine r_iload_n hc 1 rfl rfl dX6_map_24 ?_
        obtain ⟨_, ek8, h⟩ := wp_g h
        obtain ⟨r6, σ7, er6, h⟩ := wp_b h
        refine r_callV hc (k0 := x0) mv_X6_in ml_X6_91 (c_X6_in er6) (chk_of ek8) cls_6.1 rfl rfl rfl (by decide) rfl (Nat.le_of_ble_eq_true rfl) dX6_map_25 ?_
        obtain ⟨_, ek11, h⟩ := wp_g h
        obtain ⟨r9, σ10, er9, h⟩ := wp_b h
        refine r_callV hc (k0 := r6) mv_X1_isEmpty ml_X6_109 (c_X1_isEmpty er9) (chk_of ek11) cls_1.1 rfl rfl rfl (by decide) rfl (Nat.le_of_ble_eq_true rfl) dX6_map_28 ?_
        refine r_if_ne hc (tgt := 45) dX6_map_31 (by decide) (fun c => ?_) (fun c => ?_)
        · have h := wp_f c h
          refine r_sub [] (lv' := []) rfl ?_
          exact t_X6_map_b45 hc h
        · have h := wp_t c h
          refine r_aload_n hc 0 rfl rfl dX6_map_34 ?_
          refine r_iload_n hc 2 rfl rfl dX6_map_35 ?_
          obtain ⟨_, ek14, h⟩ := wp_g h
          obtain ⟨r12, σ13, er12, h⟩ := wp_b h
          refine r_callV hc (k0 := x0) mv_X6_in ml_X6_91 (c_X6_in er12) (chk_of ek14) cls_6.1 rfl rfl rfl (by decide) rfl (Nat.le_of_ble_eq_true rfl) dX6_map_36 ?_
          obtain ⟨_, ek17, h⟩ := wp_g h
          obtain ⟨r15, σ16, er15, h⟩ := wp_b h
          refine r_callV hc (k0 := r12) mv_X1_isEmpty ml_X6_109 (c_X1_isEmpty er15) (chk_of ek17) cls_1.1 rfl rfl rfl (by decide) rfl (Nat.le_of_ble_eq_true rfl) dX6_map_39 ?_
          refine r_if_eq hc (tgt := 48) dX6_map_42 (by decide) (fun c => ?_) (fun c => ?_)
          · have h := wp_t c h
            refine r_aload_n hc 0 rfl rfl dX6_map_48 ?_
            obtain ⟨v18, ev18, h⟩ := wp_g h
            refine r_getR hc ev18 fl_X6_41 rfl dX6_map_49 ?_
            refine r_aload_n hc 0 rfl rfl dX6_map_52 ?_
            refine r_iload_n hc 1 rfl rfl dX6_map_53 ?_
            obtain ⟨_, ek21, h⟩ := wp_g h
            obtain ⟨r19, σ20, er19, h⟩ := wp_b h
            refine r_callV hc (k0 := x0) mv_X6_in ml_X6_91 (c_X6_in er19) (chk_of ek21) cls_6.1 rfl rfl rfl (by decide) rfl (Nat.le_of_ble_eq_true rfl) dX6_map_54 ?_
            refine r_aload_n hc 0 rfl rfl dX6_map_57 ?_
            refine r_iload_n hc 2 rfl rfl dX6_map_58 ?_
            obtain ⟨_, ek24, h⟩ := wp_g h
            obtain ⟨r22, σ23, er22, h⟩ := wp_b h
            refine r_callV hc (k0 := x0) mv_X6_in ml_X6_91 (c_X6_in er22) (chk_of ek24) cls_6.1 rfl rfl rfl (by decide) rfl (Nat.le_of_ble_eq_true rfl) dX6_map_59 ?_
            refine r_aload_n hc 0 rfl rfl dX6_map_62 ?_
            obtain ⟨v25, ev25, h⟩ := wp_g h
            refine r_getR hc ev25 fl_X6_10 rfl dX6_map_63 ?_
            obtain ⟨v26, ev26, h⟩ := wp_g h
            refine r_getR hc ev26 fl_X6_213 rfl dX6_map_66 ?_
            obtain ⟨_, ek29, h⟩ := wp_g h
            obtain ⟨_, σ28, er27, h⟩ := wp_b h
            refine r_callV hc (k0 := v18) mv_X4_byLists ml_X6_220 (c_X4_byLists er27) (chk_of ek29) cls_4.1 rfl rfl rfl (by decide) rfl (Nat.le_of_ble_eq_true rfl) dX6_map_69 ?_
            refine r_aload_n hc 0 rfl rfl dX6_map_72 ?_
            obtain ⟨v30, ev30, h⟩ := wp_g h
            refine r_getR hc ev30 fl_X6_41 rfl dX6_map_73 ?_
            refine r_iload_n hc 3 rfl rfl dX6_map_76 ?_
            obtain ⟨_, ek33, h⟩ := wp_g h
            obtain ⟨r31, σ32, er31, h⟩ := wp_b h
            refine r_callV hc (k0 := v30) mv_X4_pick ml_X6_233 (c_X4_pick er31) (chk_of ek33) cls_4.1 rfl rfl rfl (by decide) rfl (Nat.le_of_ble_eq_true rfl) dX6_map_77 ?_
            refine r_if_eq hc (tgt := 96) dX6_map_80 (by decide) (fun c => ?_) (fun c => ?_)
            · have h := wp_t c h
              refine r_bipush hc (v := (-3)) (by decide) dX6_map_96 ?_
              refine r_sub [] (lv' := []) rfl ?_
              exact t_X6_map_b98 hc h
            · have h := wp_f c h
              refine r_aload_n hc 0 rfl rfl dX6_map_83 ?_
              obtain ⟨v34, ev34, h⟩ := wp_g h
              refine r_getR hc ev34 fl_X6_41 rfl dX6_map_84 ?_
              obtain ⟨v35, ev35, h⟩ := wp_g h
              refine r_getR hc ev35 fl_X6_236 rfl dX6_map_87 ?_
              refine r_iload hc 4 rfl dX6_map_90 ?_
              obtain ⟨v36, ev36, h⟩ := wp_g h
              refine r_iald hc ev36 dX6_map_92 ?_
              refine r_goto hc (tgt := 98) dX6_map_93 (by decide) ?_
              refine r_sub [] (lv' := []) rfl ?_
              exact t_X6_map_b98 hc h
          · have h := wp_f c h
            refine r_sub [] (lv' := []) rfl ?_
            exact t_X6_map_b45 hc h
      · have h := wp_f c h
        refine r_sub [] (lv' := []) rfl ?_
        exact t_X6_map_b21 hc h
theorem c_X6_map {l : Launch} {x0 : Nat} {x1 : Int32} {x2 : Int32} {x3 : Int32} {x4 : Int32} {σ σ' : Hp} {r : Int32} (h : f_X6_map x0 x1 x2 x3 x4 σ = some (r, σ')) : Mt l yX6_map cX6_map 5 (some .int) 35 shC (fun ad => [.ref (ad x0), .int x1, .int x2, .int x3, .int x4]) σ (fun ad => some (.int r)) σ' := mt_i (own := RX6) (by decide) rfl (fun _ => Nat.le_of_ble_eq_true rfl) (fun γ ad K hc hk => t_X6_map hc ⟨_, _, h, hk⟩)

-- NetMaps.becomes(IIII)I
theorem dX6_becomes_0 : decode cX6_becomes 0 = .ok (.aload_n 0, 1) := by decide +kernel
theorem dX6_becomes_1 : decode cX6_becomes 1 = .ok (.iload_n 1, 1) := by decide +kernel
theorem dX6_becomes_2 : decode cX6_becomes 2 = .ok (.iload_n 3, 1) := by decide +kernel
theorem dX6_becomes_3 : decode cX6_becomes 3 = .ok (.invokevirtual 112, 3) := by decide +kernel
theorem dX6_becomes_6 : decode cX6_becomes 6 = .ok (.ifCond .ne 13, 3) := by decide +kernel
theorem dX6_becomes_9 : decode cX6_becomes 9 = .ok (.aload_n 0, 1) := by decide +kernel
theorem dX6_becomes_10 : decode cX6_becomes 10 = .ok (.iload_n 2, 1) := by decide +kernel
theorem dX6_becomes_11 : decode cX6_becomes 11 = .ok (.iload 4, 2) := by decide +kernel
theorem dX6_becomes_13 : decode cX6_becomes 13 = .ok (.invokevirtual 112, 3) := by decide +kernel
theorem dX6_becomes_16 : decode cX6_becomes 16 = .ok (.ifCond .eq 5, 3) := by decide +kernel
theorem dX6_becomes_19 : decode cX6_becomes 19 = .ok (.iconst (-1), 1) := by decide +kernel
theorem dX6_becomes_20 : decode cX6_becomes 20 = .ok (.ireturn, 1) := by decide +kernel
theorem dX6_becomes_21 : decode cX6_becomes 21 = .ok (.aload_n 0, 1) := by decide +kernel
theorem dX6_becomes_22 : decode cX6_becomes 22 = .ok (.iload_n 1, 1) := by decide +kernel
theorem dX6_becomes_23 : decode cX6_becomes 23 = .ok (.invokevirtual 91, 3) := by decide +kernel
theorem dX6_becomes_26 : decode cX6_becomes 26 = .ok (.invokevirtual 109, 3) := by decide +kernel
theorem dX6_becomes_29 : decode cX6_becomes 29 = .ok (.ifCond .ne 14, 3) := by decide +kernel
theorem dX6_becomes_32 : decode cX6_becomes 32 = .ok (.aload_n 0, 1) := by decide +kernel
theorem dX6_becomes_33 : decode cX6_becomes 33 = .ok (.iload_n 2, 1) := by decide +kernel
theorem dX6_becomes_34 : decode cX6_becomes 34 = .ok (.invokevirtual 91, 3) := by decide +kernel
theorem dX6_becomes_37 : decode cX6_becomes 37 = .ok (.invokevirtual 109, 3) := by decide +kernel
theorem dX6_becomes_40 : decode cX6_becomes 40 = .ok (.ifCond .eq 6, 3) := by decide +kernel
theorem dX6_becomes_43 : decode cX6_becomes 43 = .ok (.bipush (-2), 2) := by decide +kernel
theorem dX6_becomes_45 : decode cX6_becomes 45 = .ok (.ireturn, 1) := by decide +kernel
theorem dX6_becomes_46 : decode cX6_becomes 46 = .ok (.aload_n 0, 1) := by decide +kernel
theorem dX6_becomes_47 : decode cX6_becomes 47 = .ok (.getfield 41, 3) := by decide +kernel
theorem dX6_becomes_50 : decode cX6_becomes 50 = .ok (.aload_n 0, 1) := by decide +kernel
theorem dX6_becomes_51 : decode cX6_becomes 51 = .ok (.iload_n 1, 1) := by decide +kernel
theorem dX6_becomes_52 : decode cX6_becomes 52 = .ok (.invokevirtual 91, 3) := by decide +kernel
theorem dX6_becomes_55 : decode cX6_becomes 55 = .ok (.aload_n 0, 1) := by decide +kernel
theorem dX6_becomes_56 : decode cX6_becomes 56 = .ok (.iload_n 2, 1) := by decide +kernel
theorem dX6_becomes_57 : decode cX6_becomes 57 = .ok (.invokevirtual 91, 3) := by decide +kernel
theorem dX6_becomes_60 : decode cX6_becomes 60 = .ok (.aload_n 0, 1) := by decide +kernel
theorem dX6_becomes_61 : decode cX6_becomes 61 = .ok (.getfield 10, 3) := by decide +kernel
theorem dX6_becomes_64 : decode cX6_becomes 64 = .ok (.getfield 213, 3) := by decide +kernel
theorem dX6_becomes_67 : decode cX6_becomes 67 = .ok (.invokevirtual 220, 3) := by decide +kernel
theorem dX6_becomes_70 : decode cX6_becomes 70 = .ok (.aload_n 0, 1) := by decide +kernel
theorem dX6_becomes_71 : decode cX6_becomes 71 = .ok (.getfield 41, 3) := by decide +kernel
theorem dX6_becomes_74 : decode cX6_becomes 74 = .ok (.getfield 239, 3) := by decide +kernel
theorem dX6_becomes_77 : decode cX6_becomes 77 = .ok (.iload_n 3, 1) := by decide +kernel
theorem dX6_becomes_78 : decode cX6_becomes 78 = .ok (.dup2, 1) := by decide +kernel
theorem dX6_becomes_79 : decode cX6_becomes 79 = .ok (.iaload, 1) := by decide +kernel
theorem dX6_becomes_80 : decode cX6_becomes 80 = .ok (.iconst 1, 1) := by decide +kernel
theorem dX6_becomes_81 : decode cX6_becomes 81 = .ok (.iload 4, 2) := by decide +kernel
theorem dX6_becomes_83 : decode cX6_becomes 83 = .ok (.ishl, 1) := by decide +kernel
theorem dX6_becomes_84 : decode cX6_becomes 84 = .ok (.iand, 1) := by decide +kernel
theorem dX6_becomes_85 : decode cX6_becomes 85 = .ok (.iastore, 1) := by decide +kernel
theorem dX6_becomes_86 : decode cX6_becomes 86 = .ok (.aload_n 0, 1) := by decide +kernel
theorem dX6_becomes_87 : decode cX6_becomes 87 = .ok (.getfield 41, 3) := by decide +kernel
theorem dX6_becomes_90 : decode cX6_becomes 90 = .ok (.invokevirtual 230, 3) := by decide +kernel
theorem dX6_becomes_93 : decode cX6_becomes 93 = .ok (.ireturn, 1) := by decide +kernel
noncomputable def f_X6_becomes_b19  (σ : Hp) : Option (Int32 × Hp) := some ((-1), σ)
set_option maxRecDepth 100000 in
set_option maxHeartbeats 4000000 in
theorem t_X6_becomes_b19 {l : Launch} {γ : Gm} {ad : Nat → Nat} {K : Option Value → Hp → Prop} (hc : Cx l γ 35 5 ad shC RX6 cX6_becomes (some .int) K)  {σ : Hp} (h : wpO (f_X6_becomes_b19  σ) (KI K)) : WW l γ 35 5 ad shC 19 [] [] σ := by
  unfold f_X6_becomes_b19 at h
  refine r_iconst hc (v := (-1)) (by decide) dX6_becomes_19 ?_
  have h := wp_v h
  exact r_iret hc h dX6_becomes_20
noncomputable def f_X6_becomes_b43  (σ : Hp) : Option (Int32 × Hp) := some ((-2), σ)
set_option maxRecDepth 100000 in
set_option maxHeartbeats 4000000 in
theorem t_X6_becomes_b43 {l : Launch} {γ : Gm} {ad : Nat → Nat} {K : Option Value → Hp → Prop} (hc : Cx l γ 35 5 ad shC RX6 cX6_becomes (some .int) K)  {σ : Hp} (h : wpO (f_X6_becomes_b43  σ) (KI K)) : WW l γ 35 5 ad shC 43 [] [] σ := by
  unfold f_X6_becomes_b43 at h
  refine r_bipush hc (v := (-2)) (by decide) dX6_becomes_43 ?_
  have h := wp_v h
  exact r_iret hc h dX6_becomes_45
noncomputable def f_X6_becomes (x0 : Nat) (x1 : Int32) (x2 : Int32) (x3 : Int32) (x4 : Int32) (σ : Hp) : Option (Int32 × Hp) := gO (chk shC x0 6) fun _ => bO (f_X6_noNode x0 x1 x3 σ) fun r1 σ2 => if r1 = 0 then (gO (chk shC x0 6) fun _ => bO (f_X6_noNode x0 x2 x4 σ2) fun r4 σ5 => if r4 = 0 then (gO (chk shC x0 6) fun _ => bO (f_X6_in x0 x1 σ5) fun r7 σ8 => gO (chk shC r7 1) fun _ => bO (f_X1_isEmpty r7 σ8) fun r10 σ11 => if r10 = 0 then (gO (chk shC x0 6) fun _ => bO (f_X6_in x0 x2 σ11) fun r13 σ14 => gO (chk shC r13 1) fun _ => bO (f_X1_isEmpty r13 σ14) fun r16 σ17 => if r16 = 0 then (gO (getR shC 6 x0 7 σ17) fun v19 => gO (chk shC x0 6) fun _ => bO (f_X6_in x0 x1 σ17) fun r20 σ21 => gO (chk shC x0 6) fun _ => bO (f_X6_in x0 x2 σ21) fun r23 σ24 => gO (getR shC 6 x0 0 σ24) fun v26 => gO (getR shC 5 v26 1 σ24) fun v27 => gO (chk shC v19 4) fun _ => bO (f_X4_byLists v19 r20 r23 v27 σ24) fun _ σ29 => gO (getR shC 6 x0 7 σ29) fun v31 => gO (getR shC 4 v31 2 σ29) fun v32 => gO (aldI shC 0 v32 x3 σ29) fun v33 => gO (astI shC 0 v32 x3 (v33 &&& ((1 : Int32) <<< (x4 &&& 31))) σ29) fun σ34 => gO (getR shC 6 x0 7 σ34) fun v35 => gO (chk shC v35 4) fun _ => bO (f_X4_howMany v35 σ34) fun r36 σ37 => some (r36, σ37)) else (f_X6_becomes_b43  σ17)) else (f_X6_becomes_b43  σ11)) else (f_X6_becomes_b19  σ5)) else (f_X6_becomes_b19  σ2)
set_option maxRecDepth 100000 in
set_option maxHeartbeats 4000000 in
theorem t_X6_becomes {l : Launch} {γ : Gm} {ad : Nat → Nat} {K : Option Value → Hp → Prop} (hc : Cx l γ 35 5 ad shC RX6 cX6_becomes (some .int) K) {x0 : Nat} {x1 : Int32} {x2 : Int32} {x3 : Int32} {x4 : Int32} {σ : Hp} (h : wpO (f_X6_becomes x0 x1 x2 x3 x4 σ) (KI K)) : WW l γ 35 5 ad shC 0 [(0, .ref (ad x0)), (1, .int x1), (2, .int x2), (3, .int x3), (4, .int x4)] [] σ := by
  unfold f_X6_becomes at h
  refine r_aload_n hc 0 rfl rfl dX6_becomes_0 ?_
  refine r_iload_n hc 1 rfl rfl dX6_becomes_1 ?_
  refine r_iload_n hc 3 rfl rfl dX6_becomes_2 ?_
  obtain ⟨_, ek3, h⟩ := wp_g h
  obtain ⟨r1, σ2, er1, h⟩ := wp_b h
  refine r_callV hc (k0 := x0) mv_X6_noNode ml_X6_112 (c_X6_noNode er1) (chk_of ek3) cls_6.1 rfl rfl rfl (by decide) rfl (Nat.le_of_ble_eq_true rfl) dX6_becomes_3 ?_
  refine r_if_ne hc (tgt := 19) dX6_becomes_6 (by decide) (fun c => ?_) (fun c => ?_)
  · have h := wp_f c h
    refine r_sub [] (lv' := []) rfl ?_
    exact t_X6_becomes_b19 hc h
  · have h := wp_t c h
    refine r_aload_n hc 0 rfl rfl dX6_becomes_9 ?_
    refine r_iload_n hc 2 rfl rfl dX6_becomes_10 ?_
    refine r_iload hc 4 rfl dX6_becomes_11 ?_
    obtain ⟨_, ek6, h⟩ := wp_g h
    obtain ⟨r4, σ5, er4, h⟩ := wp_b h
    refine r_callV hc (k0 := x0) mv_X6_noNode ml_X6_112 (c_X6_noNode er4) (chk_of ek6) cls_6.1 rfl rfl rfl (by decide) rfl (Nat.le_of_ble_eq_true rfl) dX6_becomes_13 ?_
    refine r_if_eq hc (tgt := 21) dX6_becomes_16 (by decide) (fun c => ?_) (fun c => ?_)
    · have h := wp_t c h
      refine r_aload_n hc 0 rfl rfl dX6_becomes_21 ?_
      refine r_iload_n hc 1 rfl rfl dX6_becomes_22 ?_
      obtain ⟨_, ek9, h⟩ := wp_g h
      obtain ⟨r7, σ8, er7, h⟩ := wp_b h
      refine r_callV hc (k0 := x0) mv_X6_in ml_X6_91 (c_X6_in er7) (chk_of ek9) cls_6.1 rfl rfl rfl (by decide) rfl (Nat.le_of_ble_eq_true rfl) dX6_becomes_23 ?_
      obtain ⟨_, ek12, h⟩ := wp_g h
      obtain ⟨r10, σ11, er10, h⟩ := wp_b h
      refine r_callV hc (k0 := r7) mv_X1_isEmpty ml_X6_109 (c_X1_isEmpty er10) (chk_of ek12) cls_1.1 rfl rfl rfl (by decide) rfl (Nat.le_of_ble_eq_true rfl) dX6_becomes_26 ?_
      refine r_if_ne hc (tgt := 43) dX6_becomes_29 (by decide) (fun c => ?_) (fun c => ?_)
      · have h := wp_f c h
        refine r_sub [] (lv' := []) rfl ?_
        exact t_X6_becomes_b43 hc h
      · have h := wp_t c h
        refine r_aload_n hc 0 rfl rfl dX6_becomes_32 ?_
        refine r_iload_n hc 2 rfl rfl dX6_becomes_33 ?_
        obtain ⟨_, ek15, h⟩ := wp_g h
        obtain ⟨r13, σ14, er13, h⟩ := wp_b h
        refine r_callV hc (k0 := x0) mv_X6_in ml_X6_91 (c_X6_in er13) (chk_of ek15) cls_6.1 rfl rfl rfl (by decide) rfl (Nat.le_of_ble_eq_true rfl) dX6_becomes_34 ?_
        obtain ⟨_, ek18, h⟩ := wp_g h
        obtain ⟨r16, σ17, er16, h⟩ := wp_b h
        refine r_callV hc (k0 := r13) mv_X1_isEmpty ml_X6_109 (c_X1_isEmpty er16) (chk_of ek18) cls_1.1 rfl rfl rfl (by decide) rfl (Nat.le_of_ble_eq_true rfl) dX6_becomes_37 ?_
        refine r_if_eq hc (tgt := 46) dX6_becomes_40 (by decide) (fun c => ?_) (fun c => ?_)
        · have h := wp_t c h
          refine r_aload_n hc 0 rfl rfl dX6_becomes_46 ?_
          obtain ⟨v19, ev19, h⟩ := wp_g h
          refine r_getR hc ev19 fl_X6_41 rfl dX6_becomes_47 ?_
          refine r_aload_n hc 0 rfl rfl dX6_becomes_50 ?_
          refine r_iload_n hc 1 rfl rfl dX6_becomes_51 ?_
          obtain ⟨_, ek22, h⟩ := wp_g h
          obtain ⟨r20, σ21, er20, h⟩ := wp_b h
          refine r_callV hc (k0 := x0) mv_X6_in ml_X6_91 (c_X6_in er20) (chk_of ek22) cls_6.1 rfl rfl rfl (by decide) rfl (Nat.le_of_ble_eq_true rfl) dX6_becomes_52 ?_
          refine r_aload_n hc 0 rfl rfl dX6_becomes_55 ?_
          refine r_iload_n hc 2 rfl rfl dX6_becomes_56 ?_
          obtain ⟨_, ek25, h⟩ := wp_g h
          obtain ⟨r23, σ24, er23, h⟩ := wp_b h
          refine r_callV hc (k0 := x0) mv_X6_in ml_X6_91 (c_X6_in er23) (chk_of ek25) cls_6.1 rfl rfl rfl (by decide) rfl (Nat.le_of_ble_eq_true rfl) dX6_becomes_57 ?_
          refine r_aload_n hc 0 rfl rfl dX6_becomes_60 ?_
          obtain ⟨v26, ev26, h⟩ := wp_g h
          refine r_getR hc ev26 fl_X6_10 rfl dX6_becomes_61 ?_
          obtain ⟨v27, ev27, h⟩ := wp_g h
          refine r_getR hc ev27 fl_X6_213 rfl dX6_becomes_64 ?_
          obtain ⟨_, ek30, h⟩ := wp_g h
          obtain ⟨_, σ29, er28, h⟩ := wp_b h
          refine r_callV hc (k0 := v19) mv_X4_byLists ml_X6_220 (c_X4_byLists er28) (chk_of ek30) cls_4.1 rfl rfl rfl (by decide) rfl (Nat.le_of_ble_eq_true rfl) dX6_becomes_67 ?_
          refine r_aload_n hc 0 rfl rfl dX6_becomes_70 ?_
          obtain ⟨v31, ev31, h⟩ := wp_g h
          refine r_getR hc ev31 fl_X6_41 rfl dX6_becomes_71 ?_
          obtain ⟨v32, ev32, h⟩ := wp_g h
          refine r_getR hc ev32 fl_X6_239 rfl dX6_becomes_74 ?_
          refine r_iload_n hc 3 rfl rfl dX6_becomes_77 ?_
          refine r_dup2 hc rfl rfl dX6_becomes_78 ?_
          obtain ⟨v33, ev33, h⟩ := wp_g h
          refine r_iald hc ev33 dX6_becomes_79 ?_
          refine r_iconst hc (v := 1) (by decide) dX6_becomes_80 ?_
          refine r_iload hc 4 rfl dX6_becomes_81 ?_
          refine r_ishl hc dX6_becomes_83 ?_
          refine r_iand hc dX6_becomes_84 ?_
          obtain ⟨σ34, eσ34, h⟩ := wp_g h
          refine r_iast hc eσ34 dX6_becomes_85 ?_
          refine r_aload_n hc 0 rfl rfl dX6_becomes_86 ?_
          obtain ⟨v35, ev35, h⟩ := wp_g h
          refine r_getR hc ev35 fl_X6_41 rfl dX6_becomes_87 ?_
          obtain ⟨_, ek38, h⟩ := wp_g h
          obtain ⟨r36, σ37, er36, h⟩ := wp_b h
          refine r_callV hc (k0 := v35) mv_X4_howMany ml_X6_230 (c_X4_howMany er36) (chk_of ek38) cls_4.1 rfl rfl rfl (by decide) rfl (Nat.le_of_ble_eq_true rfl) dX6_becomes_90 ?_
          have h := wp_v h
          exact r_iret hc h dX6_becomes_93
        · have h := wp_f c h
          refine r_sub [] (lv' := []) rfl ?_
          exact t_X6_becomes_b43 hc h
    · have h := wp_f c h
      refine r_sub [] (lv' := []) rfl ?_
      exact t_X6_becomes_b19 hc h
theorem c_X6_becomes {l : Launch} {x0 : Nat} {x1 : Int32} {x2 : Int32} {x3 : Int32} {x4 : Int32} {σ σ' : Hp} {r : Int32} (h : f_X6_becomes x0 x1 x2 x3 x4 σ = some (r, σ')) : Mt l yX6_becomes cX6_becomes 5 (some .int) 35 shC (fun ad => [.ref (ad x0), .int x1, .int x2, .int x3, .int x4]) σ (fun ad => some (.int r)) σ' := mt_i (own := RX6) (by decide) rfl (fun _ => Nat.le_of_ble_eq_true rfl) (fun γ ad K hc hk => t_X6_becomes hc ⟨_, _, h, hk⟩)

-- NetMaps$Search.backed(I)I
theorem dX4_backed_0 : decode cX4_backed 0 = .ok (.aload_n 0, 1) := by decide +kernel
theorem dX4_backed_1 : decode cX4_backed 1 = .ok (.getfield 21, 3) := by decide +kernel
theorem dX4_backed_4 : decode cX4_backed 4 = .ok (.iload_n 1, 1) := by decide +kernel
theorem dX4_backed_5 : decode cX4_backed 5 = .ok (.iaload, 1) := by decide +kernel
theorem dX4_backed_6 : decode cX4_backed 6 = .ok (.istore_n 2, 1) := by decide +kernel
theorem dX4_backed_7 : decode cX4_backed 7 = .ok (.iconst 0, 1) := by decide +kernel
theorem dX4_backed_8 : decode cX4_backed 8 = .ok (.istore_n 3, 1) := by decide +kernel
theorem dX4_backed_9 : decode cX4_backed 9 = .ok (.iload_n 3, 1) := by decide +kernel
theorem dX4_backed_10 : decode cX4_backed 10 = .ok (.aload_n 0, 1) := by decide +kernel
theorem dX4_backed_11 : decode cX4_backed 11 = .ok (.getfield 18, 3) := by decide +kernel
theorem dX4_backed_14 : decode cX4_backed 14 = .ok (.getfield 40, 3) := by decide +kernel
theorem dX4_backed_17 : decode cX4_backed 17 = .ok (.if_icmp .ge 104, 3) := by decide +kernel
theorem dX4_backed_20 : decode cX4_backed 20 = .ok (.iconst 0, 1) := by decide +kernel
theorem dX4_backed_21 : decode cX4_backed 21 = .ok (.istore 4, 2) := by decide +kernel
theorem dX4_backed_23 : decode cX4_backed 23 = .ok (.iload 4, 2) := by decide +kernel
theorem dX4_backed_25 : decode cX4_backed 25 = .ok (.aload_n 0, 1) := by decide +kernel
theorem dX4_backed_26 : decode cX4_backed 26 = .ok (.getfield 12, 3) := by decide +kernel
theorem dX4_backed_29 : decode cX4_backed 29 = .ok (.getfield 40, 3) := by decide +kernel
theorem dX4_backed_32 : decode cX4_backed 32 = .ok (.if_icmp .ge 83, 3) := by decide +kernel
theorem dX4_backed_35 : decode cX4_backed 35 = .ok (.aload_n 0, 1) := by decide +kernel
theorem dX4_backed_36 : decode cX4_backed 36 = .ok (.getfield 12, 3) := by decide +kernel
theorem dX4_backed_39 : decode cX4_backed 39 = .ok (.iload_n 1, 1) := by decide +kernel
theorem dX4_backed_40 : decode cX4_backed 40 = .ok (.iload 4, 2) := by decide +kernel
theorem dX4_backed_42 : decode cX4_backed 42 = .ok (.invokevirtual 44, 3) := by decide +kernel
theorem dX4_backed_45 : decode cX4_backed 45 = .ok (.ifCond .eq 23, 3) := by decide +kernel
theorem dX4_backed_48 : decode cX4_backed 48 = .ok (.aload_n 0, 1) := by decide +kernel
theorem dX4_backed_49 : decode cX4_backed 49 = .ok (.getfield 18, 3) := by decide +kernel
theorem dX4_backed_52 : decode cX4_backed 52 = .ok (.getfield 64, 3) := by decide +kernel
theorem dX4_backed_55 : decode cX4_backed 55 = .ok (.iload_n 3, 1) := by decide +kernel
theorem dX4_backed_56 : decode cX4_backed 56 = .ok (.iaload, 1) := by decide +kernel
theorem dX4_backed_57 : decode cX4_backed 57 = .ok (.aload_n 0, 1) := by decide +kernel
theorem dX4_backed_58 : decode cX4_backed 58 = .ok (.getfield 21, 3) := by decide +kernel
theorem dX4_backed_61 : decode cX4_backed 61 = .ok (.iload 4, 2) := by decide +kernel
theorem dX4_backed_63 : decode cX4_backed 63 = .ok (.iaload, 1) := by decide +kernel
theorem dX4_backed_64 : decode cX4_backed 64 = .ok (.iand, 1) := by decide +kernel
theorem dX4_backed_65 : decode cX4_backed 65 = .ok (.ifCond .eq 36, 3) := by decide +kernel
theorem dX4_backed_68 : decode cX4_backed 68 = .ok (.aload_n 0, 1) := by decide +kernel
theorem dX4_backed_69 : decode cX4_backed 69 = .ok (.getfield 12, 3) := by decide +kernel
theorem dX4_backed_72 : decode cX4_backed 72 = .ok (.iload 4, 2) := by decide +kernel
theorem dX4_backed_74 : decode cX4_backed 74 = .ok (.iload_n 1, 1) := by decide +kernel
theorem dX4_backed_75 : decode cX4_backed 75 = .ok (.invokevirtual 44, 3) := by decide +kernel
theorem dX4_backed_78 : decode cX4_backed 78 = .ok (.ifCond .eq 31, 3) := by decide +kernel
theorem dX4_backed_81 : decode cX4_backed 81 = .ok (.aload_n 0, 1) := by decide +kernel
theorem dX4_backed_82 : decode cX4_backed 82 = .ok (.getfield 18, 3) := by decide +kernel
theorem dX4_backed_85 : decode cX4_backed 85 = .ok (.getfield 67, 3) := by decide +kernel
theorem dX4_backed_88 : decode cX4_backed 88 = .ok (.iload_n 3, 1) := by decide +kernel
theorem dX4_backed_89 : decode cX4_backed 89 = .ok (.iaload, 1) := by decide +kernel
theorem dX4_backed_90 : decode cX4_backed 90 = .ok (.aload_n 0, 1) := by decide +kernel
theorem dX4_backed_91 : decode cX4_backed 91 = .ok (.getfield 21, 3) := by decide +kernel
theorem dX4_backed_94 : decode cX4_backed 94 = .ok (.iload 4, 2) := by decide +kernel
theorem dX4_backed_96 : decode cX4_backed 96 = .ok (.iaload, 1) := by decide +kernel
theorem dX4_backed_97 : decode cX4_backed 97 = .ok (.iand, 1) := by decide +kernel
theorem dX4_backed_98 : decode cX4_backed 98 = .ok (.ifCond .ne 11, 3) := by decide +kernel
theorem dX4_backed_101 : decode cX4_backed 101 = .ok (.iload_n 2, 1) := by decide +kernel
theorem dX4_backed_102 : decode cX4_backed 102 = .ok (.iconst 1, 1) := by decide +kernel
theorem dX4_backed_103 : decode cX4_backed 103 = .ok (.iload_n 3, 1) := by decide +kernel
theorem dX4_backed_104 : decode cX4_backed 104 = .ok (.ishl, 1) := by decide +kernel
theorem dX4_backed_105 : decode cX4_backed 105 = .ok (.iconst (-1), 1) := by decide +kernel
theorem dX4_backed_106 : decode cX4_backed 106 = .ok (.ixor, 1) := by decide +kernel
theorem dX4_backed_107 : decode cX4_backed 107 = .ok (.iand, 1) := by decide +kernel
theorem dX4_backed_108 : decode cX4_backed 108 = .ok (.istore_n 2, 1) := by decide +kernel
theorem dX4_backed_109 : decode cX4_backed 109 = .ok (.iinc 4 1, 3) := by decide +kernel
theorem dX4_backed_112 : decode cX4_backed 112 = .ok (.goto (-89), 3) := by decide +kernel
theorem dX4_backed_115 : decode cX4_backed 115 = .ok (.iinc 3 1, 3) := by decide +kernel
theorem dX4_backed_118 : decode cX4_backed 118 = .ok (.goto (-109), 3) := by decide +kernel
theorem dX4_backed_121 : decode cX4_backed 121 = .ok (.iload_n 2, 1) := by decide +kernel
theorem dX4_backed_122 : decode cX4_backed 122 = .ok (.ireturn, 1) := by decide +kernel
noncomputable def f_X4_backed_b109 (x0 : Nat) (x1 : Int32) (x2 : Int32) (x3 : Int32) (x4 : Int32) (σ : Hp) : Option (((Int32 × Int32) ⊕ (Int32)) × Hp) := some (Sum.inl (x2, (x4 + 1)), σ)
set_option maxRecDepth 100000 in
set_option maxHeartbeats 4000000 in
theorem t_X4_backed_b109 {l : Launch} {γ : Gm} {ad : Nat → Nat} {K : Option Value → Hp → Prop} (hc : Cx l γ 3 5 ad shC RX4 cX4_backed (some .int) K) {x0 : Nat} {x1 : Int32} {x2 : Int32} {x3 : Int32} {x4 : Int32}  {σ : Hp} {KL : ((Int32 × Int32) ⊕ (Int32)) → Hp → Prop} (h : wpO (f_X4_backed_b109 x0 x1 x2 x3 x4 σ) KL) (kn : ∀ (v : (Int32 × Int32)) (σ : Hp), KL (Sum.inl v) σ → WW l γ 3 5 ad shC 23 [(0, .ref (ad x0)), (1, .int x1), (2, .int v.1), (3, .int x3), (4, .int v.2)] [] σ) (kx115 : ∀ (v : Int32) (σ : Hp), KL (Sum.inr v) σ → WW l γ 3 5 ad shC 115 [(0, .ref (ad x0)), (1, .int x1), (2, .int v), (3, .int x3)] [] σ) : WW l γ 3 5 ad shC 109 [(0, .ref (ad x0)), (1, .int x1), (2, .int x2), (3, .int x3), (4, .int x4)] [] σ := by
  unfold f_X4_backed_b109 at h
  refine r_iincE hc (j := 4) (w := 1) (lv' := [(4, .int (x4 + 1)), (0, .ref (ad x0)), (1, .int x1), (2, .int x2), (3, .int x3)]) rfl (by decide) rfl (by decide) rfl dX4_backed_109 ?_
  refine r_goto hc (tgt := 23) dX4_backed_112 (by decide) ?_
  refine r_sub [1, 2, 3, 4, 0] (lv' := [(0, .ref (ad x0)), (1, .int x1), (2, .int x2), (3, .int x3), (4, .int (x4 + 1))]) rfl ?_
  have h := wp_v h
  exact kn (x2, (x4 + 1)) _ h
noncomputable def f_X4_backed_b101 (x0 : Nat) (x1 : Int32) (x2 : Int32) (x3 : Int32) (x4 : Int32) (σ : Hp) : Option (((Int32 × Int32) ⊕ (Int32)) × Hp) := lt' ((x2 &&& (((1 : Int32) <<< (x3 &&& 31)) ^^^ (-1)))) fun t1 => f_X4_backed_b109 x0 x1 t1 x3 x4 σ
set_option maxRecDepth 100000 in
set_option maxHeartbeats 4000000 in
theorem t_X4_backed_b101 {l : Launch} {γ : Gm} {ad : Nat → Nat} {K : Option Value → Hp → Prop} (hc : Cx l γ 3 5 ad shC RX4 cX4_backed (some .int) K) {x0 : Nat} {x1 : Int32} {x2 : Int32} {x3 : Int32} {x4 : Int32}  {σ : Hp} {KL : ((Int32 × Int32) ⊕ (Int32)) → Hp → Prop} (h : wpO (f_X4_backed_b101 x0 x1 x2 x3 x4 σ) KL) (kn : ∀ (v : (Int32 × Int32)) (σ : Hp), KL (Sum.inl v) σ → WW l γ 3 5 ad shC 23 [(0, .ref (ad x0)), (1, .int x1), (2, .int v.1), (3, .int x3), (4, .int v.2)] [] σ) (kx115 : ∀ (v : Int32) (σ : Hp), KL (Sum.inr v) σ → WW l γ 3 5 ad shC 115 [(0, .ref (ad x0)), (1, .int x1), (2, .int v), (3, .int x3)] [] σ) : WW l γ 3 5 ad shC 101 [(0, .ref (ad x0)), (1, .int x1), (2, .int x2), (3, .int x3), (4, .int x4)] [] σ := by
  unfold f_X4_backed_b101 at h
  refine r_iload_n hc 2 rfl rfl dX4_backed_101 ?_
  refine r_iconst hc (v := 1) (by decide) dX4_backed_102 ?_
  refine r_iload_n hc 3 rfl rfl dX4_backed_103 ?_
  refine r_ishl hc dX4_backed_104 ?_
  refine r_iconst hc (v := (-1)) (by decide) dX4_backed_105 ?_
  refine r_ixor hc dX4_backed_106 ?_
  refine r_iand hc dX4_backed_107 ?_
  obtain ⟨t1, et1, h⟩ := wp_l h
  refine r_istore_nE hc (i := 2) (lv' := [(2, .int t1), (0, .ref (ad x0)), (1, .int x1), (3, .int x3), (4, .int x4)]) et1 rfl (by decide) rfl dX4_backed_108 ?_
  refine r_sub [1, 2, 0, 3, 4] (lv' := [(0, .ref (ad x0)), (1, .int x1), (2, .int t1), (3, .int x3), (4, .int x4)]) rfl ?_
  exact t_X4_backed_b109 hc h kn kx115
noncomputable def f_X4_backed_b68 (x0 : Nat) (x1 : Int32) (x2 : Int32) (x3 : Int32) (x4 : Int32) (σ : Hp) : Option (((Int32 × Int32) ⊕ (Int32)) × Hp) := gO (getR shC 4 x0 0 σ) fun v1 => gO (chk shC v1 1) fun _ => bO (f_X1_joins v1 x4 x1 σ) fun r2 σ3 => if r2 = 0 then (f_X4_backed_b109 x0 x1 x2 x3 x4 σ3) else (gO (getR shC 4 x0 1 σ3) fun v5 => gO (getR shC 1 v5 2 σ3) fun v6 => gO (aldI shC 0 v6 x3 σ3) fun v7 => gO (getR shC 4 x0 2 σ3) fun v8 => gO (aldI shC 0 v8 x4 σ3) fun v9 => if (v7 &&& v9) = 0 then (f_X4_backed_b101 x0 x1 x2 x3 x4 σ3) else (f_X4_backed_b109 x0 x1 x2 x3 x4 σ3))
set_option maxRecDepth 100000 in
set_option maxHeartbeats 4000000 in
theorem t_X4_backed_b68 {l : Launch} {γ : Gm} {ad : Nat → Nat} {K : Option Value → Hp → Prop} (hc : Cx l γ 3 5 ad shC RX4 cX4_backed (some .int) K) {x0 : Nat} {x1 : Int32} {x2 : Int32} {x3 : Int32} {x4 : Int32}  {σ : Hp} {KL : ((Int32 × Int32) ⊕ (Int32)) → Hp → Prop} (h : wpO (f_X4_backed_b68 x0 x1 x2 x3 x4 σ) KL) (kn : ∀ (v : (Int32 × Int32)) (σ : Hp), KL (Sum.inl v) σ → WW l γ 3 5 ad shC 23 [(0, .ref (ad x0)), (1, .int x1), (2, .int v.1), (3, .int x3), (4, .int v.2)] [] σ) (kx115 : ∀ (v : Int32) (σ : Hp), KL (Sum.inr v) σ → WW l γ 3 5 ad shC 115 [(0, .ref (ad x0)), (1, .int x1), (2, .int v), (3, .int x3)] [] σ) : WW l γ 3 5 ad shC 68 [(0, .ref (ad x0)), (1, .int x1), (2, .int x2), (3, .int x3), (4, .int x4)] [] σ := by
  unfold f_X4_backed_b68 at h
  refine r_aload_n hc 0 rfl rfl dX4_backed_68 ?_
  obtain ⟨v1, ev1, h⟩ := wp_g h
  refine r_getR hc ev1 fl_X4_12 rfl dX4_backed_69 ?_
  refine r_iload hc 4 rfl dX4_backed_72 ?_
  refine r_iload_n hc 1 rfl rfl dX4_backed_74 ?_
  obtain ⟨_, ek4, h⟩ := wp_g h
  obtain ⟨r2, σ3, er2, h⟩ := wp_b h
  refine r_callV hc (k0 := v1) mv_X1_joins ml_X4_44 (c_X1_joins er2) (chk_of ek4) cls_1.1 rfl rfl rfl (by decide) rfl (Nat.le_of_ble_eq_true rfl) dX4_backed_75 ?_
  refine r_if_eq hc (tgt := 109) dX4_backed_78 (by decide) (fun c => ?_) (fun c => ?_)
  · have h := wp_t c h
    exact t_X4_backed_b109 hc h kn kx115
  · have h := wp_f c h
    refine r_aload_n hc 0 rfl rfl dX4_backed_81 ?_
    obtain ⟨v5, ev5, h⟩ := wp_g h
    refine r_getR hc ev5 fl_X4_18 rfl dX4_backed_82 ?_
    obtain ⟨v6, ev6, h⟩ := wp_g h
    refine r_getR hc ev6 fl_X4_67 rfl dX4_backed_85 ?_
    refine r_iload_n hc 3 rfl rfl dX4_backed_88 ?_
    obtain ⟨v7, ev7, h⟩ := wp_g h
    refine r_iald hc ev7 dX4_backed_89 ?_
    refine r_aload_n hc 0 rfl rfl dX4_backed_90 ?_
    obtain ⟨v8, ev8, h⟩ := wp_g h
    refine r_getR hc ev8 fl_X4_21 rfl dX4_backed_91 ?_
    refine r_iload hc 4 rfl dX4_backed_94 ?_
    obtain ⟨v9, ev9, h⟩ := wp_g h
    refine r_iald hc ev9 dX4_backed_96 ?_
    refine r_iand hc dX4_backed_97 ?_
    refine r_if_ne hc (tgt := 109) dX4_backed_98 (by decide) (fun c => ?_) (fun c => ?_)
    · have h := wp_f c h
      exact t_X4_backed_b109 hc h kn kx115
    · have h := wp_t c h
      exact t_X4_backed_b101 hc h kn kx115
noncomputable def f_X4_backed_L23 (x0 : Nat) (x1 : Int32) (x3 : Int32) (v : (Int32 × Int32)) (σ : Hp) : Option (((Int32 × Int32) ⊕ (Int32)) × Hp) := gO (getR shC 4 x0 0 σ) fun v1 => gO (getI shC 1 v1 0 σ) fun v2 => if v2 ≤ v.2 then (some (Sum.inr v.1, σ)) else (gO (getR shC 4 x0 0 σ) fun v3 => gO (chk shC v3 1) fun _ => bO (f_X1_joins v3 x1 v.2 σ) fun r4 σ5 => if r4 = 0 then (f_X4_backed_b68 x0 x1 v.1 x3 v.2 σ5) else (gO (getR shC 4 x0 1 σ5) fun v7 => gO (getR shC 1 v7 1 σ5) fun v8 => gO (aldI shC 0 v8 x3 σ5) fun v9 => gO (getR shC 4 x0 2 σ5) fun v10 => gO (aldI shC 0 v10 v.2 σ5) fun v11 => if (v9 &&& v11) = 0 then (f_X4_backed_b101 x0 x1 v.1 x3 v.2 σ5) else (f_X4_backed_b68 x0 x1 v.1 x3 v.2 σ5)))
set_option maxRecDepth 100000 in
set_option maxHeartbeats 4000000 in
theorem t_X4_backed_L23 {l : Launch} {γ : Gm} {ad : Nat → Nat} {K : Option Value → Hp → Prop}  (hc : Cx l γ 3 5 ad shC RX4 cX4_backed (some .int) K) {x0 : Nat} {x1 : Int32} {x3 : Int32} {v : (Int32 × Int32)} {σ : Hp} {KX : (Int32) → Hp → Prop} (h : wpO (wh (f_X4_backed_L23 x0 x1 x3) v σ) KX) (kx115 : ∀ (v : Int32) (σ : Hp), KX v σ → WW l γ 3 5 ad shC 115 [(0, .ref (ad x0)), (1, .int x1), (2, .int v), (3, .int x3)] [] σ) : WW l γ 3 5 ad shC 23 [(0, .ref (ad x0)), (1, .int x1), (2, .int v.1), (3, .int x3), (4, .int v.2)] [] σ := by
  refine wh_W (P := fun v σ => WW l γ 3 5 ad shC 23 [(0, .ref (ad x0)), (1, .int x1), (2, .int v.1), (3, .int x3), (4, .int v.2)] [] σ) (fun v σ h => ?_) h
  have kn : ∀ (v : (Int32 × Int32)) (σ : Hp), WW l γ 3 5 ad shC 23 [(0, .ref (ad x0)), (1, .int x1), (2, .int v.1), (3, .int x3), (4, .int v.2)] [] σ → WW l γ 3 5 ad shC 23 [(0, .ref (ad x0)), (1, .int x1), (2, .int v.1), (3, .int x3), (4, .int v.2)] [] σ := fun _ _ h => h
  · unfold f_X4_backed_L23 at h
    refine r_iload hc 4 rfl dX4_backed_23 ?_
    refine r_aload_n hc 0 rfl rfl dX4_backed_25 ?_
    obtain ⟨v1, ev1, h⟩ := wp_g h
    refine r_getR hc ev1 fl_X4_12 rfl dX4_backed_26 ?_
    obtain ⟨v2, ev2, h⟩ := wp_g h
    refine r_getI hc ev2 fl_X4_40 rfl dX4_backed_29 ?_
    refine r_icmp_ge hc (tgt := 115) dX4_backed_32 (by decide) (fun c => ?_) (fun c => ?_)
    · have h := wp_t c h
      refine r_sub [0, 1, 2, 3] (lv' := [(0, .ref (ad x0)), (1, .int x1), (2, .int v.1), (3, .int x3)]) rfl ?_
      have h := wp_v h
      exact kx115 v.1 _ h
    · have h := wp_f c h
      refine r_aload_n hc 0 rfl rfl dX4_backed_35 ?_
      obtain ⟨v3, ev3, h⟩ := wp_g h
      refine r_getR hc ev3 fl_X4_12 rfl dX4_backed_36 ?_
      refine r_iload_n hc 1 rfl rfl dX4_backed_39 ?_
      refine r_iload hc 4 rfl dX4_backed_40 ?_
      obtain ⟨_, ek6, h⟩ := wp_g h
      obtain ⟨r4, σ5, er4, h⟩ := wp_b h
      refine r_callV hc (k0 := v3) mv_X1_joins ml_X4_44 (c_X1_joins er4) (chk_of ek6) cls_1.1 rfl rfl rfl (by decide) rfl (Nat.le_of_ble_eq_true rfl) dX4_backed_42 ?_
      refine r_if_eq hc (tgt := 68) dX4_backed_45 (by decide) (fun c => ?_) (fun c => ?_)
      · have h := wp_t c h
        exact t_X4_backed_b68 hc h kn kx115
      · have h := wp_f c h
        refine r_aload_n hc 0 rfl rfl dX4_backed_48 ?_
        obtain ⟨v7, ev7, h⟩ := wp_g h
        refine r_getR hc ev7 fl_X4_18 rfl dX4_backed_49 ?_
        obtain ⟨v8, ev8, h⟩ := wp_g h
        refine r_getR hc ev8 fl_X4_64 rfl dX4_backed_52 ?_
        refine r_iload_n hc 3 rfl rfl dX4_backed_55 ?_
        obtain ⟨v9, ev9, h⟩ := wp_g h
        refine r_iald hc ev9 dX4_backed_56 ?_
        refine r_aload_n hc 0 rfl rfl dX4_backed_57 ?_
        obtain ⟨v10, ev10, h⟩ := wp_g h
        refine r_getR hc ev10 fl_X4_21 rfl dX4_backed_58 ?_
        refine r_iload hc 4 rfl dX4_backed_61 ?_
        obtain ⟨v11, ev11, h⟩ := wp_g h
        refine r_iald hc ev11 dX4_backed_63 ?_
        refine r_iand hc dX4_backed_64 ?_
        refine r_if_eq hc (tgt := 101) dX4_backed_65 (by decide) (fun c => ?_) (fun c => ?_)
        · have h := wp_t c h
          exact t_X4_backed_b101 hc h kn kx115
        · have h := wp_f c h
          exact t_X4_backed_b68 hc h kn kx115
noncomputable def f_X4_backed_L9 (x0 : Nat) (x1 : Int32) (v : (Int32 × Int32)) (σ : Hp) : Option (((Int32 × Int32) ⊕ (Int32)) × Hp) := gO (getR shC 4 x0 1 σ) fun v1 => gO (getI shC 1 v1 0 σ) fun v2 => if v2 ≤ v.2 then (some (Sum.inr v.1, σ)) else (bO (wh (f_X4_backed_L23 x0 x1 v.2) (v.1, 0) σ) fun y3 σ4 => (some (Sum.inl (y3, (v.2 + 1)), σ4)))
set_option maxRecDepth 100000 in
set_option maxHeartbeats 4000000 in
theorem t_X4_backed_L9 {l : Launch} {γ : Gm} {ad : Nat → Nat} {K : Option Value → Hp → Prop}  (hc : Cx l γ 3 5 ad shC RX4 cX4_backed (some .int) K) {x0 : Nat} {x1 : Int32} {v : (Int32 × Int32)} {σ : Hp} {KX : (Int32) → Hp → Prop} (h : wpO (wh (f_X4_backed_L9 x0 x1) v σ) KX) (kx121 : ∀ (v : Int32) (σ : Hp), KX v σ → WW l γ 3 5 ad shC 121 [(2, .int v)] [] σ) : WW l γ 3 5 ad shC 9 [(0, .ref (ad x0)), (1, .int x1), (2, .int v.1), (3, .int v.2)] [] σ := by
  refine wh_W (P := fun v σ => WW l γ 3 5 ad shC 9 [(0, .ref (ad x0)), (1, .int x1), (2, .int v.1), (3, .int v.2)] [] σ) (fun v σ h => ?_) h
  have kn : ∀ (v : (Int32 × Int32)) (σ : Hp), WW l γ 3 5 ad shC 9 [(0, .ref (ad x0)), (1, .int x1), (2, .int v.1), (3, .int v.2)] [] σ → WW l γ 3 5 ad shC 9 [(0, .ref (ad x0)), (1, .int x1), (2, .int v.1), (3, .int v.2)] [] σ := fun _ _ h => h
  · unfold f_X4_backed_L9 at h
    refine r_iload_n hc 3 rfl rfl dX4_backed_9 ?_
    refine r_aload_n hc 0 rfl rfl dX4_backed_10 ?_
    obtain ⟨v1, ev1, h⟩ := wp_g h
    refine r_getR hc ev1 fl_X4_18 rfl dX4_backed_11 ?_
    obtain ⟨v2, ev2, h⟩ := wp_g h
    refine r_getI hc ev2 fl_X4_40 rfl dX4_backed_14 ?_
    refine r_icmp_ge hc (tgt := 121) dX4_backed_17 (by decide) (fun c => ?_) (fun c => ?_)
    · have h := wp_t c h
      refine r_sub [2] (lv' := [(2, .int v.1)]) rfl ?_
      have h := wp_v h
      exact kx121 v.1 _ h
    · have h := wp_f c h
      refine r_iconst hc (v := 0) (by decide) dX4_backed_20 ?_
      refine r_istoreE hc (i := 4) (lv' := [(4, .int 0), (0, .ref (ad x0)), (1, .int x1), (2, .int v.1), (3, .int v.2)]) rfl (by decide) rfl dX4_backed_21 ?_
      refine r_sub [1, 2, 3, 4, 0] (lv' := [(0, .ref (ad x0)), (1, .int x1), (2, .int v.1), (3, .int v.2), (4, .int 0)]) rfl ?_
      refine t_X4_backed_L23 hc (wp_bb h) ?_
      · intro y3 σ4 h
        refine r_iincE hc (j := 3) (w := 1) (lv' := [(3, .int (v.2 + 1)), (0, .ref (ad x0)), (1, .int x1), (2, .int y3)]) rfl (by decide) rfl (by decide) rfl dX4_backed_115 ?_
        refine r_goto hc (tgt := 9) dX4_backed_118 (by decide) ?_
        refine r_sub [1, 2, 3, 0] (lv' := [(0, .ref (ad x0)), (1, .int x1), (2, .int y3), (3, .int (v.2 + 1))]) rfl ?_
        have h := wp_v h
        exact kn (y3, (v.2 + 1)) _ h
noncomputable def f_X4_backed (x0 : Nat) (x1 : Int32) (σ : Hp) : Option (Int32 × Hp) := gO (getR shC 4 x0 2 σ) fun v1 => gO (aldI shC 0 v1 x1 σ) fun v2 => bO (wh (f_X4_backed_L9 x0 x1) (v2, 0) σ) fun y3 σ4 => (some (y3, σ4))
set_option maxRecDepth 100000 in
set_option maxHeartbeats 4000000 in
theorem t_X4_backed {l : Launch} {γ : Gm} {ad : Nat → Nat} {K : Option Value → Hp → Prop} (hc : Cx l γ 3 5 ad shC RX4 cX4_backed (some .int) K) {x0 : Nat} {x1 : Int32} {σ : Hp} (h : wpO (f_X4_backed x0 x1 σ) (KI K)) : WW l γ 3 5 ad shC 0 [(0, .ref (ad x0)), (1, .int x1)] [] σ := by
  unfold f_X4_backed at h
  refine r_aload_n hc 0 rfl rfl dX4_backed_0 ?_
  obtain ⟨v1, ev1, h⟩ := wp_g h
  refine r_getR hc ev1 fl_X4_21 rfl dX4_backed_1 ?_
  refine r_iload_n hc 1 rfl rfl dX4_backed_4 ?_
  obtain ⟨v2, ev2, h⟩ := wp_g h
  refine r_iald hc ev2 dX4_backed_5 ?_
  refine r_istore_nE hc (i := 2) (lv' := [(2, .int v2), (0, .ref (ad x0)), (1, .int x1)]) rfl rfl (by decide) rfl dX4_backed_6 ?_
  refine r_iconst hc (v := 0) (by decide) dX4_backed_7 ?_
  refine r_istore_nE hc (i := 3) (lv' := [(3, .int 0), (2, .int v2), (0, .ref (ad x0)), (1, .int x1)]) rfl rfl (by decide) rfl dX4_backed_8 ?_
  refine r_sub [2, 3, 1, 0] (lv' := [(0, .ref (ad x0)), (1, .int x1), (2, .int v2), (3, .int 0)]) rfl ?_
  refine t_X4_backed_L9 hc (wp_bb h) ?_
  · intro y3 σ4 h
    refine r_iload_n hc 0 rfl rfl dX4_backed_121 ?_
    have h := wp_v h
    exact r_iret hc h dX4_backed_122
theorem c_X4_backed {l : Launch} {x0 : Nat} {x1 : Int32} {σ σ' : Hp} {r : Int32} (h : f_X4_backed x0 x1 σ = some (r, σ')) : Mt l yX4_backed cX4_backed 5 (some .int) 3 shC (fun ad => [.ref (ad x0), .int x1]) σ (fun ad => some (.int r)) σ' := mt_i (own := RX4) (by decide) rfl (fun _ => Nat.le_of_ble_eq_true rfl) (fun γ ad K hc hk => t_X4_backed hc ⟨_, _, h, hk⟩)
