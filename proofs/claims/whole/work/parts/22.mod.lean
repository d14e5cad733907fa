-- NetMapsModel.mostLines(IZ)I
theorem dX7_mostLines_0 : decode cX7_mostLines 0 = .ok (.iconst 0, 1) := by decide +kernel
theorem dX7_mostLines_1 : decode cX7_mostLines 1 = .ok (.istore_n 3, 1) := by decide +kernel
theorem dX7_mostLines_2 : decode cX7_mostLines 2 = .ok (.iconst 0, 1) := by decide +kernel
theorem dX7_mostLines_3 : decode cX7_mostLines 3 = .ok (.istore 4, 2) := by decide +kernel
theorem dX7_mostLines_5 : decode cX7_mostLines 5 = .ok (.iload 4, 2) := by decide +kernel
theorem dX7_mostLines_7 : decode cX7_mostLines 7 = .ok (.aload_n 0, 1) := by decide +kernel
theorem dX7_mostLines_8 : decode cX7_mostLines 8 = .ok (.getfield 7, 3) := by decide +kernel
theorem dX7_mostLines_11 : decode cX7_mostLines 11 = .ok (.iload_n 1, 1) := by decide +kernel
theorem dX7_mostLines_12 : decode cX7_mostLines 12 = .ok (.iaload, 1) := by decide +kernel
theorem dX7_mostLines_13 : decode cX7_mostLines 13 = .ok (.if_icmp .ge 58, 3) := by decide +kernel
theorem dX7_mostLines_16 : decode cX7_mostLines 16 = .ok (.iload_n 2, 1) := by decide +kernel
theorem dX7_mostLines_17 : decode cX7_mostLines 17 = .ok (.ifCond .eq 18, 3) := by decide +kernel
theorem dX7_mostLines_20 : decode cX7_mostLines 20 = .ok (.aload_n 0, 1) := by decide +kernel
theorem dX7_mostLines_21 : decode cX7_mostLines 21 = .ok (.getfield 13, 3) := by decide +kernel
theorem dX7_mostLines_24 : decode cX7_mostLines 24 = .ok (.bipush 7, 2) := by decide +kernel
theorem dX7_mostLines_26 : decode cX7_mostLines 26 = .ok (.iload_n 1, 1) := by decide +kernel
theorem dX7_mostLines_27 : decode cX7_mostLines 27 = .ok (.imul, 1) := by decide +kernel
theorem dX7_mostLines_28 : decode cX7_mostLines 28 = .ok (.iload 4, 2) := by decide +kernel
theorem dX7_mostLines_30 : decode cX7_mostLines 30 = .ok (.iadd, 1) := by decide +kernel
theorem dX7_mostLines_31 : decode cX7_mostLines 31 = .ok (.iaload, 1) := by decide +kernel
theorem dX7_mostLines_32 : decode cX7_mostLines 32 = .ok (.goto 15, 3) := by decide +kernel
theorem dX7_mostLines_35 : decode cX7_mostLines 35 = .ok (.aload_n 0, 1) := by decide +kernel
theorem dX7_mostLines_36 : decode cX7_mostLines 36 = .ok (.getfield 16, 3) := by decide +kernel
theorem dX7_mostLines_39 : decode cX7_mostLines 39 = .ok (.bipush 7, 2) := by decide +kernel
theorem dX7_mostLines_41 : decode cX7_mostLines 41 = .ok (.iload_n 1, 1) := by decide +kernel
theorem dX7_mostLines_42 : decode cX7_mostLines 42 = .ok (.imul, 1) := by decide +kernel
theorem dX7_mostLines_43 : decode cX7_mostLines 43 = .ok (.iload 4, 2) := by decide +kernel
theorem dX7_mostLines_45 : decode cX7_mostLines 45 = .ok (.iadd, 1) := by decide +kernel
theorem dX7_mostLines_46 : decode cX7_mostLines 46 = .ok (.iaload, 1) := by decide +kernel
theorem dX7_mostLines_47 : decode cX7_mostLines 47 = .ok (.invokestatic 93, 3) := by decide +kernel
theorem dX7_mostLines_50 : decode cX7_mostLines 50 = .ok (.istore 5, 2) := by decide +kernel
theorem dX7_mostLines_52 : decode cX7_mostLines 52 = .ok (.iload 5, 2) := by decide +kernel
theorem dX7_mostLines_54 : decode cX7_mostLines 54 = .ok (.iload_n 3, 1) := by decide +kernel
theorem dX7_mostLines_55 : decode cX7_mostLines 55 = .ok (.if_icmp .le 8, 3) := by decide +kernel
theorem dX7_mostLines_58 : decode cX7_mostLines 58 = .ok (.iload 5, 2) := by decide +kernel
theorem dX7_mostLines_60 : decode cX7_mostLines 60 = .ok (.goto 4, 3) := by decide +kernel
theorem dX7_mostLines_63 : decode cX7_mostLines 63 = .ok (.iload_n 3, 1) := by decide +kernel
theorem dX7_mostLines_64 : decode cX7_mostLines 64 = .ok (.istore_n 3, 1) := by decide +kernel
theorem dX7_mostLines_65 : decode cX7_mostLines 65 = .ok (.iinc 4 1, 3) := by decide +kernel
theorem dX7_mostLines_68 : decode cX7_mostLines 68 = .ok (.goto (-63), 3) := by decide +kernel
theorem dX7_mostLines_71 : decode cX7_mostLines 71 = .ok (.iload_n 3, 1) := by decide +kernel
theorem dX7_mostLines_72 : decode cX7_mostLines 72 = .ok (.ireturn, 1) := by decide +kernel
noncomputable def f_X7_mostLines_b64 (x0 : Nat) (x1 : Int32) (x2 : Int32) (x4 : Int32) (s0 : Int32) (σ : Hp) : Option (((Int32 × Int32) ⊕ (Int32)) × Hp) := some (Sum.inl (s0, (x4 + 1)), σ)
set_option maxRecDepth 100000 in
set_option maxHeartbeats 4000000 in
theorem t_X7_mostLines_b64 {l : Launch} {γ : Gm} {ad : Nat → Nat} {K : Option Value → Hp → Prop} (hc : Cx l γ 2 6 ad shM RX7 cX7_mostLines (some .int) K) {x0 : Nat} {x1 : Int32} {x2 : Int32} {x4 : Int32} {s0 : Int32}  {σ : Hp} {KL : ((Int32 × Int32) ⊕ (Int32)) → Hp → Prop} (h : wpO (f_X7_mostLines_b64 x0 x1 x2 x4 s0 σ) KL) (kn : ∀ (v : (Int32 × Int32)) (σ : Hp), KL (Sum.inl v) σ → WW l γ 2 6 ad shM 5 [(0, .ref (ad x0)), (1, .int x1), (2, .int x2), (3, .int v.1), (4, .int v.2)] [] σ) (kx71 : ∀ (v : Int32) (σ : Hp), KL (Sum.inr v) σ → WW l γ 2 6 ad shM 71 [(3, .int v)] [] σ) : WW l γ 2 6 ad shM 64 [(0, .ref (ad x0)), (1, .int x1), (2, .int x2), (4, .int x4)] [.int s0] σ := by
  unfold f_X7_mostLines_b64 at h
  refine r_istore_nE hc (i := 3) (lv' := [(3, .int s0), (0, .ref (ad x0)), (1, .int x1), (2, .int x2), (4, .int x4)]) rfl rfl (by decide) rfl dX7_mostLines_64 ?_
  refine r_iincE hc (j := 4) (w := 1) (lv' := [(4, .int (x4 + 1)), (3, .int s0), (0, .ref (ad x0)), (1, .int x1), (2, .int x2)]) rfl (by decide) rfl (by decide) rfl dX7_mostLines_65 ?_
  refine r_goto hc (tgt := 5) dX7_mostLines_68 (by decide) ?_
  refine r_sub [2, 3, 4, 1, 0] (lv' := [(0, .ref (ad x0)), (1, .int x1), (2, .int x2), (3, .int s0), (4, .int (x4 + 1))]) rfl ?_
  have h := wp_v h
  exact kn (s0, (x4 + 1)) _ h
noncomputable def f_X7_mostLines_b47 (x0 : Nat) (x1 : Int32) (x2 : Int32) (x3 : Int32) (x4 : Int32) (s0 : Int32) (σ : Hp) : Option (((Int32 × Int32) ⊕ (Int32)) × Hp) := bO (f_X7_bits s0 σ) fun r1 σ2 => if r1 ≤ x3 then (f_X7_mostLines_b64 x0 x1 x2 x4 x3 σ2) else (f_X7_mostLines_b64 x0 x1 x2 x4 r1 σ2)
set_option maxRecDepth 100000 in
set_option maxHeartbeats 4000000 in
theorem t_X7_mostLines_b47 {l : Launch} {γ : Gm} {ad : Nat → Nat} {K : Option Value → Hp → Prop} (hc : Cx l γ 2 6 ad shM RX7 cX7_mostLines (some .int) K) {x0 : Nat} {x1 : Int32} {x2 : Int32} {x3 : Int32} {x4 : Int32} {s0 : Int32}  {σ : Hp} {KL : ((Int32 × Int32) ⊕ (Int32)) → Hp → Prop} (h : wpO (f_X7_mostLines_b47 x0 x1 x2 x3 x4 s0 σ) KL) (kn : ∀ (v : (Int32 × Int32)) (σ : Hp), KL (Sum.inl v) σ → WW l γ 2 6 ad shM 5 [(0, .ref (ad x0)), (1, .int x1), (2, .int x2), (3, .int v.1), (4, .int v.2)] [] σ) (kx71 : ∀ (v : Int32) (σ : Hp), KL (Sum.inr v) σ → WW l γ 2 6 ad shM 71 [(3, .int v)] [] σ) : WW l γ 2 6 ad shM 47 [(0, .ref (ad x0)), (1, .int x1), (2, .int x2), (3, .int x3), (4, .int x4)] [.int s0] σ := by
  unfold f_X7_mostLines_b47 at h
  obtain ⟨r1, σ2, er1, h⟩ := wp_b h
  refine r_callS hc ms_X7_bits ml_X7_93 (c_X7_bits er1) rfl rfl (by decide) rfl (Nat.le_of_ble_eq_true rfl) dX7_mostLines_47 ?_
  refine r_istoreE hc (i := 5) (lv' := [(5, .int r1), (0, .ref (ad x0)), (1, .int x1), (2, .int x2), (3, .int x3), (4, .int x4)]) rfl (by decide) rfl dX7_mostLines_50 ?_
  refine r_iload hc 0 rfl dX7_mostLines_52 ?_
  refine r_iload_n hc 4 rfl rfl dX7_mostLines_54 ?_
  refine r_icmp_le hc (tgt := 63) dX7_mostLines_55 (by decide) (fun c => ?_) (fun c => ?_)
  · have h := wp_t c h
    refine r_iload_n hc 4 rfl rfl dX7_mostLines_63 ?_
    refine r_sub [1, 2, 3, 5] (lv' := [(0, .ref (ad x0)), (1, .int x1), (2, .int x2), (4, .int x4)]) rfl ?_
    exact t_X7_mostLines_b64 hc h kn kx71
  · have h := wp_f c h
    refine r_iload hc 0 rfl dX7_mostLines_58 ?_
    refine r_goto hc (tgt := 64) dX7_mostLines_60 (by decide) ?_
    refine r_sub [1, 2, 3, 5] (lv' := [(0, .ref (ad x0)), (1, .int x1), (2, .int x2), (4, .int x4)]) rfl ?_
    exact t_X7_mostLines_b64 hc h kn kx71
noncomputable def f_X7_mostLines_L5 (x0 : Nat) (x1 : Int32) (x2 : Int32) (v : (Int32 × Int32)) (σ : Hp) : Option (((Int32 × Int32) ⊕ (Int32)) × Hp) := gO (getR shM 7 x0 0 σ) fun v1 => gO (aldI shM 0 v1 x1 σ) fun v2 => if v2 ≤ v.2 then (some (Sum.inr v.1, σ)) else (if x2 = 0 then (gO (getR shM 7 x0 2 σ) fun v3 => gO (aldI shM 0 v3 ((7 * x1) + v.2) σ) fun v4 => f_X7_mostLines_b47 x0 x1 x2 v.1 v.2 v4 σ) else (gO (getR shM 7 x0 1 σ) fun v5 => gO (aldI shM 0 v5 ((7 * x1) + v.2) σ) fun v6 => f_X7_mostLines_b47 x0 x1 x2 v.1 v.2 v6 σ))
set_option maxRecDepth 100000 in
set_option maxHeartbeats 4000000 in
theorem t_X7_mostLines_L5 {l : Launch} {γ : Gm} {ad : Nat → Nat} {K : Option Value → Hp → Prop}  (hc : Cx l γ 2 6 ad shM RX7 cX7_mostLines (some .int) K) {x0 : Nat} {x1 : Int32} {x2 : Int32} {v : (Int32 × Int32)} {σ : Hp} {KX : (Int32) → Hp → Prop} (h : wpO (wh (f_X7_mostLines_L5 x0 x1 x2) v σ) KX) (kx71 : ∀ (v : Int32) (σ : Hp), KX v σ → WW l γ 2 6 ad shM 71 [(3, .int v)] [] σ) : WW l γ 2 6 ad shM 5 [(0, .ref (ad x0)), (1, .int x1), (2, .int x2), (3, .int v.1), (4, .int v.2)] [] σ := by
  refine wh_W (P := fun v σ => WW l γ 2 6 ad shM 5 [(0, .ref (ad x0)), (1, .int x1), (2, .int x2), (3, .int v.1), (4, .int v.2)] [] σ) (fun v σ h => ?_) h
  have kn : ∀ (v : (Int32 × Int32)) (σ : Hp), WW l γ 2 6 ad shM 5 [(0, .ref (ad x0)), (1, .int x1), (2, .int x2), (3, .int v.1), (4, .int v.2)] [] σ → WW l γ 2 6 ad shM 5 [(0, .ref (ad x0)), (1, .int x1), (2, .int x2), (3, .int v.1), (4, .int v.2)] [] σ := fun _ _ h => h
  · unfold f_X7_mostLines_L5 at h
    refine r_iload hc 4 rfl dX7_mostLines_5 ?_
    refine r_aload_n hc 0 rfl rfl dX7_mostLines_7 ?_
    obtain ⟨v1, ev1, h⟩ := wp_g h
    refine r_getR hc ev1 fl_X7_7 rfl dX7_mostLines_8 ?_
    refine r_iload_n hc 1 rfl rfl dX7_mostLines_11 ?_
    obtain ⟨v2, ev2, h⟩ := wp_g h
    refine r_iald hc ev2 dX7_mostLines_12 ?_
    refine r_icmp_ge hc (tgt := 71) dX7_mostLines_13 (by decide) (fun c => ?_) (fun c => ?_)
    · have h := wp_t c h
      refine r_sub [3] (lv' := [(3, .int v.1)]) rfl ?_
      have h := wp_v h
      exact kx71 v.1 _ h
    · have h := wp_f c h
      refine r_iload_n hc 2 rfl rfl dX7_mostLines_16 ?_
      refine r_if_eq hc (tgt := 35) dX7_mostLines_17 (by decide) (fun c => ?_) (fun c => ?_)
      · have h := wp_t c h
        refine r_aload_n hc 0 rfl rfl dX7_mostLines_35 ?_
        obtain ⟨v3, ev3, h⟩ := wp_g h
        refine r_getR hc ev3 fl_X7_16 rfl dX7_mostLines_36 ?_
        refine r_bipush hc (v := 7) (by decide) dX7_mostLines_39 ?_
        refine r_iload_n hc 1 rfl rfl dX7_mostLines_41 ?_
        refine r_imul hc dX7_mostLines_42 ?_
        refine r_iload hc 4 rfl dX7_mostLines_43 ?_
        refine r_iadd hc dX7_mostLines_45 ?_
        obtain ⟨v4, ev4, h⟩ := wp_g h
        refine r_iald hc ev4 dX7_mostLines_46 ?_
        exact t_X7_mostLines_b47 hc h kn kx71
      · have h := wp_f c h
        refine r_aload_n hc 0 rfl rfl dX7_mostLines_20 ?_
        obtain ⟨v5, ev5, h⟩ := wp_g h
        refine r_getR hc ev5 fl_X7_13 rfl dX7_mostLines_21 ?_
        refine r_bipush hc (v := 7) (by decide) dX7_mostLines_24 ?_
        refine r_iload_n hc 1 rfl rfl dX7_mostLines_26 ?_
        refine r_imul hc dX7_mostLines_27 ?_
        refine r_iload hc 4 rfl dX7_mostLines_28 ?_
        refine r_iadd hc dX7_mostLines_30 ?_
        obtain ⟨v6, ev6, h⟩ := wp_g h
        refine r_iald hc ev6 dX7_mostLines_31 ?_
        refine r_goto hc (tgt := 47) dX7_mostLines_32 (by decide) ?_
        exact t_X7_mostLines_b47 hc h kn kx71
noncomputable def f_X7_mostLines (x0 : Nat) (x1 : Int32) (x2 : Int32) (σ : Hp) : Option (Int32 × Hp) := bO (wh (f_X7_mostLines_L5 x0 x1 x2) (0, 0) σ) fun y1 σ2 => (some (y1, σ2))
set_option maxRecDepth 100000 in
set_option maxHeartbeats 4000000 in
theorem t_X7_mostLines {l : Launch} {γ : Gm} {ad : Nat → Nat} {K : Option Value → Hp → Prop} (hc : Cx l γ 2 6 ad shM RX7 cX7_mostLines (some .int) K) {x0 : Nat} {x1 : Int32} {x2 : Int32} {σ : Hp} (h : wpO (f_X7_mostLines x0 x1 x2 σ) (KI K)) : WW l γ 2 6 ad shM 0 [(0, .ref (ad x0)), (1, .int x1), (2, .int x2)] [] σ := by
  unfold f_X7_mostLines at h
  refine r_iconst hc (v := 0) (by decide) dX7_mostLines_0 ?_
  refine r_istore_nE hc (i := 3) (lv' := [(3, .int 0), (0, .ref (ad x0)), (1, .int x1), (2, .int x2)]) rfl rfl (by decide) rfl dX7_mostLines_1 ?_
  refine r_iconst hc (v := 0) (by decide) dX7_mostLines_2 ?_
  refine r_istoreE hc (i := 4) (lv' := [(4, .int 0), (3, .int 0), (0, .ref (ad x0)), (1, .int x1), (2, .int x2)]) rfl (by decide) rfl dX7_mostLines_3 ?_
  refine r_sub [2, 3, 4, 1, 0] (lv' := [(0, .ref (ad x0)), (1, .int x1), (2, .int x2), (3, .int 0), (4, .int 0)]) rfl ?_
  refine t_X7_mostLines_L5 hc (wp_bb h) ?_
  · intro y1 σ2 h
    refine r_iload_n hc 0 rfl rfl dX7_mostLines_71 ?_
    have h := wp_v h
    exact r_iret hc h dX7_mostLines_72
theorem c_X7_mostLines {l : Launch} {x0 : Nat} {x1 : Int32} {x2 : Int32} {σ σ' : Hp} {r : Int32} (h : f_X7_mostLines x0 x1 x2 σ = some (r, σ')) : Mt l yX7_mostLines cX7_mostLines 6 (some .int) 2 shM (fun ad => [.ref (ad x0), .int x1, .int x2]) σ (fun ad => some (.int r)) σ' := mt_i (own := RX7) (by decide) rfl (fun _ => Nat.le_of_ble_eq_true rfl) (fun γ ad K hc hk => t_X7_mostLines hc ⟨_, _, h, hk⟩)

-- NetMapsModel.told(II)I
theorem dX7_told_0 : decode cX7_told 0 = .ok (.iload_n 1, 1) := by decide +kernel
theorem dX7_told_1 : decode cX7_told 1 = .ok (.invokestatic 132, 3) := by decide +kernel
theorem dX7_told_4 : decode cX7_told 4 = .ok (.ifCond .eq 13, 3) := by decide +kernel
theorem dX7_told_7 : decode cX7_told 7 = .ok (.iload_n 2, 1) := by decide +kernel
theorem dX7_told_8 : decode cX7_told 8 = .ok (.iconst 0, 1) := by decide +kernel
theorem dX7_told_9 : decode cX7_told 9 = .ok (.bipush 8, 2) := by decide +kernel
theorem dX7_told_11 : decode cX7_told 11 = .ok (.invokestatic 81, 3) := by decide +kernel
theorem dX7_told_14 : decode cX7_told 14 = .ok (.ifCond .ne 5, 3) := by decide +kernel
theorem dX7_told_17 : decode cX7_told 17 = .ok (.iconst (-1), 1) := by decide +kernel
theorem dX7_told_18 : decode cX7_told 18 = .ok (.ireturn, 1) := by decide +kernel
theorem dX7_told_19 : decode cX7_told 19 = .ok (.aload_n 0, 1) := by decide +kernel
theorem dX7_told_20 : decode cX7_told 20 = .ok (.iload_n 1, 1) := by decide +kernel
theorem dX7_told_21 : decode cX7_told 21 = .ok (.invokevirtual 85, 3) := by decide +kernel
theorem dX7_told_24 : decode cX7_told 24 = .ok (.ifCond .eq 6, 3) := by decide +kernel
theorem dX7_told_27 : decode cX7_told 27 = .ok (.bipush (-2), 2) := by decide +kernel
theorem dX7_told_29 : decode cX7_told 29 = .ok (.ireturn, 1) := by decide +kernel
theorem dX7_told_30 : decode cX7_told 30 = .ok (.iload_n 2, 1) := by decide +kernel
theorem dX7_told_31 : decode cX7_told 31 = .ok (.tableswitch 106 0 7 #[45, 52, 58, 67, 73, 87, 93, 99], 45) := by decide +kernel
theorem dX7_told_76 : decode cX7_told 76 = .ok (.aload_n 0, 1) := by decide +kernel
theorem dX7_told_77 : decode cX7_told 77 = .ok (.getfield 7, 3) := by decide +kernel
theorem dX7_told_80 : decode cX7_told 80 = .ok (.iload_n 1, 1) := by decide +kernel
theorem dX7_told_81 : decode cX7_told 81 = .ok (.iaload, 1) := by decide +kernel
theorem dX7_told_82 : decode cX7_told 82 = .ok (.ireturn, 1) := by decide +kernel
theorem dX7_told_83 : decode cX7_told 83 = .ok (.aload_n 0, 1) := by decide +kernel
theorem dX7_told_84 : decode cX7_told 84 = .ok (.iload_n 1, 1) := by decide +kernel
theorem dX7_told_85 : decode cX7_told 85 = .ok (.invokevirtual 141, 3) := by decide +kernel
theorem dX7_told_88 : decode cX7_told 88 = .ok (.ireturn, 1) := by decide +kernel
theorem dX7_told_89 : decode cX7_told 89 = .ok (.aload_n 0, 1) := by decide +kernel
theorem dX7_told_90 : decode cX7_told 90 = .ok (.iload_n 1, 1) := by decide +kernel
theorem dX7_told_91 : decode cX7_told 91 = .ok (.invokevirtual 151, 3) := by decide +kernel
theorem dX7_told_94 : decode cX7_told 94 = .ok (.invokestatic 93, 3) := by decide +kernel
theorem dX7_told_97 : decode cX7_told 97 = .ok (.ireturn, 1) := by decide +kernel
theorem dX7_told_98 : decode cX7_told 98 = .ok (.aload_n 0, 1) := by decide +kernel
theorem dX7_told_99 : decode cX7_told 99 = .ok (.iload_n 1, 1) := by decide +kernel
theorem dX7_told_100 : decode cX7_told 100 = .ok (.invokevirtual 154, 3) := by decide +kernel
theorem dX7_told_103 : decode cX7_told 103 = .ok (.ireturn, 1) := by decide +kernel
theorem dX7_told_104 : decode cX7_told 104 = .ok (.aload_n 0, 1) := by decide +kernel
theorem dX7_told_105 : decode cX7_told 105 = .ok (.iload_n 1, 1) := by decide +kernel
theorem dX7_told_106 : decode cX7_told 106 = .ok (.invokevirtual 157, 3) := by decide +kernel
theorem dX7_told_109 : decode cX7_told 109 = .ok (.ifCond .eq 7, 3) := by decide +kernel
theorem dX7_told_112 : decode cX7_told 112 = .ok (.iconst 1, 1) := by decide +kernel
theorem dX7_told_113 : decode cX7_told 113 = .ok (.goto 4, 3) := by decide +kernel
theorem dX7_told_116 : decode cX7_told 116 = .ok (.iconst 0, 1) := by decide +kernel
theorem dX7_told_117 : decode cX7_told 117 = .ok (.ireturn, 1) := by decide +kernel
theorem dX7_told_118 : decode cX7_told 118 = .ok (.aload_n 0, 1) := by decide +kernel
theorem dX7_told_119 : decode cX7_told 119 = .ok (.iload_n 1, 1) := by decide +kernel
theorem dX7_told_120 : decode cX7_told 120 = .ok (.invokevirtual 160, 3) := by decide +kernel
theorem dX7_told_123 : decode cX7_told 123 = .ok (.ireturn, 1) := by decide +kernel
theorem dX7_told_124 : decode cX7_told 124 = .ok (.aload_n 0, 1) := by decide +kernel
theorem dX7_told_125 : decode cX7_told 125 = .ok (.iload_n 1, 1) := by decide +kernel
theorem dX7_told_126 : decode cX7_told 126 = .ok (.invokevirtual 163, 3) := by decide +kernel
theorem dX7_told_129 : decode cX7_told 129 = .ok (.ireturn, 1) := by decide +kernel
theorem dX7_told_130 : decode cX7_told 130 = .ok (.aload_n 0, 1) := by decide +kernel
theorem dX7_told_131 : decode cX7_told 131 = .ok (.iload_n 1, 1) := by decide +kernel
theorem dX7_told_132 : decode cX7_told 132 = .ok (.iconst 1, 1) := by decide +kernel
theorem dX7_told_133 : decode cX7_told 133 = .ok (.invokevirtual 166, 3) := by decide +kernel
theorem dX7_told_136 : decode cX7_told 136 = .ok (.ireturn, 1) := by decide +kernel
theorem dX7_told_137 : decode cX7_told 137 = .ok (.aload_n 0, 1) := by decide +kernel
theorem dX7_told_138 : decode cX7_told 138 = .ok (.iload_n 1, 1) := by decide +kernel
theorem dX7_told_139 : decode cX7_told 139 = .ok (.iconst 0, 1) := by decide +kernel
theorem dX7_told_140 : decode cX7_told 140 = .ok (.invokevirtual 166, 3) := by decide +kernel
theorem dX7_told_143 : decode cX7_told 143 = .ok (.ireturn, 1) := by decide +kernel
noncomputable def f_X7_told_b17  (σ : Hp) : Option (Int32 × Hp) := some ((-1), σ)
set_option maxRecDepth 100000 in
set_option maxHeartbeats 4000000 in
theorem t_X7_told_b17 {l : Launch} {γ : Gm} {ad : Nat → Nat} {K : Option Value → Hp → Prop} (hc : Cx l γ 4 3 ad shM RX7 cX7_told (some .int) K)  {σ : Hp} (h : wpO (f_X7_told_b17  σ) (KI K)) : WW l γ 4 3 ad shM 17 [] [] σ := by
  unfold f_X7_told_b17 at h
  refine r_iconst hc (v := (-1)) (by decide) dX7_told_17 ?_
  have h := wp_v h
  exact r_iret hc h dX7_told_18
noncomputable def f_X7_told_b117 (s0 : Int32) (σ : Hp) : Option (Int32 × Hp) := some (s0, σ)
set_option maxRecDepth 100000 in
set_option maxHeartbeats 4000000 in
theorem t_X7_told_b117 {l : Launch} {γ : Gm} {ad : Nat → Nat} {K : Option Value → Hp → Prop} (hc : Cx l γ 4 3 ad shM RX7 cX7_told (some .int) K) {s0 : Int32} {σ : Hp} (h : wpO (f_X7_told_b117 s0 σ) (KI K)) : WW l γ 4 3 ad shM 117 [] [.int s0] σ := by
  unfold f_X7_told_b117 at h
  have h := wp_v h
  exact r_iret hc h dX7_told_117
noncomputable def f_X7_told (x0 : Nat) (x1 : Int32) (x2 : Int32) (σ : Hp) : Option (Int32 × Hp) := bO (f_X7_isDrawer x1 σ) fun r1 σ2 => if r1 = 0 then (f_X7_told_b17  σ2) else (bO (f_X7_in x2 0 8 σ2) fun r3 σ4 => if r3 = 0 then (f_X7_told_b17  σ4) else (gO (chk shM x0 7) fun _ => bO (f_X7_isEmpty x0 x1 σ4) fun r5 σ6 => if r5 = 0 then (if x2 = 0 then (gO (getR shM 7 x0 0 σ6) fun v8 => gO (aldI shM 0 v8 x1 σ6) fun v9 => some (v9, σ6)) else (if x2 = 1 then (gO (chk shM x0 7) fun _ => bO (f_X7_lines x0 x1 σ6) fun r10 σ11 => some (r10, σ11)) else (if x2 = 2 then (gO (chk shM x0 7) fun _ => bO (f_X7_loops x0 x1 σ6) fun r13 σ14 => bO (f_X7_bits r13 σ14) fun r16 σ17 => some (r16, σ17)) else (if x2 = 3 then (gO (chk shM x0 7) fun _ => bO (f_X7_pieces x0 x1 σ6) fun r18 σ19 => some (r18, σ19)) else (if x2 = 4 then (gO (chk shM x0 7) fun _ => bO (f_X7_isTwoWay x0 x1 σ6) fun r21 σ22 => if r21 = 0 then (f_X7_told_b117 0 σ22) else (f_X7_told_b117 1 σ22)) else (if x2 = 5 then (gO (chk shM x0 7) fun _ => bO (f_X7_shortest x0 x1 σ6) fun r24 σ25 => some (r24, σ25)) else (if x2 = 6 then (gO (chk shM x0 7) fun _ => bO (f_X7_onRings x0 x1 σ6) fun r27 σ28 => some (r27, σ28)) else (if x2 = 7 then (gO (chk shM x0 7) fun _ => bO (f_X7_mostLines x0 x1 1 σ6) fun r30 σ31 => some (r30, σ31)) else (gO (chk shM x0 7) fun _ => bO (f_X7_mostLines x0 x1 0 σ6) fun r33 σ34 => some (r33, σ34)))))))))) else (some ((-2), σ6))))
set_option maxRecDepth 100000 in
set_option maxHeartbeats 4000000 in
theorem t_X7_told {l : Launch} {γ : Gm} {ad : Nat → Nat} {K : Option Value → Hp → Prop} (hc : Cx l γ 4 3 ad shM RX7 cX7_told (some .int) K) {x0 : Nat} {x1 : Int32} {x2 : Int32} {σ : Hp} (h : wpO (f_X7_told x0 x1 x2 σ) (KI K)) : WW l γ 4 3 ad shM 0 [(0, .ref (ad x0)), (1, .int x1), (2, .int x2)] [] σ := by
  unfold f_X7_told at h
  refine r_iload_n hc 1 rfl rfl dX7_told_0 ?_
  obtain ⟨r1, σ2, er1, h⟩ := wp_b h
  refine r_callS hc ms_X7_isDrawer ml_X7_132 (c_X7_isDrawer er1) rfl rfl (by decide) rfl (Nat.le_of_ble_eq_true rfl) dX7_told_1 ?_
  refine r_if_eq hc (tgt := 17) dX7_told_4 (by decide) (fun c => ?_) (fun c => ?_)
  · have h := wp_t c h
    refine r_sub [] (lv' := []) rfl ?_
    exact t_X7_told_b17 hc h
  · have h := wp_f c h
    refine r_iload_n hc 2 rfl rfl dX7_told_7 ?_
    refine r_iconst hc (v := 0) (by decide) dX7_told_8 ?_
    refine r_bipush hc (v := 8) (by decide) dX7_told_9 ?_
    obtain ⟨r3, σ4, er3, h⟩ := wp_b h
    refine r_callS hc ms_X7_in ml_X7_81 (c_X7_in er3) rfl rfl (by decide) rfl (Nat.le_of_ble_eq_true rfl) dX7_told_11 ?_
    refine r_if_ne hc (tgt := 19) dX7_told_14 (by decide) (fun c => ?_) (fun c => ?_)
    · have h := wp_f c h
      refine r_aload_n hc 0 rfl rfl dX7_told_19 ?_
      refine r_iload_n hc 1 rfl rfl dX7_told_20 ?_
      obtain ⟨_, ek7, h⟩ := wp_g h
      obtain ⟨r5, σ6, er5, h⟩ := wp_b h
      refine r_callV hc (k0 := x0) mv_X7_isEmpty ml_X7_85 (c_X7_isEmpty er5) (chk_of ek7) cls_7.1 rfl rfl rfl (by decide) rfl (Nat.le_of_ble_eq_true rfl) dX7_told_21 ?_
      refine r_if_eq hc (tgt := 30) dX7_told_24 (by decide) (fun c => ?_) (fun c => ?_)
      · have h := wp_t c h
        refine r_iload_n hc 2 rfl rfl dX7_told_30 ?_
        by_cases c0 : x2 = 0
        · have h := wp_t c0 h
          refine r_tabIn hc (off := 45) (tgt := 76) dX7_told_31 c0 (by decide) (by decide) (by decide) (by decide) ?_
          refine r_aload_n hc 0 rfl rfl dX7_told_76 ?_
          obtain ⟨v8, ev8, h⟩ := wp_g h
          refine r_getR hc ev8 fl_X7_7 rfl dX7_told_77 ?_
          refine r_iload_n hc 1 rfl rfl dX7_told_80 ?_
          obtain ⟨v9, ev9, h⟩ := wp_g h
          refine r_iald hc ev9 dX7_told_81 ?_
          have h := wp_v h
          exact r_iret hc h dX7_told_82
        have h := wp_f c0 h
        by_cases c1 : x2 = 1
        · have h := wp_t c1 h
          refine r_tabIn hc (off := 52) (tgt := 83) dX7_told_31 c1 (by decide) (by decide) (by decide) (by decide) ?_
          refine r_aload_n hc 0 rfl rfl dX7_told_83 ?_
          refine r_iload_n hc 1 rfl rfl dX7_told_84 ?_
          obtain ⟨_, ek12, h⟩ := wp_g h
          obtain ⟨r10, σ11, er10, h⟩ := wp_b h
          refine r_callV hc (k0 := x0) mv_X7_lines ml_X7_141 (c_X7_lines er10) (chk_of ek12) cls_7.1 rfl rfl rfl (by decide) rfl (Nat.le_of_ble_eq_true rfl) dX7_told_85 ?_
          have h := wp_v h
          exact r_iret hc h dX7_told_88
        have h := wp_f c1 h
        by_cases c2 : x2 = 2
        · have h := wp_t c2 h
          refine r_tabIn hc (off := 58) (tgt := 89) dX7_told_31 c2 (by decide) (by decide) (by decide) (by decide) ?_
          refine r_aload_n hc 0 rfl rfl dX7_told_89 ?_
          refine r_iload_n hc 1 rfl rfl dX7_told_90 ?_
          obtain ⟨_, ek15, h⟩ := wp_g h
          obtain ⟨r13, σ14, er13, h⟩ := wp_b h
          refine r_callV hc (k0 := x0) mv_X7_loops ml_X7_151 (c_X7_loops er13) (chk_of ek15) cls_7.1 rfl rfl rfl (by decide) rfl (Nat.le_of_ble_eq_true rfl) dX7_told_91 ?_
          obtain ⟨r16, σ17, er16, h⟩ := wp_b h
          refine r_callS hc ms_X7_bits ml_X7_93 (c_X7_bits er16) rfl rfl (by decide) rfl (Nat.le_of_ble_eq_true rfl) dX7_told_94 ?_
          have h := wp_v h
          exact r_iret hc h dX7_told_97
        have h := wp_f c2 h
        by_cases c3 : x2 = 3
        · have h := wp_t c3 h
          refine r_tabIn hc (off := 67) (tgt := 98) dX7_told_31 c3 (by decide) (by decide) (by decide) (by decide) ?_
          refine r_aload_n hc 0 rfl rfl dX7_told_98 ?_
          refine r_iload_n hc 1 rfl rfl dX7_told_99 ?_
          obtain ⟨_, ek20, h⟩ := wp_g h
          obtain ⟨r18, σ19, er18, h⟩ := wp_b h
          refine r_callV hc (k0 := x0) mv_X7_pieces ml_X7_154 (c_X7_pieces er18) (chk_of ek20) cls_7.1 rfl rfl rfl (by decide) rfl (Nat.le_of_ble_eq_true rfl) dX7_told_100 ?_
          have h := wp_v h
          exact r_iret hc h dX7_told_103
        have h := wp_f c3 h
        by_cases c4 : x2 = 4
        · have h := wp_t c4 h
          refine r_tabIn hc (off := 73) (tgt := 104) dX7_told_31 c4 (by decide) (by decide) (by decide) (by decide) ?_
          refine r_aload_n hc 0 rfl rfl dX7_told_104 ?_
          refine r_iload_n hc 1 rfl rfl dX7_told_105 ?_
          obtain ⟨_, ek23, h⟩ := wp_g h
          obtain ⟨r21, σ22, er21, h⟩ := wp_b h
          refine r_callV hc (k0 := x0) mv_X7_isTwoWay ml_X7_157 (c_X7_isTwoWay er21) (chk_of ek23) cls_7.1 rfl rfl rfl (by decide) rfl (Nat.le_of_ble_eq_true rfl) dX7_told_106 ?_
          refine r_if_eq hc (tgt := 116) dX7_told_109 (by decide) (fun c => ?_) (fun c => ?_)
          · have h := wp_t c h
            refine r_iconst hc (v := 0) (by decide) dX7_told_116 ?_
            refine r_sub [] (lv' := []) rfl ?_
            exact t_X7_told_b117 hc h
          · have h := wp_f c h
            refine r_iconst hc (v := 1) (by decide) dX7_told_112 ?_
            refine r_goto hc (tgt := 117) dX7_told_113 (by decide) ?_
            refine r_sub [] (lv' := []) rfl ?_
            exact t_X7_told_b117 hc h
        have h := wp_f c4 h
        by_cases c5 : x2 = 5
        · have h := wp_t c5 h
          refine r_tabIn hc (off := 87) (tgt := 118) dX7_told_31 c5 (by decide) (by decide) (by decide) (by decide) ?_
          refine r_aload_n hc 0 rfl rfl dX7_told_118 ?_
          refine r_iload_n hc 1 rfl rfl dX7_told_119 ?_
          obtain ⟨_, ek26, h⟩ := wp_g h
          obtain ⟨r24, σ25, er24, h⟩ := wp_b h
          refine r_callV hc (k0 := x0) mv_X7_shortest ml_X7_160 (c_X7_shortest er24) (chk_of ek26) cls_7.1 rfl rfl rfl (by decide) rfl (Nat.le_of_ble_eq_true rfl) dX7_told_120 ?_
          have h := wp_v h
          exact r_iret hc h dX7_told_123
        have h := wp_f c5 h
        by_cases c6 : x2 = 6
        · have h := wp_t c6 h
          refine r_tabIn hc (off := 93) (tgt := 124) dX7_told_31 c6 (by decide) (by decide) (by decide) (by decide) ?_
          refine r_aload_n hc 0 rfl rfl dX7_told_124 ?_
          refine r_iload_n hc 1 rfl rfl dX7_told_125 ?_
          obtain ⟨_, ek29, h⟩ := wp_g h
          obtain ⟨r27, σ28, er27, h⟩ := wp_b h
          refine r_callV hc (k0 := x0) mv_X7_onRings ml_X7_163 (c_X7_onRings er27) (chk_of ek29) cls_7.1 rfl rfl rfl (by decide) rfl (Nat.le_of_ble_eq_true rfl) dX7_told_126 ?_
          have h := wp_v h
          exact r_iret hc h dX7_told_129
        have h := wp_f c6 h
        by_cases c7 : x2 = 7
        · have h := wp_t c7 h
          refine r_tabIn hc (off := 99) (tgt := 130) dX7_told_31 c7 (by decide) (by decide) (by decide) (by decide) ?_
          refine r_aload_n hc 0 rfl rfl dX7_told_130 ?_
          refine r_iload_n hc 1 rfl rfl dX7_told_131 ?_
          refine r_iconst hc (v := 1) (by decide) dX7_told_132 ?_
          obtain ⟨_, ek32, h⟩ := wp_g h
          obtain ⟨r30, σ31, er30, h⟩ := wp_b h
          refine r_callV hc (k0 := x0) mv_X7_mostLines ml_X7_166 (c_X7_mostLines er30) (chk_of ek32) cls_7.1 rfl rfl rfl (by decide) rfl (Nat.le_of_ble_eq_true rfl) dX7_told_133 ?_
          have h := wp_v h
          exact r_iret hc h dX7_told_136
        have h := wp_f c7 h
        refine r_tabOut hc (tgt := 137) dX7_told_31 (sw_out 0 8 (fun i hi => by rcases (show i = 0 ∨ i = 1 ∨ i = 2 ∨ i = 3 ∨ i = 4 ∨ i = 5 ∨ i = 6 ∨ i = 7 by omega) with rfl | rfl | rfl | rfl | rfl | rfl | rfl | rfl <;> assumption)) (by decide) ?_
        refine r_aload_n hc 0 rfl rfl dX7_told_137 ?_
        refine r_iload_n hc 1 rfl rfl dX7_told_138 ?_
        refine r_iconst hc (v := 0) (by decide) dX7_told_139 ?_
        obtain ⟨_, ek35, h⟩ := wp_g h
        obtain ⟨r33, σ34, er33, h⟩ := wp_b h
        refine r_callV hc (k0 := x0) mv_X7_mostLines ml_X7_166 (c_X7_mostLines er33) (chk_of ek35) cls_7.1 rfl rfl rfl (by decide) rfl (Nat.le_of_ble_eq_true rfl) dX7_told_140 ?_
        have h := wp_v h
        exact r_iret hc h dX7_told_143
      · have h := wp_f c h
        refine r_bipush hc (v := (-2)) (by decide) dX7_told_27 ?_
        have h := wp_v h
        exact r_iret hc h dX7_told_29
    · have h := wp_t c h
      refine r_sub [] (lv' := []) rfl ?_
      exact t_X7_told_b17 hc h
theorem c_X7_told {l : Launch} {x0 : Nat} {x1 : Int32} {x2 : Int32} {σ σ' : Hp} {r : Int32} (h : f_X7_told x0 x1 x2 σ = some (r, σ')) : Mt l yX7_told cX7_told 3 (some .int) 4 shM (fun ad => [.ref (ad x0), .int x1, .int x2]) σ (fun ad => some (.int r)) σ' := mt_i (own := RX7) (by decide) rfl (fun _ => Nat.le_of_ble_eq_true rfl) (fun γ ad K hc hk => t_X7_told hc ⟨_, _, h, hk⟩)

-- NetMapsModel.row(IIZ)I
theorem dX7_row_0 : decode cX7_row 0 = .ok (.iload_n 1, 1) := by decide +kernel
theorem dX7_row_1 : decode cX7_row 1 = .ok (.invokestatic 132, 3) := by decide +kernel
theorem dX7_row_4 : decode cX7_row 4 = .ok (.ifCond .eq 12, 3) := by decide +kernel
theorem dX7_row_7 : decode cX7_row 7 = .ok (.aload_n 0, 1) := by decide +kernel
theorem dX7_row_8 : decode cX7_row 8 = .ok (.iload_n 1, 1) := by decide +kernel
theorem dX7_row_9 : decode cX7_row 9 = .ok (.iload_n 2, 1) := by decide +kernel
theorem dX7_row_10 : decode cX7_row 10 = .ok (.invokevirtual 144, 3) := by decide +kernel
theorem dX7_row_13 : decode cX7_row 13 = .ok (.ifCond .ne 5, 3) := by decide +kernel
theorem dX7_row_16 : decode cX7_row 16 = .ok (.iconst (-1), 1) := by decide +kernel
theorem dX7_row_17 : decode cX7_row 17 = .ok (.ireturn, 1) := by decide +kernel
theorem dX7_row_18 : decode cX7_row 18 = .ok (.aload_n 0, 1) := by decide +kernel
theorem dX7_row_19 : decode cX7_row 19 = .ok (.iload_n 1, 1) := by decide +kernel
theorem dX7_row_20 : decode cX7_row 20 = .ok (.invokevirtual 85, 3) := by decide +kernel
theorem dX7_row_23 : decode cX7_row 23 = .ok (.ifCond .eq 8, 3) := by decide +kernel
theorem dX7_row_26 : decode cX7_row 26 = .ok (.bipush (-2), 2) := by decide +kernel
theorem dX7_row_28 : decode cX7_row 28 = .ok (.goto 32, 3) := by decide +kernel
theorem dX7_row_31 : decode cX7_row 31 = .ok (.iload_n 3, 1) := by decide +kernel
theorem dX7_row_32 : decode cX7_row 32 = .ok (.ifCond .eq 17, 3) := by decide +kernel
theorem dX7_row_35 : decode cX7_row 35 = .ok (.aload_n 0, 1) := by decide +kernel
theorem dX7_row_36 : decode cX7_row 36 = .ok (.getfield 13, 3) := by decide +kernel
theorem dX7_row_39 : decode cX7_row 39 = .ok (.bipush 7, 2) := by decide +kernel
theorem dX7_row_41 : decode cX7_row 41 = .ok (.iload_n 1, 1) := by decide +kernel
theorem dX7_row_42 : decode cX7_row 42 = .ok (.imul, 1) := by decide +kernel
theorem dX7_row_43 : decode cX7_row 43 = .ok (.iload_n 2, 1) := by decide +kernel
theorem dX7_row_44 : decode cX7_row 44 = .ok (.iadd, 1) := by decide +kernel
theorem dX7_row_45 : decode cX7_row 45 = .ok (.iaload, 1) := by decide +kernel
theorem dX7_row_46 : decode cX7_row 46 = .ok (.goto 14, 3) := by decide +kernel
theorem dX7_row_49 : decode cX7_row 49 = .ok (.aload_n 0, 1) := by decide +kernel
theorem dX7_row_50 : decode cX7_row 50 = .ok (.getfield 16, 3) := by decide +kernel
theorem dX7_row_53 : decode cX7_row 53 = .ok (.bipush 7, 2) := by decide +kernel
theorem dX7_row_55 : decode cX7_row 55 = .ok (.iload_n 1, 1) := by decide +kernel
theorem dX7_row_56 : decode cX7_row 56 = .ok (.imul, 1) := by decide +kernel
theorem dX7_row_57 : decode cX7_row 57 = .ok (.iload_n 2, 1) := by decide +kernel
theorem dX7_row_58 : decode cX7_row 58 = .ok (.iadd, 1) := by decide +kernel
theorem dX7_row_59 : decode cX7_row 59 = .ok (.iaload, 1) := by decide +kernel
theorem dX7_row_60 : decode cX7_row 60 = .ok (.ireturn, 1) := by decide +kernel
noncomputable def f_X7_row_b16  (σ : Hp) : Option (Int32 × Hp) := some ((-1), σ)
set_option maxRecDepth 100000 in
set_option maxHeartbeats 4000000 in
theorem t_X7_row_b16 {l : Launch} {γ : Gm} {ad : Nat → Nat} {K : Option Value → Hp → Prop} (hc : Cx l γ 3 4 ad shM RX7 cX7_row (some .int) K)  {σ : Hp} (h : wpO (f_X7_row_b16  σ) (KI K)) : WW l γ 3 4 ad shM 16 [] [] σ := by
  unfold f_X7_row_b16 at h
  refine r_iconst hc (v := (-1)) (by decide) dX7_row_16 ?_
  have h := wp_v h
  exact r_iret hc h dX7_row_17
noncomputable def f_X7_row_b60 (s0 : Int32) (σ : Hp) : Option (Int32 × Hp) := some (s0, σ)
set_option maxRecDepth 100000 in
set_option maxHeartbeats 4000000 in
theorem t_X7_row_b60 {l : Launch} {γ : Gm} {ad : Nat → Nat} {K : Option Value → Hp → Prop} (hc : Cx l γ 3 4 ad shM RX7 cX7_row (some .int) K) {s0 : Int32} {σ : Hp} (h : wpO (f_X7_row_b60 s0 σ) (KI K)) : WW l γ 3 4 ad shM 60 [] [.int s0] σ := by
  unfold f_X7_row_b60 at h
  have h := wp_v h
  exact r_iret hc h dX7_row_60
noncomputable def f_X7_row (x0 : Nat) (x1 : Int32) (x2 : Int32) (x3 : Int32) (σ : Hp) : Option (Int32 × Hp) := bO (f_X7_isDrawer x1 σ) fun r1 σ2 => if r1 = 0 then (f_X7_row_b16  σ2) else (gO (chk shM x0 7) fun _ => bO (f_X7_isNode x0 x1 x2 σ2) fun r3 σ4 => if r3 = 0 then (f_X7_row_b16  σ4) else (gO (chk shM x0 7) fun _ => bO (f_X7_isEmpty x0 x1 σ4) fun r6 σ7 => if r6 = 0 then (if x3 = 0 then (gO (getR shM 7 x0 2 σ7) fun v9 => gO (aldI shM 0 v9 ((7 * x1) + x2) σ7) fun v10 => f_X7_row_b60 v10 σ7) else (gO (getR shM 7 x0 1 σ7) fun v11 => gO (aldI shM 0 v11 ((7 * x1) + x2) σ7) fun v12 => f_X7_row_b60 v12 σ7)) else (f_X7_row_b60 (-2) σ7)))
set_option maxRecDepth 100000 in
set_option maxHeartbeats 4000000 in
theorem t_X7_row {l : Launch} {γ : Gm} {ad : Nat → Nat} {K : Option Value → Hp → Prop} (hc : Cx l γ 3 4 ad shM RX7 cX7_row (some .int) K) {x0 : Nat} {x1 : Int32} {x2 : Int32} {x3 : Int32} {σ : Hp} (h : wpO (f_X7_row x0 x1 x2 x3 σ) (KI K)) : WW l γ 3 4 ad shM 0 [(0, .ref (ad x0)), (1, .int x1), (2, .int x2), (3, .int x3)] [] σ := by
  unfold f_X7_row at h
  refine r_iload_n hc 1 rfl rfl dX7_row_0 ?_
  obtain ⟨r1, σ2, er1, h⟩ := wp_b h
  refine r_callS hc ms_X7_isDrawer ml_X7_132 (c_X7_isDrawer er1) rfl rfl (by decide) rfl (Nat.le_of_ble_eq_true rfl) dX7_row_1 ?_
  refine r_if_eq hc (tgt := 16) dX7_row_4 (by decide) (fun c => ?_) (fun c => ?_)
  · have h := wp_t c h
    refine r_sub [] (lv' := []) rfl ?_
    exact t_X7_row_b16 hc h
  · have h := wp_f c h
    refine r_aload_n hc 0 rfl rfl dX7_row_7 ?_
    refine r_iload_n hc 1 rfl rfl dX7_row_8 ?_
    refine r_iload_n hc 2 rfl rfl dX7_row_9 ?_
    obtain ⟨_, ek5, h⟩ := wp_g h
    obtain ⟨r3, σ4, er3, h⟩ := wp_b h
    refine r_callV hc (k0 := x0) mv_X7_isNode ml_X7_144 (c_X7_isNode er3) (chk_of ek5) cls_7.1 rfl rfl rfl (by decide) rfl (Nat.le_of_ble_eq_true rfl) dX7_row_10 ?_
    refine r_if_ne hc (tgt := 18) dX7_row_13 (by decide) (fun c => ?_) (fun c => ?_)
    · have h := wp_f c h
      refine r_aload_n hc 0 rfl rfl dX7_row_18 ?_
      refine r_iload_n hc 1 rfl rfl dX7_row_19 ?_
      obtain ⟨_, ek8, h⟩ := wp_g h
      obtain ⟨r6, σ7, er6, h⟩ := wp_b h
      refine r_callV hc (k0 := x0) mv_X7_isEmpty ml_X7_85 (c_X7_isEmpty er6) (chk_of ek8) cls_7.1 rfl rfl rfl (by decide) rfl (Nat.le_of_ble_eq_true rfl) dX7_row_20 ?_
      refine r_if_eq hc (tgt := 31) dX7_row_23 (by decide) (fun c => ?_) (fun c => ?_)
      · have h := wp_t c h
        refine r_iload_n hc 3 rfl rfl dX7_row_31 ?_
        refine r_if_eq hc (tgt := 49) dX7_row_32 (by decide) (fun c => ?_) (fun c => ?_)
        · have h := wp_t c h
          refine r_aload_n hc 0 rfl rfl dX7_row_49 ?_
          obtain ⟨v9, ev9, h⟩ := wp_g h
          refine r_getR hc ev9 fl_X7_16 rfl dX7_row_50 ?_
          refine r_bipush hc (v := 7) (by decide) dX7_row_53 ?_
          refine r_iload_n hc 1 rfl rfl dX7_row_55 ?_
          refine r_imul hc dX7_row_56 ?_
          refine r_iload_n hc 2 rfl rfl dX7_row_57 ?_
          refine r_iadd hc dX7_row_58 ?_
          obtain ⟨v10, ev10, h⟩ := wp_g h
          refine r_iald hc ev10 dX7_row_59 ?_
          refine r_sub [] (lv' := []) rfl ?_
          exact t_X7_row_b60 hc h
        · have h := wp_f c h
          refine r_aload_n hc 0 rfl rfl dX7_row_35 ?_
          obtain ⟨v11, ev11, h⟩ := wp_g h
          refine r_getR hc ev11 fl_X7_13 rfl dX7_row_36 ?_
          refine r_bipush hc (v := 7) (by decide) dX7_row_39 ?_
          refine r_iload_n hc 1 rfl rfl dX7_row_41 ?_
          refine r_imul hc dX7_row_42 ?_
          refine r_iload_n hc 2 rfl rfl dX7_row_43 ?_
          refine r_iadd hc dX7_row_44 ?_
          obtain ⟨v12, ev12, h⟩ := wp_g h
          refine r_iald hc ev12 dX7_row_45 ?_
          refine r_goto hc (tgt := 60) dX7_row_46 (by decide) ?_
          refine r_sub [] (lv' := []) rfl ?_
          exact t_X7_row_b60 hc h
      · have h := wp_f c h
        refine r_bipush hc (v := (-2)) (by decide) dX7_row_26 ?_
        refine r_goto hc (tgt := 60) dX7_row_28 (by decide) ?_
        refine r_sub [] (lv' := []) rfl ?_
        exact t_X7_row_b60 hc h
    · have h := wp_t c h
      refine r_sub [] (lv' := []) rfl ?_
      exact t_X7_row_b16 hc h
theorem c_X7_row {l : Launch} {x0 : Nat} {x1 : Int32} {x2 : Int32} {x3 : Int32} {σ σ' : Hp} {r : Int32} (h : f_X7_row x0 x1 x2 x3 σ = some (r, σ')) : Mt l yX7_row cX7_row 4 (some .int) 3 shM (fun ad => [.ref (ad x0), .int x1, .int x2, .int x3]) σ (fun ad => some (.int r)) σ' := mt_i (own := RX7) (by decide) rfl (fun _ => Nat.le_of_ble_eq_true rfl) (fun γ ad K hc hk => t_X7_row hc ⟨_, _, h, hk⟩)

-- NetMapsModel.reach(II)I
theorem dX7_reach_0 : decode cX7_reach 0 = .ok (.iload_n 1, 1) := by decide +kernel
theorem dX7_reach_1 : decode cX7_reach 1 = .ok (.invokestatic 132, 3) := by decide +kernel
theorem dX7_reach_4 : decode cX7_reach 4 = .ok (.ifCond .eq 12, 3) := by decide +kernel
theorem dX7_reach_7 : decode cX7_reach 7 = .ok (.aload_n 0, 1) := by decide +kernel
theorem dX7_reach_8 : decode cX7_reach 8 = .ok (.iload_n 1, 1) := by decide +kernel
theorem dX7_reach_9 : decode cX7_reach 9 = .ok (.iload_n 2, 1) := by decide +kernel
theorem dX7_reach_10 : decode cX7_reach 10 = .ok (.invokevirtual 144, 3) := by decide +kernel
theorem dX7_reach_13 : decode cX7_reach 13 = .ok (.ifCond .ne 5, 3) := by decide +kernel
theorem dX7_reach_16 : decode cX7_reach 16 = .ok (.iconst (-1), 1) := by decide +kernel
theorem dX7_reach_17 : decode cX7_reach 17 = .ok (.ireturn, 1) := by decide +kernel
theorem dX7_reach_18 : decode cX7_reach 18 = .ok (.aload_n 0, 1) := by decide +kernel
theorem dX7_reach_19 : decode cX7_reach 19 = .ok (.iload_n 1, 1) := by decide +kernel
theorem dX7_reach_20 : decode cX7_reach 20 = .ok (.invokevirtual 85, 3) := by decide +kernel
theorem dX7_reach_23 : decode cX7_reach 23 = .ok (.ifCond .eq 8, 3) := by decide +kernel
theorem dX7_reach_26 : decode cX7_reach 26 = .ok (.bipush (-2), 2) := by decide +kernel
theorem dX7_reach_28 : decode cX7_reach 28 = .ok (.goto 9, 3) := by decide +kernel
theorem dX7_reach_31 : decode cX7_reach 31 = .ok (.aload_n 0, 1) := by decide +kernel
theorem dX7_reach_32 : decode cX7_reach 32 = .ok (.iload_n 1, 1) := by decide +kernel
theorem dX7_reach_33 : decode cX7_reach 33 = .ok (.iload_n 2, 1) := by decide +kernel
theorem dX7_reach_34 : decode cX7_reach 34 = .ok (.invokevirtual 147, 3) := by decide +kernel
theorem dX7_reach_37 : decode cX7_reach 37 = .ok (.ireturn, 1) := by decide +kernel
noncomputable def f_X7_reach_b16  (σ : Hp) : Option (Int32 × Hp) := some ((-1), σ)
set_option maxRecDepth 100000 in
set_option maxHeartbeats 4000000 in
theorem t_X7_reach_b16 {l : Launch} {γ : Gm} {ad : Nat → Nat} {K : Option Value → Hp → Prop} (hc : Cx l γ 3 3 ad shM RX7 cX7_reach (some .int) K)  {σ : Hp} (h : wpO (f_X7_reach_b16  σ) (KI K)) : WW l γ 3 3 ad shM 16 [] [] σ := by
  unfold f_X7_reach_b16 at h
  refine r_iconst hc (v := (-1)) (by decide) dX7_reach_16 ?_
  have h := wp_v h
  exact r_iret hc h dX7_reach_17
noncomputable def f_X7_reach_b37 (s0 : Int32) (σ : Hp) : Option (Int32 × Hp) := some (s0, σ)
set_option maxRecDepth 100000 in
set_option maxHeartbeats 4000000 in
theorem t_X7_reach_b37 {l : Launch} {γ : Gm} {ad : Nat → Nat} {K : Option Value → Hp → Prop} (hc : Cx l γ 3 3 ad shM RX7 cX7_reach (some .int) K) {s0 : Int32} {σ : Hp} (h : wpO (f_X7_reach_b37 s0 σ) (KI K)) : WW l γ 3 3 ad shM 37 [] [.int s0] σ := by
  unfold f_X7_reach_b37 at h
  have h := wp_v h
  exact r_iret hc h dX7_reach_37
noncomputable def f_X7_reach (x0 : Nat) (x1 : Int32) (x2 : Int32) (σ : Hp) : Option (Int32 × Hp) := bO (f_X7_isDrawer x1 σ) fun r1 σ2 => if r1 = 0 then (f_X7_reach_b16  σ2) else (gO (chk shM x0 7) fun _ => bO (f_X7_isNode x0 x1 x2 σ2) fun r3 σ4 => if r3 = 0 then (f_X7_reach_b16  σ4) else (gO (chk shM x0 7) fun _ => bO (f_X7_isEmpty x0 x1 σ4) fun r6 σ7 => if r6 = 0 then (gO (chk shM x0 7) fun _ => bO (f_X7_reachOf x0 x1 x2 σ7) fun r9 σ10 => f_X7_reach_b37 r9 σ10) else (f_X7_reach_b37 (-2) σ7)))
set_option maxRecDepth 100000 in
set_option maxHeartbeats 4000000 in
theorem t_X7_reach {l : Launch} {γ : Gm} {ad : Nat → Nat} {K : Option Value → Hp → Prop} (hc : Cx l γ 3 3 ad shM RX7 cX7_reach (some .int) K) {x0 : Nat} {x1 : Int32} {x2 : Int32} {σ : Hp} (h : wpO (f_X7_reach x0 x1 x2 σ) (KI K)) : WW l γ 3 3 ad shM 0 [(0, .ref (ad x0)), (1, .int x1), (2, .int x2)] [] σ := by
  unfold f_X7_reach at h
  refine r_iload_n hc 1 rfl rfl dX7_reach_0 ?_
  obtain ⟨r1, σ2, er1, h⟩ := wp_b h
  refine r_callS hc ms_X7_isDrawer ml_X7_132 (c_X7_isDrawer er1) rfl rfl (by decide) rfl (Nat.le_of_ble_eq_true rfl) dX7_reach_1 ?_
  refine r_if_eq hc (tgt := 16) dX7_reach_4 (by decide) (fun c => ?_) (fun c => ?_)
  · have h := wp_t c h
    refine r_sub [] (lv' := []) rfl ?_
    exact t_X7_reach_b16 hc h
  · have h := wp_f c h
    refine r_aload_n hc 0 rfl rfl dX7_reach_7 ?_
    refine r_iload_n hc 1 rfl rfl dX7_reach_8 ?_
    refine r_iload_n hc 2 rfl rfl dX7_reach_9 ?_
    obtain ⟨_, ek5, h⟩ := wp_g h
    obtain ⟨r3, σ4, er3, h⟩ := wp_b h
    refine r_callV hc (k0 := x0) mv_X7_isNode ml_X7_144 (c_X7_isNode er3) (chk_of ek5) cls_7.1 rfl rfl rfl (by decide) rfl (Nat.le_of_ble_eq_true rfl) dX7_reach_10 ?_
    refine r_if_ne hc (tgt := 18) dX7_reach_13 (by decide) (fun c => ?_) (fun c => ?_)
    · have h := wp_f c h
      refine r_aload_n hc 0 rfl rfl dX7_reach_18 ?_
      refine r_iload_n hc 1 rfl rfl dX7_reach_19 ?_
      obtain ⟨_, ek8, h⟩ := wp_g h
      obtain ⟨r6, σ7, er6, h⟩ := wp_b h
      refine r_callV hc (k0 := x0) mv_X7_isEmpty ml_X7_85 (c_X7_isEmpty er6) (chk_of ek8) cls_7.1 rfl rfl rfl (by decide) rfl (Nat.le_of_ble_eq_true rfl) dX7_reach_20 ?_
      refine r_if_eq hc (tgt := 31) dX7_reach_23 (by decide) (fun c => ?_) (fun c => ?_)
      · have h := wp_t c h
        refine r_aload_n hc 0 rfl rfl dX7_reach_31 ?_
        refine r_iload_n hc 1 rfl rfl dX7_reach_32 ?_
        refine r_iload_n hc 2 rfl rfl dX7_reach_33 ?_
        obtain ⟨_, ek11, h⟩ := wp_g h
        obtain ⟨r9, σ10, er9, h⟩ := wp_b h
        refine r_callV hc (k0 := x0) mv_X7_reachOf ml_X7_147 (c_X7_reachOf er9) (chk_of ek11) cls_7.1 rfl rfl rfl (by decide) rfl (Nat.le_of_ble_eq_true rfl) dX7_reach_34 ?_
        refine r_sub [] (lv' := []) rfl ?_
        exact t_X7_reach_b37 hc h
      · have h := wp_f c h
        refine r_bipush hc (v := (-2)) (by decide) dX7_reach_26 ?_
        refine r_goto hc (tgt := 37) dX7_reach_28 (by decide) ?_
        refine r_sub [] (lv' := []) rfl ?_
        exact t_X7_reach_b37 hc h
    · have h := wp_t c h
      refine r_sub [] (lv' := []) rfl ?_
      exact t_X7_reach_b16 hc h
theorem c_X7_reach {l : Launch} {x0 : Nat} {x1 : Int32} {x2 : Int32} {σ σ' : Hp} {r : Int32} (h : f_X7_reach x0 x1 x2 σ = some (r, σ')) : Mt l yX7_reach cX7_reach 3 (some .int) 3 shM (fun ad => [.ref (ad x0), .int x1, .int x2]) σ (fun ad => some (.int r)) σ' := mt_i (own := RX7) (by decide) rfl (fun _ => Nat.le_of_ble_eq_true rfl) (fun γ ad K hc hk => t_X7_reach hc ⟨_, _, h, hk⟩)

-- NetMapsModel.sums(II)V
theorem dX7_sums_0 : decode cX7_sums 0 = .ok (.aload_n 0, 1) := by decide +kernel
theorem dX7_sums_1 : decode cX7_sums 1 = .ok (.getfield 7, 3) := by decide +kernel
theorem dX7_sums_4 : decode cX7_sums 4 = .ok (.iload_n 1, 1) := by decide +kernel
theorem dX7_sums_5 : decode cX7_sums 5 = .ok (.iaload, 1) := by decide +kernel
theorem dX7_sums_6 : decode cX7_sums 6 = .ok (.istore_n 3, 1) := by decide +kernel
theorem dX7_sums_7 : decode cX7_sums 7 = .ok (.iconst 0, 1) := by decide +kernel
theorem dX7_sums_8 : decode cX7_sums 8 = .ok (.istore 4, 2) := by decide +kernel
theorem dX7_sums_10 : decode cX7_sums 10 = .ok (.iload 4, 2) := by decide +kernel
theorem dX7_sums_12 : decode cX7_sums 12 = .ok (.iload_n 3, 1) := by decide +kernel
theorem dX7_sums_13 : decode cX7_sums 13 = .ok (.if_icmp .ge 47, 3) := by decide +kernel
theorem dX7_sums_16 : decode cX7_sums 16 = .ok (.iconst 0, 1) := by decide +kernel
theorem dX7_sums_17 : decode cX7_sums 17 = .ok (.istore 5, 2) := by decide +kernel
theorem dX7_sums_19 : decode cX7_sums 19 = .ok (.iload 5, 2) := by decide +kernel
theorem dX7_sums_21 : decode cX7_sums 21 = .ok (.iload_n 3, 1) := by decide +kernel
theorem dX7_sums_22 : decode cX7_sums 22 = .ok (.if_icmp .ge 32, 3) := by decide +kernel
theorem dX7_sums_25 : decode cX7_sums 25 = .ok (.aload_n 0, 1) := by decide +kernel
theorem dX7_sums_26 : decode cX7_sums 26 = .ok (.iload_n 1, 1) := by decide +kernel
theorem dX7_sums_27 : decode cX7_sums 27 = .ok (.iload 4, 2) := by decide +kernel
theorem dX7_sums_29 : decode cX7_sums 29 = .ok (.iload 5, 2) := by decide +kernel
theorem dX7_sums_31 : decode cX7_sums 31 = .ok (.invokevirtual 125, 3) := by decide +kernel
theorem dX7_sums_34 : decode cX7_sums 34 = .ok (.ifCond .eq 14, 3) := by decide +kernel
theorem dX7_sums_37 : decode cX7_sums 37 = .ok (.aload_n 0, 1) := by decide +kernel
theorem dX7_sums_38 : decode cX7_sums 38 = .ok (.bipush 7, 2) := by decide +kernel
theorem dX7_sums_40 : decode cX7_sums 40 = .ok (.iload 4, 2) := by decide +kernel
theorem dX7_sums_42 : decode cX7_sums 42 = .ok (.iload 5, 2) := by decide +kernel
theorem dX7_sums_44 : decode cX7_sums 44 = .ok (.iconst 1, 1) := by decide +kernel
theorem dX7_sums_45 : decode cX7_sums 45 = .ok (.invokevirtual 128, 3) := by decide +kernel
theorem dX7_sums_48 : decode cX7_sums 48 = .ok (.iinc 5 1, 3) := by decide +kernel
theorem dX7_sums_51 : decode cX7_sums 51 = .ok (.goto (-32), 3) := by decide +kernel
theorem dX7_sums_54 : decode cX7_sums 54 = .ok (.iinc 4 1, 3) := by decide +kernel
theorem dX7_sums_57 : decode cX7_sums 57 = .ok (.goto (-47), 3) := by decide +kernel
theorem dX7_sums_60 : decode cX7_sums 60 = .ok (.iconst 0, 1) := by decide +kernel
theorem dX7_sums_61 : decode cX7_sums 61 = .ok (.istore 4, 2) := by decide +kernel
theorem dX7_sums_63 : decode cX7_sums 63 = .ok (.iload 4, 2) := by decide +kernel
theorem dX7_sums_65 : decode cX7_sums 65 = .ok (.aload_n 0, 1) := by decide +kernel
theorem dX7_sums_66 : decode cX7_sums 66 = .ok (.getfield 7, 3) := by decide +kernel
theorem dX7_sums_69 : decode cX7_sums 69 = .ok (.iload_n 2, 1) := by decide +kernel
theorem dX7_sums_70 : decode cX7_sums 70 = .ok (.iaload, 1) := by decide +kernel
theorem dX7_sums_71 : decode cX7_sums 71 = .ok (.if_icmp .ge 56, 3) := by decide +kernel
theorem dX7_sums_74 : decode cX7_sums 74 = .ok (.iconst 0, 1) := by decide +kernel
theorem dX7_sums_75 : decode cX7_sums 75 = .ok (.istore 5, 2) := by decide +kernel
theorem dX7_sums_77 : decode cX7_sums 77 = .ok (.iload 5, 2) := by decide +kernel
theorem dX7_sums_79 : decode cX7_sums 79 = .ok (.aload_n 0, 1) := by decide +kernel
theorem dX7_sums_80 : decode cX7_sums 80 = .ok (.getfield 7, 3) := by decide +kernel
theorem dX7_sums_83 : decode cX7_sums 83 = .ok (.iload_n 2, 1) := by decide +kernel
theorem dX7_sums_84 : decode cX7_sums 84 = .ok (.iaload, 1) := by decide +kernel
theorem dX7_sums_85 : decode cX7_sums 85 = .ok (.if_icmp .ge 36, 3) := by decide +kernel
theorem dX7_sums_88 : decode cX7_sums 88 = .ok (.aload_n 0, 1) := by decide +kernel
theorem dX7_sums_89 : decode cX7_sums 89 = .ok (.iload_n 2, 1) := by decide +kernel
theorem dX7_sums_90 : decode cX7_sums 90 = .ok (.iload 4, 2) := by decide +kernel
theorem dX7_sums_92 : decode cX7_sums 92 = .ok (.iload 5, 2) := by decide +kernel
theorem dX7_sums_94 : decode cX7_sums 94 = .ok (.invokevirtual 125, 3) := by decide +kernel
theorem dX7_sums_97 : decode cX7_sums 97 = .ok (.ifCond .eq 18, 3) := by decide +kernel
theorem dX7_sums_100 : decode cX7_sums 100 = .ok (.aload_n 0, 1) := by decide +kernel
theorem dX7_sums_101 : decode cX7_sums 101 = .ok (.bipush 7, 2) := by decide +kernel
theorem dX7_sums_103 : decode cX7_sums 103 = .ok (.iload_n 3, 1) := by decide +kernel
theorem dX7_sums_104 : decode cX7_sums 104 = .ok (.iload 4, 2) := by decide +kernel
theorem dX7_sums_106 : decode cX7_sums 106 = .ok (.iadd, 1) := by decide +kernel
theorem dX7_sums_107 : decode cX7_sums 107 = .ok (.iload_n 3, 1) := by decide +kernel
theorem dX7_sums_108 : decode cX7_sums 108 = .ok (.iload 5, 2) := by decide +kernel
theorem dX7_sums_110 : decode cX7_sums 110 = .ok (.iadd, 1) := by decide +kernel
theorem dX7_sums_111 : decode cX7_sums 111 = .ok (.iconst 1, 1) := by decide +kernel
theorem dX7_sums_112 : decode cX7_sums 112 = .ok (.invokevirtual 128, 3) := by decide +kernel
theorem dX7_sums_115 : decode cX7_sums 115 = .ok (.iinc 5 1, 3) := by decide +kernel
theorem dX7_sums_118 : decode cX7_sums 118 = .ok (.goto (-41), 3) := by decide +kernel
theorem dX7_sums_121 : decode cX7_sums 121 = .ok (.iinc 4 1, 3) := by decide +kernel
theorem dX7_sums_124 : decode cX7_sums 124 = .ok (.goto (-61), 3) := by decide +kernel
theorem dX7_sums_127 : decode cX7_sums 127 = .ok (.return_, 1) := by decide +kernel
noncomputable def f_X7_sums_b48 (x0 : Nat) (x1 : Int32) (x2 : Int32) (x3 : Int32) (x4 : Int32) (x5 : Int32) (σ : Hp) : Option (((Int32) ⊕ (Unit)) × Hp) := some (Sum.inl (x5 + 1), σ)
set_option maxRecDepth 100000 in
set_option maxHeartbeats 4000000 in
theorem t_X7_sums_b48 {l : Launch} {γ : Gm} {ad : Nat → Nat} {K : Option Value → Hp → Prop} (hc : Cx l γ 3 6 ad shM RX7 cX7_sums none K) {x0 : Nat} {x1 : Int32} {x2 : Int32} {x3 : Int32} {x4 : Int32} {x5 : Int32}  {σ : Hp} {KL : ((Int32) ⊕ (Unit)) → Hp → Prop} (h : wpO (f_X7_sums_b48 x0 x1 x2 x3 x4 x5 σ) KL) (kn : ∀ (v : (Int32)) (σ : Hp), KL (Sum.inl v) σ → WW l γ 3 6 ad shM 19 [(0, .ref (ad x0)), (1, .int x1), (2, .int x2), (3, .int x3), (4, .int x4), (5, .int v)] [] σ) (kx54 : ∀ (v : Unit) (σ : Hp), KL (Sum.inr v) σ → WW l γ 3 6 ad shM 54 [(0, .ref (ad x0)), (1, .int x1), (2, .int x2), (3, .int x3), (4, .int x4)] [] σ) : WW l γ 3 6 ad shM 48 [(0, .ref (ad x0)), (1, .int x1), (2, .int x2), (3, .int x3), (4, .int x4), (5, .int x5)] [] σ := by
  unfold f_X7_sums_b48 at h
  refine r_iincE hc (j := 5) (w := 1) (lv' := [(5, .int (x5 + 1)), (0, .ref (ad x0)), (1, .int x1), (2, .int x2), (3, .int x3), (4, .int x4)]) rfl (by decide) rfl (by decide) rfl dX7_sums_48 ?_
  refine r_goto hc (tgt := 19) dX7_sums_51 (by decide) ?_
  refine r_sub [1, 2, 3, 4, 5, 0] (lv' := [(0, .ref (ad x0)), (1, .int x1), (2, .int x2), (3, .int x3), (4, .int x4), (5, .int (x5 + 1))]) rfl ?_
  have h := wp_v h
  exact kn (x5 + 1) _ h
noncomputable def f_X7_sums_L19 (x0 : Nat) (x1 : Int32) (x2 : Int32) (x3 : Int32) (x4 : Int32) (v : (Int32)) (σ : Hp) : Option (((Int32) ⊕ (Unit)) × Hp) := if x3 ≤ v then (some (Sum.inr (), σ)) else (gO (chk shM x0 7) fun _ => bO (f_X7_isLine x0 x1 x4 v σ) fun r1 σ2 => if r1 = 0 then (f_X7_sums_b48 x0 x1 x2 x3 x4 v σ2) else (gO (chk shM x0 7) fun _ => bO (f_X7_sets x0 7 x4 v 1 σ2) fun _ σ5 => f_X7_sums_b48 x0 x1 x2 x3 x4 v σ5))
set_option maxRecDepth 100000 in
set_option maxHeartbeats 4000000 in
theorem t_X7_sums_L19 {l : Launch} {γ : Gm} {ad : Nat → Nat} {K : Option Value → Hp → Prop}  (hc : Cx l γ 3 6 ad shM RX7 cX7_sums none K) {x0 : Nat} {x1 : Int32} {x2 : Int32} {x3 : Int32} {x4 : Int32} {v : (Int32)} {σ : Hp} {KX : (Unit) → Hp → Prop} (h : wpO (wh (f_X7_sums_L19 x0 x1 x2 x3 x4) v σ) KX) (kx54 : ∀ (v : Unit) (σ : Hp), KX v σ → WW l γ 3 6 ad shM 54 [(0, .ref (ad x0)), (1, .int x1), (2, .int x2), (3, .int x3), (4, .int x4)] [] σ) : WW l γ 3 6 ad shM 19 [(0, .ref (ad x0)), (1, .int x1), (2, .int x2), (3, .int x3), (4, .int x4), (5, .int v)] [] σ := by
  refine wh_W (P := fun v σ => WW l γ 3 6 ad shM 19 [(0, .ref (ad x0)), (1, .int x1), (2, .int x2), (3, .int x3), (4, .int x4), (5, .int v)] [] σ) (fun v σ h => ?_) h
  have kn : ∀ (v : (Int32)) (σ : Hp), WW l γ 3 6 ad shM 19 [(0, .ref (ad x0)), (1, .int x1), (2, .int x2), (3, .int x3), (4, .int x4), (5, .int v)] [] σ → WW l γ 3 6 ad shM 19 [(0, .ref (ad x0)), (1, .int x1), (2, .int x2), (3, .int x3), (4, .int x4), (5, .int v)] [] σ := fun _ _ h => h
  · unfold f_X7_sums_L19 at h
    refine r_iload hc 5 rfl dX7_sums_19 ?_
    refine r_iload_n hc 3 rfl rfl dX7_sums_21 ?_
    refine r_icmp_ge hc (tgt := 54) dX7_sums_22 (by decide) (fun c => ?_) (fun c => ?_)
    · have h := wp_t c h
      refine r_sub [0, 1, 2, 3, 4] (lv' := [(0, .ref (ad x0)), (1, .int x1), (2, .int x2), (3, .int x3), (4, .int x4)]) rfl ?_
      have h := wp_v h
      exact kx54 () _ h
    · have h := wp_f c h
      refine r_aload_n hc 0 rfl rfl dX7_sums_25 ?_
      refine r_iload_n hc 1 rfl rfl dX7_sums_26 ?_
      refine r_iload hc 4 rfl dX7_sums_27 ?_
      refine r_iload hc 5 rfl dX7_sums_29 ?_
      obtain ⟨_, ek3, h⟩ := wp_g h
      obtain ⟨r1, σ2, er1, h⟩ := wp_b h
      refine r_callV hc (k0 := x0) mv_X7_isLine ml_X7_125 (c_X7_isLine er1) (chk_of ek3) cls_7.1 rfl rfl rfl (by decide) rfl (Nat.le_of_ble_eq_true rfl) dX7_sums_31 ?_
      refine r_if_eq hc (tgt := 48) dX7_sums_34 (by decide) (fun c => ?_) (fun c => ?_)
      · have h := wp_t c h
        exact t_X7_sums_b48 hc h kn kx54
      · have h := wp_f c h
        refine r_aload_n hc 0 rfl rfl dX7_sums_37 ?_
        refine r_bipush hc (v := 7) (by decide) dX7_sums_38 ?_
        refine r_iload hc 4 rfl dX7_sums_40 ?_
        refine r_iload hc 5 rfl dX7_sums_42 ?_
        refine r_iconst hc (v := 1) (by decide) dX7_sums_44 ?_
        obtain ⟨_, ek6, h⟩ := wp_g h
        obtain ⟨_, σ5, er4, h⟩ := wp_b h
        refine r_callV hc (k0 := x0) mv_X7_sets ml_X7_128 (c_X7_sets er4) (chk_of ek6) cls_7.1 rfl rfl rfl (by decide) rfl (Nat.le_of_ble_eq_true rfl) dX7_sums_45 ?_
        exact t_X7_sums_b48 hc h kn kx54
noncomputable def f_X7_sums_L10 (x0 : Nat) (x1 : Int32) (x2 : Int32) (x3 : Int32) (v : (Int32)) (σ : Hp) : Option (((Int32) ⊕ (Unit)) × Hp) := if x3 ≤ v then (some (Sum.inr (), σ)) else (bO (wh (f_X7_sums_L19 x0 x1 x2 x3 v) 0 σ) fun y1 σ2 => (some (Sum.inl (v + 1), σ2)))
set_option maxRecDepth 100000 in
set_option maxHeartbeats 4000000 in
theorem t_X7_sums_L10 {l : Launch} {γ : Gm} {ad : Nat → Nat} {K : Option Value → Hp → Prop}  (hc : Cx l γ 3 6 ad shM RX7 cX7_sums none K) {x0 : Nat} {x1 : Int32} {x2 : Int32} {x3 : Int32} {v : (Int32)} {σ : Hp} {KX : (Unit) → Hp → Prop} (h : wpO (wh (f_X7_sums_L10 x0 x1 x2 x3) v σ) KX) (kx60 : ∀ (v : Unit) (σ : Hp), KX v σ → WW l γ 3 6 ad shM 60 [(0, .ref (ad x0)), (2, .int x2), (3, .int x3)] [] σ) : WW l γ 3 6 ad shM 10 [(0, .ref (ad x0)), (1, .int x1), (2, .int x2), (3, .int x3), (4, .int v)] [] σ := by
  refine wh_W (P := fun v σ => WW l γ 3 6 ad shM 10 [(0, .ref (ad x0)), (1, .int x1), (2, .int x2), (3, .int x3), (4, .int v)] [] σ) (fun v σ h => ?_) h
  have kn : ∀ (v : (Int32)) (σ : Hp), WW l γ 3 6 ad shM 10 [(0, .ref (ad x0)), (1, .int x1), (2, .int x2), (3, .int x3), (4, .int v)] [] σ → WW l γ 3 6 ad shM 10 [(0, .ref (ad x0)), (1, .int x1), (2, .int x2), (3, .int x3), (4, .int v)] [] σ := fun _ _ h => h
  · unfold f_X7_sums_L10 at h
    refine r_iload hc 4 rfl dX7_sums_10 ?_
    refine r_iload_n hc 3 rfl rfl dX7_sums_12 ?_
    refine r_icmp_ge hc (tgt := 60) dX7_sums_13 (by decide) (fun c => ?_) (fun c => ?_)
    · have h := wp_t c h
      refine r_sub [0, 2, 3] (lv' := [(0, .ref (ad x0)), (2, .int x2), (3, .int x3)]) rfl ?_
      have h := wp_v h
      exact kx60 () _ h
    · have h := wp_f c h
      refine r_iconst hc (v := 0) (by decide) dX7_sums_16 ?_
      refine r_istoreE hc (i := 5) (lv' := [(5, .int 0), (0, .ref (ad x0)), (1, .int x1), (2, .int x2), (3, .int x3), (4, .int v)]) rfl (by decide) rfl dX7_sums_17 ?_
      refine r_sub [1, 2, 3, 4, 5, 0] (lv' := [(0, .ref (ad x0)), (1, .int x1), (2, .int x2), (3, .int x3), (4, .int v), (5, .int 0)]) rfl ?_
      refine t_X7_sums_L19 hc (wp_bb h) ?_
      · intro y1 σ2 h
        refine r_iincE hc (j := 4) (w := 1) (lv' := [(4, .int (v + 1)), (0, .ref (ad x0)), (1, .int x1), (2, .int x2), (3, .int x3)]) rfl (by decide) rfl (by decide) rfl dX7_sums_54 ?_
        refine r_goto hc (tgt := 10) dX7_sums_57 (by decide) ?_
        refine r_sub [1, 2, 3, 4, 0] (lv' := [(0, .ref (ad x0)), (1, .int x1), (2, .int x2), (3, .int x3), (4, .int (v + 1))]) rfl ?_
        have h := wp_v h
        exact kn (v + 1) _ h
noncomputable def f_X7_sums_b115 (x0 : Nat) (x2 : Int32) (x3 : Int32) (x4 : Int32) (x5 : Int32) (σ : Hp) : Option (((Int32) ⊕ (Unit)) × Hp) := some (Sum.inl (x5 + 1), σ)
set_option maxRecDepth 100000 in
set_option maxHeartbeats 4000000 in
theorem t_X7_sums_b115 {l : Launch} {γ : Gm} {ad : Nat → Nat} {K : Option Value → Hp → Prop} (hc : Cx l γ 3 6 ad shM RX7 cX7_sums none K) {x0 : Nat} {x2 : Int32} {x3 : Int32} {x4 : Int32} {x5 : Int32}  {σ : Hp} {KL : ((Int32) ⊕ (Unit)) → Hp → Prop} (h : wpO (f_X7_sums_b115 x0 x2 x3 x4 x5 σ) KL) (kn : ∀ (v : (Int32)) (σ : Hp), KL (Sum.inl v) σ → WW l γ 3 6 ad shM 77 [(0, .ref (ad x0)), (2, .int x2), (3, .int x3), (4, .int x4), (5, .int v)] [] σ) (kx121 : ∀ (v : Unit) (σ : Hp), KL (Sum.inr v) σ → WW l γ 3 6 ad shM 121 [(0, .ref (ad x0)), (2, .int x2), (3, .int x3), (4, .int x4)] [] σ) : WW l γ 3 6 ad shM 115 [(0, .ref (ad x0)), (2, .int x2), (3, .int x3), (4, .int x4), (5, .int x5)] [] σ := by
  unfold f_X7_sums_b115 at h
  refine r_iincE hc (j := 4) (w := 1) (lv' := [(5, .int (x5 + 1)), (0, .ref (ad x0)), (2, .int x2), (3, .int x3), (4, .int x4)]) rfl (by decide) rfl (by decide) rfl dX7_sums_115 ?_
  refine r_goto hc (tgt := 77) dX7_sums_118 (by decide) ?_
  refine r_sub [1, 2, 3, 4, 0] (lv' := [(0, .ref (ad x0)), (2, .int x2), (3, .int x3), (4, .int x4), (5, .int (x5 + 1))]) rfl ?_
  have h := wp_v h
  exact kn (x5 + 1) _ h
noncomputable def f_X7_sums_L77 (x0 : Nat) (x2 : Int32) (x3 : Int32) (x4 : Int32) (v : (Int32)) (σ : Hp) : Option (((Int32) ⊕ (Unit)) × Hp) := gO (getR shM 7 x0 0 σ) fun v1 => gO (aldI shM 0 v1 x2 σ) fun v2 => if v2 ≤ v then (some (Sum.inr (), σ)) else (gO (chk shM x0 7) fun _ => bO (f_X7_isLine x0 x2 x4 v σ) fun r3 σ4 => if r3 = 0 then (f_X7_sums_b115 x0 x2 x3 x4 v σ4) else (gO (chk shM x0 7) fun _ => bO (f_X7_sets x0 7 (x3 + x4) (x3 + v) 1 σ4) fun _ σ7 => f_X7_sums_b115 x0 x2 x3 x4 v σ7))
set_option maxRecDepth 100000 in
set_option maxHeartbeats 4000000 in
theorem t_X7_sums_L77 {l : Launch} {γ : Gm} {ad : Nat → Nat} {K : Option Value → Hp → Prop}  (hc : Cx l γ 3 6 ad shM RX7 cX7_sums none K) {x0 : Nat} {x2 : Int32} {x3 : Int32} {x4 : Int32} {v : (Int32)} {σ : Hp} {KX : (Unit) → Hp → Prop} (h : wpO (wh (f_X7_sums_L77 x0 x2 x3 x4) v σ) KX) (kx121 : ∀ (v : Unit) (σ : Hp), KX v σ → WW l γ 3 6 ad shM 121 [(0, .ref (ad x0)), (2, .int x2), (3, .int x3), (4, .int x4)] [] σ) : WW l γ 3 6 ad shM 77 [(0, .ref (ad x0)), (2, .int x2), (3, .int x3), (4, .int x4), (5, .int v)] [] σ := by
  refine wh_W (P := fun v σ => WW l γ 3 6 ad shM 77 [(0, .ref (ad x0)), (2, .int x2), (3, .int x3), (4, .int x4), (5, .int v)] [] σ) (fun v σ h => ?_) h
  have kn : ∀ (v : (Int32)) (σ : Hp), WW l γ 3 6 ad shM 77 [(0, .ref (ad x0)), (2, .int x2), (3, .int x3), (4, .int x4), (5, .int v)] [] σ → WW l γ 3 6 ad shM 77 [(0, .ref (ad x0)), (2, .int x2), (3, .int x3), (4, .int x4), (5, .int v)] [] σ := fun _ _ h => h
  · unfold f_X7_sums_L77 at h
    refine r_iload hc 4 rfl dX7_sums_77 ?_
    refine r_aload_n hc 0 rfl rfl dX7_sums_79 ?_
    obtain ⟨v1, ev1, h⟩ := wp_g h
    refine r_getR hc ev1 fl_X7_7 rfl dX7_sums_80 ?_
    refine r_iload_n hc 1 rfl rfl dX7_sums_83 ?_
    obtain ⟨v2, ev2, h⟩ := wp_g h
    refine r_iald hc ev2 dX7_sums_84 ?_
    refine r_icmp_ge hc (tgt := 121) dX7_sums_85 (by decide) (fun c => ?_) (fun c => ?_)
    · have h := wp_t c h
      refine r_sub [0, 1, 2, 3] (lv' := [(0, .ref (ad x0)), (2, .int x2), (3, .int x3), (4, .int x4)]) rfl ?_
      have h := wp_v h
      exact kx121 () _ h
    · have h := wp_f c h
      refine r_aload_n hc 0 rfl rfl dX7_sums_88 ?_
      refine r_iload_n hc 1 rfl rfl dX7_sums_89 ?_
      refine r_iload hc 3 rfl dX7_sums_90 ?_
      refine r_iload hc 4 rfl dX7_sums_92 ?_
      obtain ⟨_, ek5, h⟩ := wp_g h
      obtain ⟨r3, σ4, er3, h⟩ := wp_b h
      refine r_callV hc (k0 := x0) mv_X7_isLine ml_X7_125 (c_X7_isLine er3) (chk_of ek5) cls_7.1 rfl rfl rfl (by decide) rfl (Nat.le_of_ble_eq_true rfl) dX7_sums_94 ?_
      refine r_if_eq hc (tgt := 115) dX7_sums_97 (by decide) (fun c => ?_) (fun c => ?_)
      · have h := wp_t c h
        exact t_X7_sums_b115 hc h kn kx121
      · have h := wp_f c h
        refine r_aload_n hc 0 rfl rfl dX7_sums_100 ?_
        refine r_bipush hc (v := 7) (by decide) dX7_sums_101 ?_
        refine r_iload_n hc 2 rfl rfl dX7_sums_103 ?_
        refine r_iload hc 3 rfl dX7_sums_104 ?_
        refine r_iadd hc dX7_sums_106 ?_
        refine r_iload_n hc 2 rfl rfl dX7_sums_107 ?_
        refine r_iload hc 4 rfl dX7_sums_108 ?_
        refine r_iadd hc dX7_sums_110 ?_
        refine r_iconst hc (v := 1) (by decide) dX7_sums_111 ?_
        obtain ⟨_, ek8, h⟩ := wp_g h
        obtain ⟨_, σ7, er6, h⟩ := wp_b h
        refine r_callV hc (k0 := x0) mv_X7_sets ml_X7_128 (c_X7_sets er6) (chk_of ek8) cls_7.1 rfl rfl rfl (by decide) rfl (Nat.le_of_ble_eq_true rfl) dX7_sums_112 ?_
        exact t_X7_sums_b115 hc h kn kx121
noncomputable def f_X7_sums_L63 (x0 : Nat) (x2 : Int32) (x3 : Int32) (v : (Int32)) (σ : Hp) : Option (((Int32) ⊕ (Unit)) × Hp) := gO (getR shM 7 x0 0 σ) fun v1 => gO (aldI shM 0 v1 x2 σ) fun v2 => if v2 ≤ v then (some (Sum.inr (), σ)) else (bO (wh (f_X7_sums_L77 x0 x2 x3 v) 0 σ) fun y3 σ4 => (some (Sum.inl (v + 1), σ4)))
set_option maxRecDepth 100000 in
set_option maxHeartbeats 4000000 in
theorem t_X7_sums_L63 {l : Launch} {γ : Gm} {ad : Nat → Nat} {K : Option Value → Hp → Prop}  (hc : Cx l γ 3 6 ad shM RX7 cX7_sums none K) {x0 : Nat} {x2 : Int32} {x3 : Int32} {v : (Int32)} {σ : Hp} {KX : (Unit) → Hp → Prop} (h : wpO (wh (f_X7_sums_L63 x0 x2 x3) v σ) KX) (kx127 : ∀ (v : Unit) (σ : Hp), KX v σ → WW l γ 3 6 ad shM 127 [] [] σ) : WW l γ 3 6 ad shM 63 [(0, .ref (ad x0)), (2, .int x2), (3, .int x3), (4, .int v)] [] σ := by
  refine wh_W (P := fun v σ => WW l γ 3 6 ad shM 63 [(0, .ref (ad x0)), (2, .int x2), (3, .int x3), (4, .int v)] [] σ) (fun v σ h => ?_) h
  have kn : ∀ (v : (Int32)) (σ : Hp), WW l γ 3 6 ad shM 63 [(0, .ref (ad x0)), (2, .int x2), (3, .int x3), (4, .int v)] [] σ → WW l γ 3 6 ad shM 63 [(0, .ref (ad x0)), (2, .int x2), (3, .int x3), (4, .int v)] [] σ := fun _ _ h => h
  · unfold f_X7_sums_L63 at h
    refine r_iload hc 3 rfl dX7_sums_63 ?_
    refine r_aload_n hc 0 rfl rfl dX7_sums_65 ?_
    obtain ⟨v1, ev1, h⟩ := wp_g h
    refine r_getR hc ev1 fl_X7_7 rfl dX7_sums_66 ?_
    refine r_iload_n hc 1 rfl rfl dX7_sums_69 ?_
    obtain ⟨v2, ev2, h⟩ := wp_g h
    refine r_iald hc ev2 dX7_sums_70 ?_
    refine r_icmp_ge hc (tgt := 127) dX7_sums_71 (by decide) (fun c => ?_) (fun c => ?_)
    · have h := wp_t c h
      refine r_sub [] (lv' := []) rfl ?_
      have h := wp_v h
      exact kx127 () _ h
    · have h := wp_f c h
      refine r_iconst hc (v := 0) (by decide) dX7_sums_74 ?_
      refine r_istoreE hc (i := 5) (lv' := [(5, .int 0), (0, .ref (ad x0)), (2, .int x2), (3, .int x3), (4, .int v)]) rfl (by decide) rfl dX7_sums_75 ?_
      refine r_sub [1, 2, 3, 4, 0] (lv' := [(0, .ref (ad x0)), (2, .int x2), (3, .int x3), (4, .int v), (5, .int 0)]) rfl ?_
      refine t_X7_sums_L77 hc (wp_bb h) ?_
      · intro y3 σ4 h
        refine r_iincE hc (j := 3) (w := 1) (lv' := [(4, .int (v + 1)), (0, .ref (ad x0)), (2, .int x2), (3, .int x3)]) rfl (by decide) rfl (by decide) rfl dX7_sums_121 ?_
        refine r_goto hc (tgt := 63) dX7_sums_124 (by decide) ?_
        refine r_sub [1, 2, 3, 0] (lv' := [(0, .ref (ad x0)), (2, .int x2), (3, .int x3), (4, .int (v + 1))]) rfl ?_
        have h := wp_v h
        exact kn (v + 1) _ h
noncomputable def f_X7_sums (x0 : Nat) (x1 : Int32) (x2 : Int32) (σ : Hp) : Option (Unit × Hp) := gO (getR shM 7 x0 0 σ) fun v1 => gO (aldI shM 0 v1 x1 σ) fun v2 => bO (wh (f_X7_sums_L10 x0 x1 x2 v2) 0 σ) fun y3 σ4 => (bO (wh (f_X7_sums_L63 x0 x2 v2) 0 σ4) fun y5 σ6 => (some ((), σ6)))
set_option maxRecDepth 100000 in
set_option maxHeartbeats 4000000 in
theorem t_X7_sums {l : Launch} {γ : Gm} {ad : Nat → Nat} {K : Option Value → Hp → Prop} (hc : Cx l γ 3 6 ad shM RX7 cX7_sums none K) {x0 : Nat} {x1 : Int32} {x2 : Int32} {σ : Hp} (h : wpO (f_X7_sums x0 x1 x2 σ) (KU K)) : WW l γ 3 6 ad shM 0 [(0, .ref (ad x0)), (1, .int x1), (2, .int x2)] [] σ := by
  unfold f_X7_sums at h
  refine r_aload_n hc 0 rfl rfl dX7_sums_0 ?_
  obtain ⟨v1, ev1, h⟩ := wp_g h
  refine r_getR hc ev1 fl_X7_7 rfl dX7_sums_1 ?_
  refine r_iload_n hc 1 rfl rfl dX7_sums_4 ?_
  obtain ⟨v2, ev2, h⟩ := wp_g h
  refine r_iald hc ev2 dX7_sums_5 ?_
  refine r_istore_nE hc (i := 3) (lv' := [(3, .int v2), (0, .ref (ad x0)), (1, .int x1), (2, .int x2)]) rfl rfl (by decide) rfl dX7_sums_6 ?_
  refine r_iconst hc (v := 0) (by decide) dX7_sums_7 ?_
  refine r_istoreE hc (i := 4) (lv' := [(4, .int 0), (3, .int v2), (0, .ref (ad x0)), (1, .int x1), (2, .int x2)]) rfl (by decide) rfl dX7_sums_8 ?_
  refine r_sub [2, 3, 4, 1, 0] (lv' := [(0, .ref (ad x0)), (1, .int x1), (2, .int x2), (3, .int v2), (4, .int 0)]) rfl ?_
  refine t_X7_sums_L10 hc (wp_bb h) ?_
  · intro y3 σ4 h
    refine r_iconst hc (v := 0) (by decide) dX7_sums_60 ?_
    refine r_istoreE hc (i := 4) (lv' := [(4, .int 0), (0, .ref (ad x0)), (2, .int x2), (3, .int v2)]) rfl (by decide) rfl dX7_sums_61 ?_
    refine r_sub [1, 2, 3, 0] (lv' := [(0, .ref (ad x0)), (2, .int x2), (3, .int v2), (4, .int 0)]) rfl ?_
    refine t_X7_sums_L63 hc (wp_bb h) ?_
    · intro y5 σ6 h
      have h := wp_v h
      exact r_vret hc h dX7_sums_127
theorem c_X7_sums {l : Launch} {x0 : Nat} {x1 : Int32} {x2 : Int32} {σ σ' : Hp} {r : Unit} (h : f_X7_sums x0 x1 x2 σ = some (r, σ')) : Mt l yX7_sums cX7_sums 6 none 3 shM (fun ad => [.ref (ad x0), .int x1, .int x2]) σ (fun ad => none) σ' := mt_i (own := RX7) (by decide) rfl (fun _ => Nat.le_of_ble_eq_true rfl) (fun γ ad K hc hk => t_X7_sums hc ⟨_, _, h, hk⟩)

-- NetMapsModel.products(II)V
theorem dX7_products_0 : decode cX7_products 0 = .ok (.aload_n 0, 1) := by decide +kernel
theorem dX7_products_1 : decode cX7_products 1 = .ok (.getfield 7, 3) := by decide +kernel
theorem dX7_products_4 : decode cX7_products 4 = .ok (.iload_n 2, 1) := by decide +kernel
theorem dX7_products_5 : decode cX7_products 5 = .ok (.iaload, 1) := by decide +kernel
theorem dX7_products_6 : decode cX7_products 6 = .ok (.istore_n 3, 1) := by decide +kernel
theorem dX7_products_7 : decode cX7_products 7 = .ok (.iconst 0, 1) := by decide +kernel
theorem dX7_products_8 : decode cX7_products 8 = .ok (.istore 4, 2) := by decide +kernel
theorem dX7_products_10 : decode cX7_products 10 = .ok (.iload 4, 2) := by decide +kernel
theorem dX7_products_12 : decode cX7_products 12 = .ok (.aload_n 0, 1) := by decide +kernel
theorem dX7_products_13 : decode cX7_products 13 = .ok (.getfield 7, 3) := by decide +kernel
theorem dX7_products_16 : decode cX7_products 16 = .ok (.iload_n 1, 1) := by decide +kernel
theorem dX7_products_17 : decode cX7_products 17 = .ok (.iaload, 1) := by decide +kernel
theorem dX7_products_18 : decode cX7_products 18 = .ok (.iload_n 3, 1) := by decide +kernel
theorem dX7_products_19 : decode cX7_products 19 = .ok (.imul, 1) := by decide +kernel
theorem dX7_products_20 : decode cX7_products 20 = .ok (.if_icmp .ge 74, 3) := by decide +kernel
theorem dX7_products_23 : decode cX7_products 23 = .ok (.iconst 0, 1) := by decide +kernel
theorem dX7_products_24 : decode cX7_products 24 = .ok (.istore 5, 2) := by decide +kernel
theorem dX7_products_26 : decode cX7_products 26 = .ok (.iload 5, 2) := by decide +kernel
theorem dX7_products_28 : decode cX7_products 28 = .ok (.aload_n 0, 1) := by decide +kernel
theorem dX7_products_29 : decode cX7_products 29 = .ok (.getfield 7, 3) := by decide +kernel
theorem dX7_products_32 : decode cX7_products 32 = .ok (.iload_n 1, 1) := by decide +kernel
theorem dX7_products_33 : decode cX7_products 33 = .ok (.iaload, 1) := by decide +kernel
theorem dX7_products_34 : decode cX7_products 34 = .ok (.iload_n 3, 1) := by decide +kernel
theorem dX7_products_35 : decode cX7_products 35 = .ok (.imul, 1) := by decide +kernel
theorem dX7_products_36 : decode cX7_products 36 = .ok (.if_icmp .ge 52, 3) := by decide +kernel
theorem dX7_products_39 : decode cX7_products 39 = .ok (.aload_n 0, 1) := by decide +kernel
theorem dX7_products_40 : decode cX7_products 40 = .ok (.iload_n 1, 1) := by decide +kernel
theorem dX7_products_41 : decode cX7_products 41 = .ok (.iload 4, 2) := by decide +kernel
theorem dX7_products_43 : decode cX7_products 43 = .ok (.iload_n 3, 1) := by decide +kernel
theorem dX7_products_44 : decode cX7_products 44 = .ok (.idiv, 1) := by decide +kernel
theorem dX7_products_45 : decode cX7_products 45 = .ok (.iload 5, 2) := by decide +kernel
theorem dX7_products_47 : decode cX7_products 47 = .ok (.iload_n 3, 1) := by decide +kernel
theorem dX7_products_48 : decode cX7_products 48 = .ok (.idiv, 1) := by decide +kernel
theorem dX7_products_49 : decode cX7_products 49 = .ok (.invokevirtual 125, 3) := by decide +kernel
theorem dX7_products_52 : decode cX7_products 52 = .ok (.ifCond .eq 30, 3) := by decide +kernel
theorem dX7_products_55 : decode cX7_products 55 = .ok (.aload_n 0, 1) := by decide +kernel
theorem dX7_products_56 : decode cX7_products 56 = .ok (.iload_n 2, 1) := by decide +kernel
theorem dX7_products_57 : decode cX7_products 57 = .ok (.iload 4, 2) := by decide +kernel
theorem dX7_products_59 : decode cX7_products 59 = .ok (.iload_n 3, 1) := by decide +kernel
theorem dX7_products_60 : decode cX7_products 60 = .ok (.irem, 1) := by decide +kernel
theorem dX7_products_61 : decode cX7_products 61 = .ok (.iload 5, 2) := by decide +kernel
theorem dX7_products_63 : decode cX7_products 63 = .ok (.iload_n 3, 1) := by decide +kernel
theorem dX7_products_64 : decode cX7_products 64 = .ok (.irem, 1) := by decide +kernel
theorem dX7_products_65 : decode cX7_products 65 = .ok (.invokevirtual 125, 3) := by decide +kernel
theorem dX7_products_68 : decode cX7_products 68 = .ok (.ifCond .eq 14, 3) := by decide +kernel
theorem dX7_products_71 : decode cX7_products 71 = .ok (.aload_n 0, 1) := by decide +kernel
theorem dX7_products_72 : decode cX7_products 72 = .ok (.bipush 7, 2) := by decide +kernel
theorem dX7_products_74 : decode cX7_products 74 = .ok (.iload 4, 2) := by decide +kernel
theorem dX7_products_76 : decode cX7_products 76 = .ok (.iload 5, 2) := by decide +kernel
theorem dX7_products_78 : decode cX7_products 78 = .ok (.iconst 1, 1) := by decide +kernel
theorem dX7_products_79 : decode cX7_products 79 = .ok (.invokevirtual 128, 3) := by decide +kernel
theorem dX7_products_82 : decode cX7_products 82 = .ok (.iinc 5 1, 3) := by decide +kernel
theorem dX7_products_85 : decode cX7_products 85 = .ok (.goto (-59), 3) := by decide +kernel
theorem dX7_products_88 : decode cX7_products 88 = .ok (.iinc 4 1, 3) := by decide +kernel
theorem dX7_products_91 : decode cX7_products 91 = .ok (.goto (-81), 3) := by decide +kernel
theorem dX7_products_94 : decode cX7_products 94 = .ok (.return_, 1) := by decide +kernel
noncomputable def f_X7_products_b82 (x0 : Nat) (x1 : Int32) (x2 : Int32) (x3 : Int32) (x4 : Int32) (x5 : Int32) (σ : Hp) : Option (((Int32) ⊕ (Unit)) × Hp) := some (Sum.inl (x5 + 1), σ)
set_option maxRecDepth 100000 in
set_option maxHeartbeats 4000000 in
theorem t_X7_products_b82 {l : Launch} {γ : Gm} {ad : Nat → Nat} {K : Option Value → Hp → Prop} (hc : Cx l γ 3 6 ad shM RX7 cX7_products none K) {x0 : Nat} {x1 : Int32} {x2 : Int32} {x3 : Int32} {x4 : Int32} {x5 : Int32}  {σ : Hp} {KL : ((Int32) ⊕ (Unit)) → Hp → Prop} (h : wpO (f_X7_products_b82 x0 x1 x2 x3 x4 x5 σ) KL) (kn : ∀ (v : (Int32)) (σ : Hp), KL (Sum.inl v) σ → WW l γ 3 6 ad shM 26 [(0, .ref (ad x0)), (1, .int x1), (2, .int x2), (3, .int x3), (4, .int x4), (5, .int v)] [] σ) (kx88 : ∀ (v : Unit) (σ : Hp), KL (Sum.inr v) σ → WW l γ 3 6 ad shM 88 [(0, .ref (ad x0)), (1, .int x1), (2, .int x2), (3, .int x3), (4, .int x4)] [] σ) : WW l γ 3 6 ad shM 82 [(0, .ref (ad x0)), (1, .int x1), (2, .int x2), (3, .int x3), (4, .int x4), (5, .int x5)] [] σ := by
  unfold f_X7_products_b82 at h
  refine r_iincE hc (j := 5) (w := 1) (lv' := [(5, .int (x5 + 1)), (0, .ref (ad x0)), (1, .int x1), (2, .int x2), (3, .int x3), (4, .int x4)]) rfl (by decide) rfl (by decide) rfl dX7_products_82 ?_
  refine r_goto hc (tgt := 26) dX7_products_85 (by decide) ?_
  refine r_sub [1, 2, 3, 4, 5, 0] (lv' := [(0, .ref (ad x0)), (1, .int x1), (2, .int x2), (3, .int x3), (4, .int x4), (5, .int (x5 + 1))]) rfl ?_
  have h := wp_v h
  exact kn (x5 + 1) _ h
noncomputable def f_X7_products_L26 (x0 : Nat) (x1 : Int32) (x2 : Int32) (x3 : Int32) (x4 : Int32) (v : (Int32)) (σ : Hp) : Option (((Int32) ⊕ (Unit)) × Hp) := gO (getR shM 7 x0 0 σ) fun v1 => gO (aldI shM 0 v1 x1 σ) fun v2 => if (v2 * x3) ≤ v then (some (Sum.inr (), σ)) else (gO (nz x3) fun z3 => gO (nz x3) fun z4 => gO (chk shM x0 7) fun _ => bO (f_X7_isLine x0 x1 (x4 / x3) (v / x3) σ) fun r5 σ6 => if r5 = 0 then (f_X7_products_b82 x0 x1 x2 x3 x4 v σ6) else (gO (nz x3) fun z8 => gO (nz x3) fun z9 => gO (chk shM x0 7) fun _ => bO (f_X7_isLine x0 x2 (irm x4 x3) (irm v x3) σ6) fun r10 σ11 => if r10 = 0 then (f_X7_products_b82 x0 x1 x2 x3 x4 v σ11) else (gO (chk shM x0 7) fun _ => bO (f_X7_sets x0 7 x4 v 1 σ11) fun _ σ14 => f_X7_products_b82 x0 x1 x2 x3 x4 v σ14)))
set_option maxRecDepth 100000 in
set_option maxHeartbeats 4000000 in
theorem t_X7_products_L26 {l : Launch} {γ : Gm} {ad : Nat → Nat} {K : Option Value → Hp → Prop}  (hc : Cx l γ 3 6 ad shM RX7 cX7_products none K) {x0 : Nat} {x1 : Int32} {x2 : Int32} {x3 : Int32} {x4 : Int32} {v : (Int32)} {σ : Hp} {KX : (Unit) → Hp → Prop} (h : wpO (wh (f_X7_products_L26 x0 x1 x2 x3 x4) v σ) KX) (kx88 : ∀ (v : Unit) (σ : Hp), KX v σ → WW l γ 3 6 ad shM 88 [(0, .ref (ad x0)), (1, .int x1), (2, .int x2), (3, .int x3), (4, .int x4)] [] σ) : WW l γ 3 6 ad shM 26 [(0, .ref (ad x0)), (1, .int x1), (2, .int x2), (3, .int x3), (4, .int x4), (5, .int v)] [] σ := by
  refine wh_W (P := fun v σ => WW l γ 3 6 ad shM 26 [(0, .ref (ad x0)), (1, .int x1), (2, .int x2), (3, .int x3), (4, .int x4), (5, .int v)] [] σ) (fun v σ h => ?_) h
  have kn : ∀ (v : (Int32)) (σ : Hp), WW l γ 3 6 ad shM 26 [(0, .ref (ad x0)), (1, .int x1), (2, .int x2), (3, .int x3), (4, .int x4), (5, .int v)] [] σ → WW l γ 3 6 ad shM 26 [(0, .ref (ad x0)), (1, .int x1), (2, .int x2), (3, .int x3), (4, .int x4), (5, .int v)] [] σ := fun _ _ h => h
  · unfold f_X7_products_L26 at h
    refine r_iload hc 5 rfl dX7_products_26 ?_
    refine r_aload_n hc 0 rfl rfl dX7_products_28 ?_
    obtain ⟨v1, ev1, h⟩ := wp_g h
    refine r_getR hc ev1 fl_X7_7 rfl dX7_products_29 ?_
    refine r_iload_n hc 1 rfl rfl dX7_products_32 ?_
    obtain ⟨v2, ev2, h⟩ := wp_g h
    refine r_iald hc ev2 dX7_products_33 ?_
    refine r_iload_n hc 3 rfl rfl dX7_products_34 ?_
    refine r_imul hc dX7_products_35 ?_
    refine r_icmp_ge hc (tgt := 88) dX7_products_36 (by decide) (fun c => ?_) (fun c => ?_)
    · have h := wp_t c h
      refine r_sub [0, 1, 2, 3, 4] (lv' := [(0, .ref (ad x0)), (1, .int x1), (2, .int x2), (3, .int x3), (4, .int x4)]) rfl ?_
      have h := wp_v h
      exact kx88 () _ h
    · have h := wp_f c h
      refine r_aload_n hc 0 rfl rfl dX7_products_39 ?_
      refine r_iload_n hc 1 rfl rfl dX7_products_40 ?_
      refine r_iload hc 4 rfl dX7_products_41 ?_
      refine r_iload_n hc 3 rfl rfl dX7_products_43 ?_
      obtain ⟨z3, ez3, h⟩ := wp_g h
      refine r_idiv hc ez3 dX7_products_44 ?_
      refine r_iload hc 5 rfl dX7_products_45 ?_
      refine r_iload_n hc 3 rfl rfl dX7_products_47 ?_
      obtain ⟨z4, ez4, h⟩ := wp_g h
      refine r_idiv hc ez4 dX7_products_48 ?_
      obtain ⟨_, ek7, h⟩ := wp_g h
      obtain ⟨r5, σ6, er5, h⟩ := wp_b h
      refine r_callV hc (k0 := x0) mv_X7_isLine ml_X7_125 (c_X7_isLine er5) (chk_of ek7) cls_7.1 rfl rfl rfl (by decide) rfl (Nat.le_of_ble_eq_true rfl) dX7_products_49 ?_
      refine r_if_eq hc (tgt := 82) dX7_products_52 (by decide) (fun c => ?_) (fun c => ?_)
      · have h := wp_t c h
        exact t_X7_products_b82 hc h kn kx88
      · have h := wp_f c h
        refine r_aload_n hc 0 rfl rfl dX7_products_55 ?_
        refine r_iload_n hc 2 rfl rfl dX7_products_56 ?_
        refine r_iload hc 4 rfl dX7_products_57 ?_
        refine r_iload_n hc 3 rfl rfl dX7_products_59 ?_
        obtain ⟨z8, ez8, h⟩ := wp_g h
        refine r_irem hc ez8 dX7_products_60 ?_
        refine r_iload hc 5 rfl dX7_products_61 ?_
        refine r_iload_n hc 3 rfl rfl dX7_products_63 ?_
        obtain ⟨z9, ez9, h⟩ := wp_g h
        refine r_irem hc ez9 dX7_products_64 ?_
        obtain ⟨_, ek12, h⟩ := wp_g h
        obtain ⟨r10, σ11, er10, h⟩ := wp_b h
        refine r_callV hc (k0 := x0) mv_X7_isLine ml_X7_125 (c_X7_isLine er10) (chk_of ek12) cls_7.1 rfl rfl rfl (by decide) rfl (Nat.le_of_ble_eq_true rfl) dX7_products_65 ?_
        refine r_if_eq hc (tgt := 82) dX7_products_68 (by decide) (fun c => ?_) (fun c => ?_)
        · have h := wp_t c h
          exact t_X7_products_b82 hc h kn kx88
        · have h := wp_f c h
          refine r_aload_n hc 0 rfl rfl dX7_products_71 ?_
          refine r_bipush hc (v := 7) (by decide) dX7_products_72 ?_
          refine r_iload hc 4 rfl dX7_products_74 ?_
          refine r_iload hc 5 rfl dX7_products_76 ?_
          refine r_iconst hc (v := 1) (by decide) dX7_products_78 ?_
          obtain ⟨_, ek15, h⟩ := wp_g h
          obtain ⟨_, σ14, er13, h⟩ := wp_b h
          refine r_callV hc (k0 := x0) mv_X7_sets ml_X7_128 (c_X7_sets er13) (chk_of ek15) cls_7.1 rfl rfl rfl (by decide) rfl (Nat.le_of_ble_eq_true rfl) dX7_products_79 ?_
          exact t_X7_products_b82 hc h kn kx88
noncomputable def f_X7_products_L10 (x0 : Nat) (x1 : Int32) (x2 : Int32) (x3 : Int32) (v : (Int32)) (σ : Hp) : Option (((Int32) ⊕ (Unit)) × Hp) := gO (getR shM 7 x0 0 σ) fun v1 => gO (aldI shM 0 v1 x1 σ) fun v2 => if (v2 * x3) ≤ v then (some (Sum.inr (), σ)) else (bO (wh (f_X7_products_L26 x0 x1 x2 x3 v) 0 σ) fun y3 σ4 => (some (Sum.inl (v + 1), σ4)))
set_option maxRecDepth 100000 in
set_option maxHeartbeats 4000000 in
theorem t_X7_products_L10 {l : Launch} {γ : Gm} {ad : Nat → Nat} {K : Option Value → Hp → Prop}  (hc : Cx l γ 3 6 ad shM RX7 cX7_products none K) {x0 : Nat} {x1 : Int32} {x2 : Int32} {x3 : Int32} {v : (Int32)} {σ : Hp} {KX : (Unit) → Hp → Prop} (h : wpO (wh (f_X7_products_L10 x0 x1 x2 x3) v σ) KX) (kx94 : ∀ (v : Unit) (σ : Hp), KX v σ → WW l γ 3 6 ad shM 94 [] [] σ) : WW l γ 3 6 ad shM 10 [(0, .ref (ad x0)), (1, .int x1), (2, .int x2), (3, .int x3), (4, .int v)] [] σ := by
  refine wh_W (P := fun v σ => WW l γ 3 6 ad shM 10 [(0, .ref (ad x0)), (1, .int x1), (2, .int x2), (3, .int x3), (4, .int v)] [] σ) (fun v σ h => ?_) h
  have kn : ∀ (v : (Int32)) (σ : Hp), WW l γ 3 6 ad shM 10 [(0, .ref (ad x0)), (1, .int x1), (2, .int x2), (3, .int x3), (4, .int v)] [] σ → WW l γ 3 6 ad shM 10 [(0, .ref (ad x0)), (1, .int x1), (2, .int x2), (3, .int x3), (4, .int v)] [] σ := fun _ _ h => h
  · unfold f_X7_products_L10 at h
    refine r_iload hc 4 rfl dX7_products_10 ?_
    refine r_aload_n hc 0 rfl rfl dX7_products_12 ?_
    obtain ⟨v1, ev1, h⟩ := wp_g h
    refine r_getR hc ev1 fl_X7_7 rfl dX7_products_13 ?_
    refine r_iload_n hc 1 rfl rfl dX7_products_16 ?_
    obtain ⟨v2, ev2, h⟩ := wp_g h
    refine r_iald hc ev2 dX7_products_17 ?_
    refine r_iload_n hc 3 rfl rfl dX7_products_18 ?_
    refine r_imul hc dX7_products_19 ?_
    refine r_icmp_ge hc (tgt := 94) dX7_products_20 (by decide) (fun c => ?_) (fun c => ?_)
    · have h := wp_t c h
      refine r_sub [] (lv' := []) rfl ?_
      have h := wp_v h
      exact kx94 () _ h
    · have h := wp_f c h
      refine r_iconst hc (v := 0) (by decide) dX7_products_23 ?_
      refine r_istoreE hc (i := 5) (lv' := [(5, .int 0), (0, .ref (ad x0)), (1, .int x1), (2, .int x2), (3, .int x3), (4, .int v)]) rfl (by decide) rfl dX7_products_24 ?_
      refine r_sub [1, 2, 3, 4, 5, 0] (lv' := [(0, .ref (ad x0)), (1, .int x1), (2, .int x2), (3, .int x3), (4, .int v), (5, .int 0)]) rfl ?_
      refine t_X7_products_L26 hc (wp_bb h) ?_
      · intro y3 σ4 h
        refine r_iincE hc (j := 4) (w := 1) (lv' := [(4, .int (v + 1)), (0, .ref (ad x0)), (1, .int x1), (2, .int x2), (3, .int x3)]) rfl (by decide) rfl (by decide) rfl dX7_products_88 ?_
        refine r_goto hc (tgt := 10) dX7_products_91 (by decide) ?_
        refine r_sub [1, 2, 3, 4, 0] (lv' := [(0, .ref (ad x0)), (1, .int x1), (2, .int x2), (3, .int x3), (4, .int (v + 1))]) rfl ?_
        have h := wp_v h
        exact kn (v + 1) _ h
noncomputable def f_X7_products (x0 : Nat) (x1 : Int32) (x2 : Int32) (σ : Hp) : Option (Unit × Hp) := gO (getR shM 7 x0 0 σ) fun v1 => gO (aldI shM 0 v1 x2 σ) fun v2 => bO (wh (f_X7_products_L10 x0 x1 x2 v2) 0 σ) fun y3 σ4 => (some ((), σ4))
set_option maxRecDepth 100000 in
set_option maxHeartbeats 4000000 in
theorem t_X7_products {l : Launch} {γ : Gm} {ad : Nat → Nat} {K : Option Value → Hp → Prop} (hc : Cx l γ 3 6 ad shM RX7 cX7_products none K) {x0 : Nat} {x1 : Int32} {x2 : Int32} {σ : Hp} (h : wpO (f_X7_products x0 x1 x2 σ) (KU K)) : WW l γ 3 6 ad shM 0 [(0, .ref (ad x0)), (1, .int x1), (2, .int x2)] [] σ := by
  unfold f_X7_products at h
  refine r_aload_n hc 0 rfl rfl dX7_products_0 ?_
  obtain ⟨v1, ev1, h⟩ := wp_g h
  refine r_getR hc ev1 fl_X7_7 rfl dX7_products_1 ?_
  refine r_iload_n hc 2 rfl rfl dX7_products_4 ?_
  obtain ⟨v2, ev2, h⟩ := wp_g h
  refine r_iald hc ev2 dX7_products_5 ?_
  refine r_istore_nE hc (i := 3) (lv' := [(3, .int v2), (0, .ref (ad x0)), (1, .int x1), (2, .int x2)]) rfl rfl (by decide) rfl dX7_products_6 ?_
  refine r_iconst hc (v := 0) (by decide) dX7_products_7 ?_
  refine r_istoreE hc (i := 4) (lv' := [(4, .int 0), (3, .int v2), (0, .ref (ad x0)), (1, .int x1), (2, .int x2)]) rfl (by decide) rfl dX7_products_8 ?_
  refine r_sub [2, 3, 4, 1, 0] (lv' := [(0, .ref (ad x0)), (1, .int x1), (2, .int x2), (3, .int v2), (4, .int 0)]) rfl ?_
  refine t_X7_products_L10 hc (wp_bb h) ?_
  · intro y3 σ4 h
    have h := wp_v h
    exact r_vret hc h dX7_products_94
theorem c_X7_products {l : Launch} {x0 : Nat} {x1 : Int32} {x2 : Int32} {σ σ' : Hp} {r : Unit} (h : f_X7_products x0 x1 x2 σ = some (r, σ')) : Mt l yX7_products cX7_products 6 none 3 shM (fun ad => [.ref (ad x0), .int x1, .int x2]) σ (fun ad => none) σ' := mt_i (own := RX7) (by decide) rfl (fun _ => Nat.le_of_ble_eq_true rfl) (fun γ ad K hc hk => t_X7_products hc ⟨_, _, h, hk⟩)

-- NetMapsModel.powerOf(II)I
theorem dX7_powerOf_0 : decode cX7_powerOf 0 = .ok (.iconst 1, 1) := by decide +kernel
theorem dX7_powerOf_1 : decode cX7_powerOf 1 = .ok (.istore_n 3, 1) := by decide +kernel
theorem dX7_powerOf_2 : decode cX7_powerOf 2 = .ok (.iconst 0, 1) := by decide +kernel
theorem dX7_powerOf_3 : decode cX7_powerOf 3 = .ok (.istore 4, 2) := by decide +kernel
theorem dX7_powerOf_5 : decode cX7_powerOf 5 = .ok (.iload 4, 2) := by decide +kernel
theorem dX7_powerOf_7 : decode cX7_powerOf 7 = .ok (.aload_n 0, 1) := by decide +kernel
theorem dX7_powerOf_8 : decode cX7_powerOf 8 = .ok (.getfield 7, 3) := by decide +kernel
theorem dX7_powerOf_11 : decode cX7_powerOf 11 = .ok (.iload_n 2, 1) := by decide +kernel
theorem dX7_powerOf_12 : decode cX7_powerOf 12 = .ok (.iaload, 1) := by decide +kernel
theorem dX7_powerOf_13 : decode cX7_powerOf 13 = .ok (.if_icmp .ge 36, 3) := by decide +kernel
theorem dX7_powerOf_16 : decode cX7_powerOf 16 = .ok (.iload_n 3, 1) := by decide +kernel
theorem dX7_powerOf_17 : decode cX7_powerOf 17 = .ok (.aload_n 0, 1) := by decide +kernel
theorem dX7_powerOf_18 : decode cX7_powerOf 18 = .ok (.getfield 7, 3) := by decide +kernel
theorem dX7_powerOf_21 : decode cX7_powerOf 21 = .ok (.iload_n 1, 1) := by decide +kernel
theorem dX7_powerOf_22 : decode cX7_powerOf 22 = .ok (.iaload, 1) := by decide +kernel
theorem dX7_powerOf_23 : decode cX7_powerOf 23 = .ok (.imul, 1) := by decide +kernel
theorem dX7_powerOf_24 : decode cX7_powerOf 24 = .ok (.bipush 7, 2) := by decide +kernel
theorem dX7_powerOf_26 : decode cX7_powerOf 26 = .ok (.if_icmp .le 8, 3) := by decide +kernel
theorem dX7_powerOf_29 : decode cX7_powerOf 29 = .ok (.bipush 8, 2) := by decide +kernel
theorem dX7_powerOf_31 : decode cX7_powerOf 31 = .ok (.goto 11, 3) := by decide +kernel
theorem dX7_powerOf_34 : decode cX7_powerOf 34 = .ok (.iload_n 3, 1) := by decide +kernel
theorem dX7_powerOf_35 : decode cX7_powerOf 35 = .ok (.aload_n 0, 1) := by decide +kernel
theorem dX7_powerOf_36 : decode cX7_powerOf 36 = .ok (.getfield 7, 3) := by decide +kernel
theorem dX7_powerOf_39 : decode cX7_powerOf 39 = .ok (.iload_n 1, 1) := by decide +kernel
theorem dX7_powerOf_40 : decode cX7_powerOf 40 = .ok (.iaload, 1) := by decide +kernel
theorem dX7_powerOf_41 : decode cX7_powerOf 41 = .ok (.imul, 1) := by decide +kernel
theorem dX7_powerOf_42 : decode cX7_powerOf 42 = .ok (.istore_n 3, 1) := by decide +kernel
theorem dX7_powerOf_43 : decode cX7_powerOf 43 = .ok (.iinc 4 1, 3) := by decide +kernel
theorem dX7_powerOf_46 : decode cX7_powerOf 46 = .ok (.goto (-41), 3) := by decide +kernel
theorem dX7_powerOf_49 : decode cX7_powerOf 49 = .ok (.iload_n 3, 1) := by decide +kernel
theorem dX7_powerOf_50 : decode cX7_powerOf 50 = .ok (.ireturn, 1) := by decide +kernel
noncomputable def f_X7_powerOf_b42 (x0 : Nat) (x1 : Int32) (x2 : Int32) (x4 : Int32) (s0 : Int32) (σ : Hp) : Option (((Int32 × Int32) ⊕ (Int32)) × Hp) := some (Sum.inl (s0, (x4 + 1)), σ)
set_option maxRecDepth 100000 in
set_option maxHeartbeats 4000000 in
theorem t_X7_powerOf_b42 {l : Launch} {γ : Gm} {ad : Nat → Nat} {K : Option Value → Hp → Prop} (hc : Cx l γ 1 5 ad shM RX7 cX7_powerOf (some .int) K) {x0 : Nat} {x1 : Int32} {x2 : Int32} {x4 : Int32} {s0 : Int32}  {σ : Hp} {KL : ((Int32 × Int32) ⊕ (Int32)) → Hp → Prop} (h : wpO (f_X7_powerOf_b42 x0 x1 x2 x4 s0 σ) KL) (kn : ∀ (v : (Int32 × Int32)) (σ : Hp), KL (Sum.inl v) σ → WW l γ 1 5 ad shM 5 [(0, .ref (ad x0)), (1, .int x1), (2, .int x2), (3, .int v.1), (4, .int v.2)] [] σ) (kx49 : ∀ (v : Int32) (σ : Hp), KL (Sum.inr v) σ → WW l γ 1 5 ad shM 49 [(3, .int v)] [] σ) : WW l γ 1 5 ad shM 42 [(0, .ref (ad x0)), (1, .int x1), (2, .int x2), (4, .int x4)] [.int s0] σ := by
  unfold f_X7_powerOf_b42 at h
  refine r_istore_nE hc (i := 3) (lv' := [(3, .int s0), (0, .ref (ad x0)), (1, .int x1), (2, .int x2), (4, .int x4)]) rfl rfl (by decide) rfl dX7_powerOf_42 ?_
  refine r_iincE hc (j := 4) (w := 1) (lv' := [(4, .int (x4 + 1)), (3, .int s0), (0, .ref (ad x0)), (1, .int x1), (2, .int x2)]) rfl (by decide) rfl (by decide) rfl dX7_powerOf_43 ?_
  refine r_goto hc (tgt := 5) dX7_powerOf_46 (by decide) ?_
  refine r_sub [2, 3, 4, 1, 0] (lv' := [(0, .ref (ad x0)), (1, .int x1), (2, .int x2), (3, .int s0), (4, .int (x4 + 1))]) rfl ?_
  have h := wp_v h
  exact kn (s0, (x4 + 1)) _ h
noncomputable def f_X7_powerOf_L5 (x0 : Nat) (x1 : Int32) (x2 : Int32) (v : (Int32 × Int32)) (σ : Hp) : Option (((Int32 × Int32) ⊕ (Int32)) × Hp) := gO (getR shM 7 x0 0 σ) fun v1 => gO (aldI shM 0 v1 x2 σ) fun v2 => if v2 ≤ v.2 then (some (Sum.inr v.1, σ)) else (gO (getR shM 7 x0 0 σ) fun v3 => gO (aldI shM 0 v3 x1 σ) fun v4 => if (v.1 * v4) ≤ 7 then (gO (getR shM 7 x0 0 σ) fun v5 => gO (aldI shM 0 v5 x1 σ) fun v6 => f_X7_powerOf_b42 x0 x1 x2 v.2 (v.1 * v6) σ) else (f_X7_powerOf_b42 x0 x1 x2 v.2 8 σ))
set_option maxRecDepth 100000 in
set_option maxHeartbeats 4000000 in
theorem t_X7_powerOf_L5 {l : Launch} {γ : Gm} {ad : Nat → Nat} {K : Option Value → Hp → Prop}  (hc : Cx l γ 1 5 ad shM RX7 cX7_powerOf (some .int) K) {x0 : Nat} {x1 : Int32} {x2 : Int32} {v : (Int32 × Int32)} {σ : Hp} {KX : (Int32) → Hp → Prop} (h : wpO (wh (f_X7_powerOf_L5 x0 x1 x2) v σ) KX) (kx49 : ∀ (v : Int32) (σ : Hp), KX v σ → WW l γ 1 5 ad shM 49 [(3, .int v)] [] σ) : WW l γ 1 5 ad shM 5 [(0, .ref (ad x0)), (1, .int x1), (2, .int x2), (3, .int v.1), (4, .int v.2)] [] σ := by
  refine wh_W (P := fun v σ => WW l γ 1 5 ad shM 5 [(0, .ref (ad x0)), (1, .int x1), (2, .int x2), (3, .int v.1), (4, .int v.2)] [] σ) (fun v σ h => ?_) h
  have kn : ∀ (v : (Int32 × Int32)) (σ : Hp), WW l γ 1 5 ad shM 5 [(0, .ref (ad x0)), (1, .int x1), (2, .int x2), (3, .int v.1), (4, .int v.2)] [] σ → WW l γ 1 5 ad shM 5 [(0, .ref (ad x0)), (1, .int x1), (2, .int x2), (3, .int v.1), (4, .int v.2)] [] σ := fun _ _ h => h
  · unfold f_X7_powerOf_L5 at h
    refine r_iload hc 4 rfl dX7_powerOf_5 ?_
    refine r_aload_n hc 0 rfl rfl dX7_powerOf_7 ?_
    obtain ⟨v1, ev1, h⟩ := wp_g h
    refine r_getR hc ev1 fl_X7_7 rfl dX7_powerOf_8 ?_
    refine r_iload_n hc 2 rfl rfl dX7_powerOf_11 ?_
    obtain ⟨v2, ev2, h⟩ := wp_g h
    refine r_iald hc ev2 dX7_powerOf_12 ?_
    refine r_icmp_ge hc (tgt := 49) dX7_powerOf_13 (by decide) (fun c => ?_) (fun c => ?_)
    · have h := wp_t c h
      refine r_sub [3] (lv' := [(3, .int v.1)]) rfl ?_
      have h := wp_v h
      exact kx49 v.1 _ h
    · have h := wp_f c h
      refine r_iload_n hc 3 rfl rfl dX7_powerOf_16 ?_
      refine r_aload_n hc 0 rfl rfl dX7_powerOf_17 ?_
      obtain ⟨v3, ev3, h⟩ := wp_g h
      refine r_getR hc ev3 fl_X7_7 rfl dX7_powerOf_18 ?_
      refine r_iload_n hc 1 rfl rfl dX7_powerOf_21 ?_
      obtain ⟨v4, ev4, h⟩ := wp_g h
      refine r_iald hc ev4 dX7_powerOf_22 ?_
      refine r_imul hc dX7_powerOf_23 ?_
      refine r_bipush hc (v := 7) (by decide) dX7_powerOf_24 ?_
      refine r_icmp_le hc (tgt := 34) dX7_powerOf_26 (by decide) (fun c => ?_) (fun c => ?_)
      · have h := wp_t c h
        refine r_iload_n hc 3 rfl rfl dX7_powerOf_34 ?_
        refine r_aload_n hc 0 rfl rfl dX7_powerOf_35 ?_
        obtain ⟨v5, ev5, h⟩ := wp_g h
        refine r_getR hc ev5 fl_X7_7 rfl dX7_powerOf_36 ?_
        refine r_iload_n hc 1 rfl rfl dX7_powerOf_39 ?_
        obtain ⟨v6, ev6, h⟩ := wp_g h
        refine r_iald hc ev6 dX7_powerOf_40 ?_
        refine r_imul hc dX7_powerOf_41 ?_
        refine r_sub [0, 1, 2, 4] (lv' := [(0, .ref (ad x0)), (1, .int x1), (2, .int x2), (4, .int v.2)]) rfl ?_
        exact t_X7_powerOf_b42 hc h kn kx49
      · have h := wp_f c h
        refine r_bipush hc (v := 8) (by decide) dX7_powerOf_29 ?_
        refine r_goto hc (tgt := 42) dX7_powerOf_31 (by decide) ?_
        refine r_sub [0, 1, 2, 4] (lv' := [(0, .ref (ad x0)), (1, .int x1), (2, .int x2), (4, .int v.2)]) rfl ?_
        exact t_X7_powerOf_b42 hc h kn kx49
noncomputable def f_X7_powerOf (x0 : Nat) (x1 : Int32) (x2 : Int32) (σ : Hp) : Option (Int32 × Hp) := bO (wh (f_X7_powerOf_L5 x0 x1 x2) (1, 0) σ) fun y1 σ2 => (some (y1, σ2))
set_option maxRecDepth 100000 in
set_option maxHeartbeats 4000000 in
theorem t_X7_powerOf {l : Launch} {γ : Gm} {ad : Nat → Nat} {K : Option Value → Hp → Prop} (hc : Cx l γ 1 5 ad shM RX7 cX7_powerOf (some .int) K) {x0 : Nat} {x1 : Int32} {x2 : Int32} {σ : Hp} (h : wpO (f_X7_powerOf x0 x1 x2 σ) (KI K)) : WW l γ 1 5 ad shM 0 [(0, .ref (ad x0)), (1, .int x1), (2, .int x2)] [] σ := by
  unfold f_X7_powerOf at h
  refine r_iconst hc (v := 1) (by decide) dX7_powerOf_0 ?_
  refine r_istore_nE hc (i := 3) (lv' := [(3, .int 1), (0, .ref (ad x0)), (1, .int x1), (2, .int x2)]) rfl rfl (by decide) rfl dX7_powerOf_1 ?_
  refine r_iconst hc (v := 0) (by decide) dX7_powerOf_2 ?_
  refine r_istoreE hc (i := 4) (lv' := [(4, .int 0), (3, .int 1), (0, .ref (ad x0)), (1, .int x1), (2, .int x2)]) rfl (by decide) rfl dX7_powerOf_3 ?_
  refine r_sub [2, 3, 4, 1, 0] (lv' := [(0, .ref (ad x0)), (1, .int x1), (2, .int x2), (3, .int 1), (4, .int 0)]) rfl ?_
  refine t_X7_powerOf_L5 hc (wp_bb h) ?_
  · intro y1 σ2 h
    refine r_iload_n hc 0 rfl rfl dX7_powerOf_49 ?_
    have h := wp_v h
    exact r_iret hc h dX7_powerOf_50
theorem c_X7_powerOf {l : Launch} {x0 : Nat} {x1 : Int32} {x2 : Int32} {σ σ' : Hp} {r : Int32} (h : f_X7_powerOf x0 x1 x2 σ = some (r, σ')) : Mt l yX7_powerOf cX7_powerOf 5 (some .int) 1 shM (fun ad => [.ref (ad x0), .int x1, .int x2]) σ (fun ad => some (.int r)) σ' := mt_i (own := RX7) (by decide) rfl (fun _ => Nat.le_of_ble_eq_true rfl) (fun γ ad K hc hk => t_X7_powerOf hc ⟨_, _, h, hk⟩)

-- NetMapsModel.placeOf(IIII)I
theorem dX7_placeOf_0 : decode cX7_placeOf 0 = .ok (.iload_n 0, 1) := by decide +kernel
theorem dX7_placeOf_1 : decode cX7_placeOf 1 = .ok (.istore 4, 2) := by decide +kernel
theorem dX7_placeOf_3 : decode cX7_placeOf 3 = .ok (.iload_n 2, 1) := by decide +kernel
theorem dX7_placeOf_4 : decode cX7_placeOf 4 = .ok (.iconst 1, 1) := by decide +kernel
theorem dX7_placeOf_5 : decode cX7_placeOf 5 = .ok (.isub, 1) := by decide +kernel
theorem dX7_placeOf_6 : decode cX7_placeOf 6 = .ok (.istore 5, 2) := by decide +kernel
theorem dX7_placeOf_8 : decode cX7_placeOf 8 = .ok (.iload 5, 2) := by decide +kernel
theorem dX7_placeOf_10 : decode cX7_placeOf 10 = .ok (.iload_n 1, 1) := by decide +kernel
theorem dX7_placeOf_11 : decode cX7_placeOf 11 = .ok (.if_icmp .le 15, 3) := by decide +kernel
theorem dX7_placeOf_14 : decode cX7_placeOf 14 = .ok (.iload 4, 2) := by decide +kernel
theorem dX7_placeOf_16 : decode cX7_placeOf 16 = .ok (.iload_n 3, 1) := by decide +kernel
theorem dX7_placeOf_17 : decode cX7_placeOf 17 = .ok (.idiv, 1) := by decide +kernel
theorem dX7_placeOf_18 : decode cX7_placeOf 18 = .ok (.istore 4, 2) := by decide +kernel
theorem dX7_placeOf_20 : decode cX7_placeOf 20 = .ok (.iinc 5 (-1), 3) := by decide +kernel
theorem dX7_placeOf_23 : decode cX7_placeOf 23 = .ok (.goto (-15), 3) := by decide +kernel
theorem dX7_placeOf_26 : decode cX7_placeOf 26 = .ok (.iload 4, 2) := by decide +kernel
theorem dX7_placeOf_28 : decode cX7_placeOf 28 = .ok (.iload_n 3, 1) := by decide +kernel
theorem dX7_placeOf_29 : decode cX7_placeOf 29 = .ok (.irem, 1) := by decide +kernel
theorem dX7_placeOf_30 : decode cX7_placeOf 30 = .ok (.ireturn, 1) := by decide +kernel
noncomputable def f_X7_placeOf_L8 (x1 : Int32) (x3 : Int32) (v : (Int32 × Int32)) (σ : Hp) : Option (((Int32 × Int32) ⊕ (Int32)) × Hp) := if v.2 ≤ x1 then (some (Sum.inr v.1, σ)) else (gO (nz x3) fun z1 => some (Sum.inl ((v.1 / x3), (v.2 + (-1))), σ))
set_option maxRecDepth 100000 in
set_option maxHeartbeats 4000000 in
theorem t_X7_placeOf_L8 {l : Launch} {γ : Gm} {ad : Nat → Nat} {K : Option Value → Hp → Prop}  (hc : Cx l γ 1 6 ad shM RX7 cX7_placeOf (some .int) K) {x1 : Int32} {x3 : Int32} {v : (Int32 × Int32)} {σ : Hp} {KX : (Int32) → Hp → Prop} (h : wpO (wh (f_X7_placeOf_L8 x1 x3) v σ) KX) (kx26 : ∀ (v : Int32) (σ : Hp), KX v σ → WW l γ 1 6 ad shM 26 [(3, .int x3), (4, .int v)] [] σ) : WW l γ 1 6 ad shM 8 [(1, .int x1), (3, .int x3), (4, .int v.1), (5, .int v.2)] [] σ := by
  refine wh_W (P := fun v σ => WW l γ 1 6 ad shM 8 [(1, .int x1), (3, .int x3), (4, .int v.1), (5, .int v.2)] [] σ) (fun v σ h => ?_) h
  have kn : ∀ (v : (Int32 × Int32)) (σ : Hp), WW l γ 1 6 ad shM 8 [(1, .int x1), (3, .int x3), (4, .int v.1), (5, .int v.2)] [] σ → WW l γ 1 6 ad shM 8 [(1, .int x1), (3, .int x3), (4, .int v.1), (5, .int v.2)] [] σ := fun _ _ h => h
  · unfold f_X7_placeOf_L8 at h
    refine r_iload hc 3 rfl dX7_placeOf_8 ?_
    refine r_iload_n hc 0 rfl rfl dX7_placeOf_10 ?_
    refine r_icmp_le hc (tgt := 26) dX7_placeOf_11 (by decide) (fun c => ?_) (fun c => ?_)
    · have h := wp_t c h
      refine r_sub [1, 2] (lv' := [(3, .int x3), (4, .int v.1)]) rfl ?_
      have h := wp_v h
      exact kx26 v.1 _ h
    · have h := wp_f c h
      refine r_iload hc 2 rfl dX7_placeOf_14 ?_
      refine r_iload_n hc 1 rfl rfl dX7_placeOf_16 ?_
      obtain ⟨z1, ez1, h⟩ := wp_g h
      refine r_idiv hc ez1 dX7_placeOf_17 ?_
      refine r_istoreE hc (i := 4) (lv' := [(4, .int (v.1 / x3)), (1, .int x1), (3, .int x3), (5, .int v.2)]) rfl (by decide) rfl dX7_placeOf_18 ?_
      refine r_iincE hc (j := 3) (w := (-1)) (lv' := [(5, .int (v.2 + (-1))), (4, .int (v.1 / x3)), (1, .int x1), (3, .int x3)]) rfl (by decide) rfl (by decide) rfl dX7_placeOf_20 ?_
      refine r_goto hc (tgt := 8) dX7_placeOf_23 (by decide) ?_
      refine r_sub [2, 3, 1, 0] (lv' := [(1, .int x1), (3, .int x3), (4, .int (v.1 / x3)), (5, .int (v.2 + (-1)))]) rfl ?_
      have h := wp_v h
      exact kn ((v.1 / x3), (v.2 + (-1))) _ h
noncomputable def f_X7_placeOf (x0 : Int32) (x1 : Int32) (x2 : Int32) (x3 : Int32) (σ : Hp) : Option (Int32 × Hp) := bO (wh (f_X7_placeOf_L8 x1 x3) (x0, (x2 - 1)) σ) fun y1 σ2 => (gO (nz x3) fun z3 => some ((irm y1 x3), σ2))
set_option maxRecDepth 100000 in
set_option maxHeartbeats 4000000 in
theorem t_X7_placeOf {l : Launch} {γ : Gm} {ad : Nat → Nat} {K : Option Value → Hp → Prop} (hc : Cx l γ 1 6 ad shM RX7 cX7_placeOf (some .int) K) {x0 : Int32} {x1 : Int32} {x2 : Int32} {x3 : Int32} {σ : Hp} (h : wpO (f_X7_placeOf x0 x1 x2 x3 σ) (KI K)) : WW l γ 1 6 ad shM 0 [(0, .int x0), (1, .int x1), (2, .int x2), (3, .int x3)] [] σ := by
  unfold f_X7_placeOf at h
  refine r_iload_n hc 0 rfl rfl dX7_placeOf_0 ?_
  refine r_istoreE hc (i := 4) (lv' := [(4, .int x0), (0, .int x0), (1, .int x1), (2, .int x2), (3, .int x3)]) rfl (by decide) rfl dX7_placeOf_1 ?_
  refine r_iload_n hc 3 rfl rfl dX7_placeOf_3 ?_
  refine r_iconst hc (v := 1) (by decide) dX7_placeOf_4 ?_
  refine r_isub hc dX7_placeOf_5 ?_
  refine r_istoreE hc (i := 5) (lv' := [(5, .int (x2 - 1)), (4, .int x0), (0, .int x0), (1, .int x1), (2, .int x2), (3, .int x3)]) rfl (by decide) rfl dX7_placeOf_6 ?_
  refine r_sub [3, 5, 1, 0] (lv' := [(1, .int x1), (3, .int x3), (4, .int x0), (5, .int (x2 - 1))]) rfl ?_
  refine t_X7_placeOf_L8 hc (wp_bb h) ?_
  · intro y1 σ2 h
    refine r_iload hc 1 rfl dX7_placeOf_26 ?_
    refine r_iload_n hc 0 rfl rfl dX7_placeOf_28 ?_
    obtain ⟨z3, ez3, h⟩ := wp_g h
    refine r_irem hc ez3 dX7_placeOf_29 ?_
    have h := wp_v h
    exact r_iret hc h dX7_placeOf_30
theorem c_X7_placeOf {l : Launch} {x0 : Int32} {x1 : Int32} {x2 : Int32} {x3 : Int32} {σ σ' : Hp} {r : Int32} (h : f_X7_placeOf x0 x1 x2 x3 σ = some (r, σ')) : Mt l yX7_placeOf cX7_placeOf 6 (some .int) 1 shM (fun ad => [.int x0, .int x1, .int x2, .int x3]) σ (fun ad => some (.int r)) σ' := mt_i (own := RX7) (by decide) rfl (fun _ => Nat.le_of_ble_eq_true rfl) (fun γ ad K hc hk => t_X7_placeOf hc ⟨_, _, h, hk⟩)

-- NetMapsModel.goesOn(IIII)Z
theorem dX7_goesOn_0 : decode cX7_goesOn 0 = .ok (.aload_n 0, 1) := by decide +kernel
theorem dX7_goesOn_1 : decode cX7_goesOn 1 = .ok (.getfield 7, 3) := by decide +kernel
theorem dX7_goesOn_4 : decode cX7_goesOn 4 = .ok (.iload_n 2, 1) := by decide +kernel
theorem dX7_goesOn_5 : decode cX7_goesOn 5 = .ok (.iaload, 1) := by decide +kernel
theorem dX7_goesOn_6 : decode cX7_goesOn 6 = .ok (.istore 5, 2) := by decide +kernel
theorem dX7_goesOn_8 : decode cX7_goesOn 8 = .ok (.iconst 0, 1) := by decide +kernel
theorem dX7_goesOn_9 : decode cX7_goesOn 9 = .ok (.istore 6, 2) := by decide +kernel
theorem dX7_goesOn_11 : decode cX7_goesOn 11 = .ok (.iload 6, 2) := by decide +kernel
theorem dX7_goesOn_13 : decode cX7_goesOn 13 = .ok (.iload 5, 2) := by decide +kernel
theorem dX7_goesOn_15 : decode cX7_goesOn 15 = .ok (.if_icmp .ge 76, 3) := by decide +kernel
theorem dX7_goesOn_18 : decode cX7_goesOn 18 = .ok (.iconst 0, 1) := by decide +kernel
theorem dX7_goesOn_19 : decode cX7_goesOn 19 = .ok (.istore 7, 2) := by decide +kernel
theorem dX7_goesOn_21 : decode cX7_goesOn 21 = .ok (.iload 7, 2) := by decide +kernel
theorem dX7_goesOn_23 : decode cX7_goesOn 23 = .ok (.iload 5, 2) := by decide +kernel
theorem dX7_goesOn_25 : decode cX7_goesOn 25 = .ok (.if_icmp .ge 60, 3) := by decide +kernel
theorem dX7_goesOn_28 : decode cX7_goesOn 28 = .ok (.aload_n 0, 1) := by decide +kernel
theorem dX7_goesOn_29 : decode cX7_goesOn 29 = .ok (.iload_n 2, 1) := by decide +kernel
theorem dX7_goesOn_30 : decode cX7_goesOn 30 = .ok (.iload 6, 2) := by decide +kernel
theorem dX7_goesOn_32 : decode cX7_goesOn 32 = .ok (.iload 7, 2) := by decide +kernel
theorem dX7_goesOn_34 : decode cX7_goesOn 34 = .ok (.invokevirtual 125, 3) := by decide +kernel
theorem dX7_goesOn_37 : decode cX7_goesOn 37 = .ok (.ifCond .eq 42, 3) := by decide +kernel
theorem dX7_goesOn_40 : decode cX7_goesOn 40 = .ok (.aload_n 0, 1) := by decide +kernel
theorem dX7_goesOn_41 : decode cX7_goesOn 41 = .ok (.iload_n 1, 1) := by decide +kernel
theorem dX7_goesOn_42 : decode cX7_goesOn 42 = .ok (.iload_n 3, 1) := by decide +kernel
theorem dX7_goesOn_43 : decode cX7_goesOn 43 = .ok (.iload 6, 2) := by decide +kernel
theorem dX7_goesOn_45 : decode cX7_goesOn 45 = .ok (.iload 5, 2) := by decide +kernel
theorem dX7_goesOn_47 : decode cX7_goesOn 47 = .ok (.aload_n 0, 1) := by decide +kernel
theorem dX7_goesOn_48 : decode cX7_goesOn 48 = .ok (.getfield 7, 3) := by decide +kernel
theorem dX7_goesOn_51 : decode cX7_goesOn 51 = .ok (.iload_n 1, 1) := by decide +kernel
theorem dX7_goesOn_52 : decode cX7_goesOn 52 = .ok (.iaload, 1) := by decide +kernel
theorem dX7_goesOn_53 : decode cX7_goesOn 53 = .ok (.invokestatic 170, 3) := by decide +kernel
theorem dX7_goesOn_56 : decode cX7_goesOn 56 = .ok (.iload 4, 2) := by decide +kernel
theorem dX7_goesOn_58 : decode cX7_goesOn 58 = .ok (.iload 7, 2) := by decide +kernel
theorem dX7_goesOn_60 : decode cX7_goesOn 60 = .ok (.iload 5, 2) := by decide +kernel
theorem dX7_goesOn_62 : decode cX7_goesOn 62 = .ok (.aload_n 0, 1) := by decide +kernel
theorem dX7_goesOn_63 : decode cX7_goesOn 63 = .ok (.getfield 7, 3) := by decide +kernel
theorem dX7_goesOn_66 : decode cX7_goesOn 66 = .ok (.iload_n 1, 1) := by decide +kernel
theorem dX7_goesOn_67 : decode cX7_goesOn 67 = .ok (.iaload, 1) := by decide +kernel
theorem dX7_goesOn_68 : decode cX7_goesOn 68 = .ok (.invokestatic 170, 3) := by decide +kernel
theorem dX7_goesOn_71 : decode cX7_goesOn 71 = .ok (.invokevirtual 125, 3) := by decide +kernel
theorem dX7_goesOn_74 : decode cX7_goesOn 74 = .ok (.ifCond .ne 5, 3) := by decide +kernel
theorem dX7_goesOn_77 : decode cX7_goesOn 77 = .ok (.iconst 0, 1) := by decide +kernel
theorem dX7_goesOn_78 : decode cX7_goesOn 78 = .ok (.ireturn, 1) := by decide +kernel
theorem dX7_goesOn_79 : decode cX7_goesOn 79 = .ok (.iinc 7 1, 3) := by decide +kernel
theorem dX7_goesOn_82 : decode cX7_goesOn 82 = .ok (.goto (-61), 3) := by decide +kernel
theorem dX7_goesOn_85 : decode cX7_goesOn 85 = .ok (.iinc 6 1, 3) := by decide +kernel
theorem dX7_goesOn_88 : decode cX7_goesOn 88 = .ok (.goto (-77), 3) := by decide +kernel
theorem dX7_goesOn_91 : decode cX7_goesOn 91 = .ok (.iconst 1, 1) := by decide +kernel
theorem dX7_goesOn_92 : decode cX7_goesOn 92 = .ok (.ireturn, 1) := by decide +kernel
noncomputable def f_X7_goesOn_b79 (x0 : Nat) (x1 : Int32) (x2 : Int32) (x3 : Int32) (x4 : Int32) (x5 : Int32) (x6 : Int32) (x7 : Int32) (σ : Hp) : Option (((Int32) ⊕ ((Unit) ⊕ (Unit))) × Hp) := some (Sum.inl (x7 + 1), σ)
set_option maxRecDepth 100000 in
set_option maxHeartbeats 4000000 in
theorem t_X7_goesOn_b79 {l : Launch} {γ : Gm} {ad : Nat → Nat} {K : Option Value → Hp → Prop} (hc : Cx l γ 3 8 ad shM RX7 cX7_goesOn (some .boolean) K) {x0 : Nat} {x1 : Int32} {x2 : Int32} {x3 : Int32} {x4 : Int32} {x5 : Int32} {x6 : Int32} {x7 : Int32}  {σ : Hp} {KL : ((Int32) ⊕ ((Unit) ⊕ (Unit))) → Hp → Prop} (h : wpO (f_X7_goesOn_b79 x0 x1 x2 x3 x4 x5 x6 x7 σ) KL) (kn : ∀ (v : (Int32)) (σ : Hp), KL (Sum.inl v) σ → WW l γ 3 8 ad shM 21 [(0, .ref (ad x0)), (1, .int x1), (2, .int x2), (3, .int x3), (4, .int x4), (5, .int x5), (6, .int x6), (7, .int v)] [] σ) (kx77 : ∀ (v : Unit) (σ : Hp), KL (Sum.inr (Sum.inl v)) σ → WW l γ 3 8 ad shM 77 [] [] σ) (kx85 : ∀ (v : Unit) (σ : Hp), KL (Sum.inr (Sum.inr v)) σ → WW l γ 3 8 ad shM 85 [(0, .ref (ad x0)), (1, .int x1), (2, .int x2), (3, .int x3), (4, .int x4), (5, .int x5), (6, .int x6)] [] σ) : WW l γ 3 8 ad shM 79 [(0, .ref (ad x0)), (1, .int x1), (2, .int x2), (3, .int x3), (4, .int x4), (5, .int x5), (6, .int x6), (7, .int x7)] [] σ := by
  unfold f_X7_goesOn_b79 at h
  refine r_iincE hc (j := 7) (w := 1) (lv' := [(7, .int (x7 + 1)), (0, .ref (ad x0)), (1, .int x1), (2, .int x2), (3, .int x3), (4, .int x4), (5, .int x5), (6, .int x6)]) rfl (by decide) rfl (by decide) rfl dX7_goesOn_79 ?_
  refine r_goto hc (tgt := 21) dX7_goesOn_82 (by decide) ?_
  refine r_sub [1, 2, 3, 4, 5, 6, 7, 0] (lv' := [(0, .ref (ad x0)), (1, .int x1), (2, .int x2), (3, .int x3), (4, .int x4), (5, .int x5), (6, .int x6), (7, .int (x7 + 1))]) rfl ?_
  have h := wp_v h
  exact kn (x7 + 1) _ h
noncomputable def f_X7_goesOn_L21 (x0 : Nat) (x1 : Int32) (x2 : Int32) (x3 : Int32) (x4 : Int32) (x5 : Int32) (x6 : Int32) (v : (Int32)) (σ : Hp) : Option (((Int32) ⊕ ((Unit) ⊕ (Unit))) × Hp) := if x5 ≤ v then (some (Sum.inr (Sum.inr ()), σ)) else (gO (chk shM x0 7) fun _ => bO (f_X7_isLine x0 x2 x6 v σ) fun r1 σ2 => if r1 = 0 then (f_X7_goesOn_b79 x0 x1 x2 x3 x4 x5 x6 v σ2) else (gO (getR shM 7 x0 0 σ2) fun v4 => gO (aldI shM 0 v4 x1 σ2) fun v5 => bO (f_X7_placeOf x3 x6 x5 v5 σ2) fun r6 σ7 => gO (getR shM 7 x0 0 σ7) fun v8 => gO (aldI shM 0 v8 x1 σ7) fun v9 => bO (f_X7_placeOf x4 v x5 v9 σ7) fun r10 σ11 => gO (chk shM x0 7) fun _ => bO (f_X7_isLine x0 x1 r6 r10 σ11) fun r12 σ13 => if r12 = 0 then (some (Sum.inr (Sum.inl ()), σ13)) else (f_X7_goesOn_b79 x0 x1 x2 x3 x4 x5 x6 v σ13)))
set_option maxRecDepth 100000 in
set_option maxHeartbeats 4000000 in
theorem t_X7_goesOn_L21 {l : Launch} {γ : Gm} {ad : Nat → Nat} {K : Option Value → Hp → Prop}  (hc : Cx l γ 3 8 ad shM RX7 cX7_goesOn (some .boolean) K) {x0 : Nat} {x1 : Int32} {x2 : Int32} {x3 : Int32} {x4 : Int32} {x5 : Int32} {x6 : Int32} {v : (Int32)} {σ : Hp} {KX : ((Unit) ⊕ (Unit)) → Hp → Prop} (h : wpO (wh (f_X7_goesOn_L21 x0 x1 x2 x3 x4 x5 x6) v σ) KX) (kx77 : ∀ (v : Unit) (σ : Hp), KX (Sum.inl v) σ → WW l γ 3 8 ad shM 77 [] [] σ) (kx85 : ∀ (v : Unit) (σ : Hp), KX (Sum.inr v) σ → WW l γ 3 8 ad shM 85 [(0, .ref (ad x0)), (1, .int x1), (2, .int x2), (3, .int x3), (4, .int x4), (5, .int x5), (6, .int x6)] [] σ) : WW l γ 3 8 ad shM 21 [(0, .ref (ad x0)), (1, .int x1), (2, .int x2), (3, .int x3), (4, .int x4), (5, .int x5), (6, .int x6), (7, .int v)] [] σ := by
  refine wh_W (P := fun v σ => WW l γ 3 8 ad shM 21 [(0, .ref (ad x0)), (1, .int x1), (2, .int x2), (3, .int x3), (4, .int x4), (5, .int x5), (6, .int x6), (7, .int v)] [] σ) (fun v σ h => ?_) h
  have kn : ∀ (v : (Int32)) (σ : Hp), WW l γ 3 8 ad shM 21 [(0, .ref (ad x0)), (1, .int x1), (2, .int x2), (3, .int x3), (4, .int x4), (5, .int x5), (6, .int x6), (7, .int v)] [] σ → WW l γ 3 8 ad shM 21 [(0, .ref (ad x0)), (1, .int x1), (2, .int x2), (3, .int x3), (4, .int x4), (5, .int x5), (6, .int x6), (7, .int v)] [] σ := fun _ _ h => h
  · unfold f_X7_goesOn_L21 at h
    refine r_iload hc 7 rfl dX7_goesOn_21 ?_
    refine r_iload hc 5 rfl dX7_goesOn_23 ?_
    refine r_icmp_ge hc (tgt := 85) dX7_goesOn_25 (by decide) (fun c => ?_) (fun c => ?_)
    · have h := wp_t c h
      refine r_sub [0, 1, 2, 3, 4, 5, 6] (lv' := [(0, .ref (ad x0)), (1, .int x1), (2, .int x2), (3, .int x3), (4, .int x4), (5, .int x5), (6, .int x6)]) rfl ?_
      have h := wp_v h
      exact kx85 () _ h
    · have h := wp_f c h
      refine r_aload_n hc 0 rfl rfl dX7_goesOn_28 ?_
      refine r_iload_n hc 2 rfl rfl dX7_goesOn_29 ?_
      refine r_iload hc 6 rfl dX7_goesOn_30 ?_
      refine r_iload hc 7 rfl dX7_goesOn_32 ?_
      obtain ⟨_, ek3, h⟩ := wp_g h
      obtain ⟨r1, σ2, er1, h⟩ := wp_b h
      refine r_callV hc (k0 := x0) mv_X7_isLine ml_X7_125 (c_X7_isLine er1) (chk_of ek3) cls_7.1 rfl rfl rfl (by decide) rfl (Nat.le_of_ble_eq_true rfl) dX7_goesOn_34 ?_
      refine r_if_eq hc (tgt := 79) dX7_goesOn_37 (by decide) (fun c => ?_) (fun c => ?_)
      · have h := wp_t c h
        exact t_X7_goesOn_b79 hc h kn kx77 kx85
      · have h := wp_f c h
        refine r_aload_n hc 0 rfl rfl dX7_goesOn_40 ?_
        refine r_iload_n hc 1 rfl rfl dX7_goesOn_41 ?_
        refine r_iload_n hc 3 rfl rfl dX7_goesOn_42 ?_
        refine r_iload hc 6 rfl dX7_goesOn_43 ?_
        refine r_iload hc 5 rfl dX7_goesOn_45 ?_
        refine r_aload_n hc 0 rfl rfl dX7_goesOn_47 ?_
        obtain ⟨v4, ev4, h⟩ := wp_g h
        refine r_getR hc ev4 fl_X7_7 rfl dX7_goesOn_48 ?_
        refine r_iload_n hc 1 rfl rfl dX7_goesOn_51 ?_
        obtain ⟨v5, ev5, h⟩ := wp_g h
        refine r_iald hc ev5 dX7_goesOn_52 ?_
        obtain ⟨r6, σ7, er6, h⟩ := wp_b h
        refine r_callS hc ms_X7_placeOf ml_X7_170 (c_X7_placeOf er6) rfl rfl (by decide) rfl (Nat.le_of_ble_eq_true rfl) dX7_goesOn_53 ?_
        refine r_iload hc 4 rfl dX7_goesOn_56 ?_
        refine r_iload hc 7 rfl dX7_goesOn_58 ?_
        refine r_iload hc 5 rfl dX7_goesOn_60 ?_
        refine r_aload_n hc 0 rfl rfl dX7_goesOn_62 ?_
        obtain ⟨v8, ev8, h⟩ := wp_g h
        refine r_getR hc ev8 fl_X7_7 rfl dX7_goesOn_63 ?_
        refine r_iload_n hc 1 rfl rfl dX7_goesOn_66 ?_
        obtain ⟨v9, ev9, h⟩ := wp_g h
        refine r_iald hc ev9 dX7_goesOn_67 ?_
        obtain ⟨r10, σ11, er10, h⟩ := wp_b h
        refine r_callS hc ms_X7_placeOf ml_X7_170 (c_X7_placeOf er10) rfl rfl (by decide) rfl (Nat.le_of_ble_eq_true rfl) dX7_goesOn_68 ?_
        obtain ⟨_, ek14, h⟩ := wp_g h
        obtain ⟨r12, σ13, er12, h⟩ := wp_b h
        refine r_callV hc (k0 := x0) mv_X7_isLine ml_X7_125 (c_X7_isLine er12) (chk_of ek14) cls_7.1 rfl rfl rfl (by decide) rfl (Nat.le_of_ble_eq_true rfl) dX7_goesOn_71 ?_
        refine r_if_ne hc (tgt := 79) dX7_goesOn_74 (by decide) (fun c => ?_) (fun c => ?_)
        · have h := wp_f c h
          exact t_X7_goesOn_b79 hc h kn kx77 kx85
        · have h := wp_t c h
          refine r_sub [] (lv' := []) rfl ?_
          have h := wp_v h
          exact kx77 () _ h
noncomputable def f_X7_goesOn_L11 (x0 : Nat) (x1 : Int32) (x2 : Int32) (x3 : Int32) (x4 : Int32) (x5 : Int32) (v : (Int32)) (σ : Hp) : Option (((Int32) ⊕ ((Unit) ⊕ (Unit))) × Hp) := if x5 ≤ v then (some (Sum.inr (Sum.inr ()), σ)) else (bO (wh (f_X7_goesOn_L21 x0 x1 x2 x3 x4 x5 v) 0 σ) fun y1 σ2 => (Sum.elim (fun y1' => (some (Sum.inr (Sum.inl ()), σ2))) (fun y3 => (some (Sum.inl (v + 1), σ2))) y1))
set_option maxRecDepth 100000 in
set_option maxHeartbeats 4000000 in
theorem t_X7_goesOn_L11 {l : Launch} {γ : Gm} {ad : Nat → Nat} {K : Option Value → Hp → Prop}  (hc : Cx l γ 3 8 ad shM RX7 cX7_goesOn (some .boolean) K) {x0 : Nat} {x1 : Int32} {x2 : Int32} {x3 : Int32} {x4 : Int32} {x5 : Int32} {v : (Int32)} {σ : Hp} {KX : ((Unit) ⊕ (Unit)) → Hp → Prop} (h : wpO (wh (f_X7_goesOn_L11 x0 x1 x2 x3 x4 x5) v σ) KX) (kx77 : ∀ (v : Unit) (σ : Hp), KX (Sum.inl v) σ → WW l γ 3 8 ad shM 77 [] [] σ) (kx91 : ∀ (v : Unit) (σ : Hp), KX (Sum.inr v) σ → WW l γ 3 8 ad shM 91 [] [] σ) : WW l γ 3 8 ad shM 11 [(0, .ref (ad x0)), (1, .int x1), (2, .int x2), (3, .int x3), (4, .int x4), (5, .int x5), (6, .int v)] [] σ := by
  refine wh_W (P := fun v σ => WW l γ 3 8 ad shM 11 [(0, .ref (ad x0)), (1, .int x1), (2, .int x2), (3, .int x3), (4, .int x4), (5, .int x5), (6, .int v)] [] σ) (fun v σ h => ?_) h
  have kn : ∀ (v : (Int32)) (σ : Hp), WW l γ 3 8 ad shM 11 [(0, .ref (ad x0)), (1, .int x1), (2, .int x2), (3, .int x3), (4, .int x4), (5, .int x5), (6, .int v)] [] σ → WW l γ 3 8 ad shM 11 [(0, .ref (ad x0)), (1, .int x1), (2, .int x2), (3, .int x3), (4, .int x4), (5, .int x5), (6, .int v)] [] σ := fun _ _ h => h
  · unfold f_X7_goesOn_L11 at h
    refine r_iload hc 6 rfl dX7_goesOn_11 ?_
    refine r_iload hc 5 rfl dX7_goesOn_13 ?_
    refine r_icmp_ge hc (tgt := 91) dX7_goesOn_15 (by decide) (fun c => ?_) (fun c => ?_)
    · have h := wp_t c h
      refine r_sub [] (lv' := []) rfl ?_
      have h := wp_v h
      exact kx91 () _ h
    · have h := wp_f c h
      refine r_iconst hc (v := 0) (by decide) dX7_goesOn_18 ?_
      refine r_istoreE hc (i := 7) (lv' := [(7, .int 0), (0, .ref (ad x0)), (1, .int x1), (2, .int x2), (3, .int x3), (4, .int x4), (5, .int x5), (6, .int v)]) rfl (by decide) rfl dX7_goesOn_19 ?_
      refine r_sub [1, 2, 3, 4, 5, 6, 7, 0] (lv' := [(0, .ref (ad x0)), (1, .int x1), (2, .int x2), (3, .int x3), (4, .int x4), (5, .int x5), (6, .int v), (7, .int 0)]) rfl ?_
      refine t_X7_goesOn_L21 hc (wp_bb h) ?_ ?_
      · intro y1' σ2 h
        have h := wp_sl h
        have h := wp_v h
        exact kx77 () _ h
      · intro y3 σ2 h
        have h := wp_sr h
        refine r_iincE hc (j := 6) (w := 1) (lv' := [(6, .int (v + 1)), (0, .ref (ad x0)), (1, .int x1), (2, .int x2), (3, .int x3), (4, .int x4), (5, .int x5)]) rfl (by decide) rfl (by decide) rfl dX7_goesOn_85 ?_
        refine r_goto hc (tgt := 11) dX7_goesOn_88 (by decide) ?_
        refine r_sub [1, 2, 3, 4, 5, 6, 0] (lv' := [(0, .ref (ad x0)), (1, .int x1), (2, .int x2), (3, .int x3), (4, .int x4), (5, .int x5), (6, .int (v + 1))]) rfl ?_
        have h := wp_v h
        exact kn (v + 1) _ h
noncomputable def f_X7_goesOn (x0 : Nat) (x1 : Int32) (x2 : Int32) (x3 : Int32) (x4 : Int32) (σ : Hp) : Option (Int32 × Hp) := gO (getR shM 7 x0 0 σ) fun v1 => gO (aldI shM 0 v1 x2 σ) fun v2 => bO (wh (f_X7_goesOn_L11 x0 x1 x2 x3 x4 v2) 0 σ) fun y3 σ4 => (Sum.elim (fun y3' => (some (0, σ4))) (fun y5 => (some (1, σ4))) y3)
set_option maxRecDepth 100000 in
set_option maxHeartbeats 4000000 in
theorem t_X7_goesOn {l : Launch} {γ : Gm} {ad : Nat → Nat} {K : Option Value → Hp → Prop} (hc : Cx l γ 3 8 ad shM RX7 cX7_goesOn (some .boolean) K) {x0 : Nat} {x1 : Int32} {x2 : Int32} {x3 : Int32} {x4 : Int32} {σ : Hp} (h : wpO (f_X7_goesOn x0 x1 x2 x3 x4 σ) (KI K)) : WW l γ 3 8 ad shM 0 [(0, .ref (ad x0)), (1, .int x1), (2, .int x2), (3, .int x3), (4, .int x4)] [] σ := by
  unfold f_X7_goesOn at h
  refine r_aload_n hc 0 rfl rfl dX7_goesOn_0 ?_
  obtain ⟨v1, ev1, h⟩ := wp_g h
  refine r_getR hc ev1 fl_X7_7 rfl dX7_goesOn_1 ?_
  refine r_iload_n hc 2 rfl rfl dX7_goesOn_4 ?_
  obtain ⟨v2, ev2, h⟩ := wp_g h
  refine r_iald hc ev2 dX7_goesOn_5 ?_
  refine r_istoreE hc (i := 5) (lv' := [(5, .int v2), (0, .ref (ad x0)), (1, .int x1), (2, .int x2), (3, .int x3), (4, .int x4)]) rfl (by decide) rfl dX7_goesOn_6 ?_
  refine r_iconst hc (v := 0) (by decide) dX7_goesOn_8 ?_
  refine r_istoreE hc (i := 6) (lv' := [(6, .int 0), (5, .int v2), (0, .ref (ad x0)), (1, .int x1), (2, .int x2), (3, .int x3), (4, .int x4)]) rfl (by decide) rfl dX7_goesOn_9 ?_
  refine r_sub [2, 3, 4, 5, 6, 1, 0] (lv' := [(0, .ref (ad x0)), (1, .int x1), (2, .int x2), (3, .int x3), (4, .int x4), (5, .int v2), (6, .int 0)]) rfl ?_
  refine t_X7_goesOn_L11 hc (wp_bb h) ?_ ?_
  · intro y3' σ4 h
    have h := wp_sl h
    refine r_iconst hc (v := 0) (by decide) dX7_goesOn_77 ?_
    have h := wp_v h
    exact r_zret hc h (by decide) dX7_goesOn_78
  · intro y5 σ4 h
    have h := wp_sr h
    refine r_iconst hc (v := 1) (by decide) dX7_goesOn_91 ?_
    have h := wp_v h
    exact r_zret hc h (by decide) dX7_goesOn_92
theorem c_X7_goesOn {l : Launch} {x0 : Nat} {x1 : Int32} {x2 : Int32} {x3 : Int32} {x4 : Int32} {σ σ' : Hp} {r : Int32} (h : f_X7_goesOn x0 x1 x2 x3 x4 σ = some (r, σ')) : Mt l yX7_goesOn cX7_goesOn 8 (some .boolean) 3 shM (fun ad => [.ref (ad x0), .int x1, .int x2, .int x3, .int x4]) σ (fun ad => some (.int r)) σ' := mt_i (own := RX7) (by decide) rfl (fun _ => Nat.le_of_ble_eq_true rfl) (fun γ ad K hc hk => t_X7_goesOn hc ⟨_, _, h, hk⟩)

-- NetMapsModel.powers(II)V
theorem dX7_powers_0 : decode cX7_powers 0 = .ok (.iconst 0, 1) := by decide +kernel
theorem dX7_powers_1 : decode cX7_powers 1 = .ok (.istore_n 3, 1) := by decide +kernel
theorem dX7_powers_2 : decode cX7_powers 2 = .ok (.iload_n 3, 1) := by decide +kernel
theorem dX7_powers_3 : decode cX7_powers 3 = .ok (.aload_n 0, 1) := by decide +kernel
theorem dX7_powers_4 : decode cX7_powers 4 = .ok (.getfield 7, 3) := by decide +kernel
theorem dX7_powers_7 : decode cX7_powers 7 = .ok (.bipush 7, 2) := by decide +kernel
theorem dX7_powers_9 : decode cX7_powers 9 = .ok (.iaload, 1) := by decide +kernel
theorem dX7_powers_10 : decode cX7_powers 10 = .ok (.if_icmp .ge 52, 3) := by decide +kernel
theorem dX7_powers_13 : decode cX7_powers 13 = .ok (.iconst 0, 1) := by decide +kernel
theorem dX7_powers_14 : decode cX7_powers 14 = .ok (.istore 4, 2) := by decide +kernel
theorem dX7_powers_16 : decode cX7_powers 16 = .ok (.iload 4, 2) := by decide +kernel
theorem dX7_powers_18 : decode cX7_powers 18 = .ok (.aload_n 0, 1) := by decide +kernel
theorem dX7_powers_19 : decode cX7_powers 19 = .ok (.getfield 7, 3) := by decide +kernel
theorem dX7_powers_22 : decode cX7_powers 22 = .ok (.bipush 7, 2) := by decide +kernel
theorem dX7_powers_24 : decode cX7_powers 24 = .ok (.iaload, 1) := by decide +kernel
theorem dX7_powers_25 : decode cX7_powers 25 = .ok (.if_icmp .ge 31, 3) := by decide +kernel
theorem dX7_powers_28 : decode cX7_powers 28 = .ok (.aload_n 0, 1) := by decide +kernel
theorem dX7_powers_29 : decode cX7_powers 29 = .ok (.iload_n 1, 1) := by decide +kernel
theorem dX7_powers_30 : decode cX7_powers 30 = .ok (.iload_n 2, 1) := by decide +kernel
theorem dX7_powers_31 : decode cX7_powers 31 = .ok (.iload_n 3, 1) := by decide +kernel
theorem dX7_powers_32 : decode cX7_powers 32 = .ok (.iload 4, 2) := by decide +kernel
theorem dX7_powers_34 : decode cX7_powers 34 = .ok (.invokevirtual 174, 3) := by decide +kernel
theorem dX7_powers_37 : decode cX7_powers 37 = .ok (.ifCond .eq 13, 3) := by decide +kernel
theorem dX7_powers_40 : decode cX7_powers 40 = .ok (.aload_n 0, 1) := by decide +kernel
theorem dX7_powers_41 : decode cX7_powers 41 = .ok (.bipush 7, 2) := by decide +kernel
theorem dX7_powers_43 : decode cX7_powers 43 = .ok (.iload_n 3, 1) := by decide +kernel
theorem dX7_powers_44 : decode cX7_powers 44 = .ok (.iload 4, 2) := by decide +kernel
theorem dX7_powers_46 : decode cX7_powers 46 = .ok (.iconst 1, 1) := by decide +kernel
theorem dX7_powers_47 : decode cX7_powers 47 = .ok (.invokevirtual 128, 3) := by decide +kernel
theorem dX7_powers_50 : decode cX7_powers 50 = .ok (.iinc 4 1, 3) := by decide +kernel
theorem dX7_powers_53 : decode cX7_powers 53 = .ok (.goto (-37), 3) := by decide +kernel
theorem dX7_powers_56 : decode cX7_powers 56 = .ok (.iinc 3 1, 3) := by decide +kernel
theorem dX7_powers_59 : decode cX7_powers 59 = .ok (.goto (-57), 3) := by decide +kernel
theorem dX7_powers_62 : decode cX7_powers 62 = .ok (.return_, 1) := by decide +kernel
noncomputable def f_X7_powers_b50 (x0 : Nat) (x1 : Int32) (x2 : Int32) (x3 : Int32) (x4 : Int32) (σ : Hp) : Option (((Int32) ⊕ (Unit)) × Hp) := some (Sum.inl (x4 + 1), σ)
set_option maxRecDepth 100000 in
set_option maxHeartbeats 4000000 in
theorem t_X7_powers_b50 {l : Launch} {γ : Gm} {ad : Nat → Nat} {K : Option Value → Hp → Prop} (hc : Cx l γ 4 5 ad shM RX7 cX7_powers none K) {x0 : Nat} {x1 : Int32} {x2 : Int32} {x3 : Int32} {x4 : Int32}  {σ : Hp} {KL : ((Int32) ⊕ (Unit)) → Hp → Prop} (h : wpO (f_X7_powers_b50 x0 x1 x2 x3 x4 σ) KL) (kn : ∀ (v : (Int32)) (σ : Hp), KL (Sum.inl v) σ → WW l γ 4 5 ad shM 16 [(0, .ref (ad x0)), (1, .int x1), (2, .int x2), (3, .int x3), (4, .int v)] [] σ) (kx56 : ∀ (v : Unit) (σ : Hp), KL (Sum.inr v) σ → WW l γ 4 5 ad shM 56 [(0, .ref (ad x0)), (1, .int x1), (2, .int x2), (3, .int x3)] [] σ) : WW l γ 4 5 ad shM 50 [(0, .ref (ad x0)), (1, .int x1), (2, .int x2), (3, .int x3), (4, .int x4)] [] σ := by
  unfold f_X7_powers_b50 at h
  refine r_iincE hc (j := 4) (w := 1) (lv' := [(4, .int (x4 + 1)), (0, .ref (ad x0)), (1, .int x1), (2, .int x2), (3, .int x3)]) rfl (by decide) rfl (by decide) rfl dX7_powers_50 ?_
  refine r_goto hc (tgt := 16) dX7_powers_53 (by decide) ?_
  refine r_sub [1, 2, 3, 4, 0] (lv' := [(0, .ref (ad x0)), (1, .int x1), (2, .int x2), (3, .int x3), (4, .int (x4 + 1))]) rfl ?_
  have h := wp_v h
  exact kn (x4 + 1) _ h
noncomputable def f_X7_powers_L16 (x0 : Nat) (x1 : Int32) (x2 : Int32) (x3 : Int32) (v : (Int32)) (σ : Hp) : Option (((Int32) ⊕ (Unit)) × Hp) := gO (getR shM 7 x0 0 σ) fun v1 => gO (aldI shM 0 v1 7 σ) fun v2 => if v2 ≤ v then (some (Sum.inr (), σ)) else (gO (chk shM x0 7) fun _ => bO (f_X7_goesOn x0 x1 x2 x3 v σ) fun r3 σ4 => if r3 = 0 then (f_X7_powers_b50 x0 x1 x2 x3 v σ4) else (gO (chk shM x0 7) fun _ => bO (f_X7_sets x0 7 x3 v 1 σ4) fun _ σ7 => f_X7_powers_b50 x0 x1 x2 x3 v σ7))
set_option maxRecDepth 100000 in
set_option maxHeartbeats 4000000 in
theorem t_X7_powers_L16 {l : Launch} {γ : Gm} {ad : Nat → Nat} {K : Option Value → Hp → Prop}  (hc : Cx l γ 4 5 ad shM RX7 cX7_powers none K) {x0 : Nat} {x1 : Int32} {x2 : Int32} {x3 : Int32} {v : (Int32)} {σ : Hp} {KX : (Unit) → Hp → Prop} (h : wpO (wh (f_X7_powers_L16 x0 x1 x2 x3) v σ) KX) (kx56 : ∀ (v : Unit) (σ : Hp), KX v σ → WW l γ 4 5 ad shM 56 [(0, .ref (ad x0)), (1, .int x1), (2, .int x2), (3, .int x3)] [] σ) : WW l γ 4 5 ad shM 16 [(0, .ref (ad x0)), (1, .int x1), (2, .int x2), (3, .int x3), (4, .int v)] [] σ := by
  refine wh_W (P := fun v σ => WW l γ 4 5 ad shM 16 [(0, .ref (ad x0)), (1, .int x1), (2, .int x2), (3, .int x3), (4, .int v)] [] σ) (fun v σ h => ?_) h
  have kn : ∀ (v : (Int32)) (σ : Hp), WW l γ 4 5 ad shM 16 [(0, .ref (ad x0)), (1, .int x1), (2, .int x2), (3, .int x3), (4, .int v)] [] σ → WW l γ 4 5 ad shM 16 [(0, .ref (ad x0)), (1, .int x1), (2, .int x2), (3, .int x3), (4, .int v)] [] σ := fun _ _ h => h
  · unfold f_X7_powers_L16 at h
    refine r_iload hc 4 rfl dX7_powers_16 ?_
    refine r_aload_n hc 0 rfl rfl dX7_powers_18 ?_
    obtain ⟨v1, ev1, h⟩ := wp_g h
    refine r_getR hc ev1 fl_X7_7 rfl dX7_powers_19 ?_
    refine r_bipush hc (v := 7) (by decide) dX7_powers_22 ?_
    obtain ⟨v2, ev2, h⟩ := wp_g h
    refine r_iald hc ev2 dX7_powers_24 ?_
    refine r_icmp_ge hc (tgt := 56) dX7_powers_25 (by decide) (fun c => ?_) (fun c => ?_)
    · have h := wp_t c h
      refine r_sub [0, 1, 2, 3] (lv' := [(0, .ref (ad x0)), (1, .int x1), (2, .int x2), (3, .int x3)]) rfl ?_
      have h := wp_v h
      exact kx56 () _ h
    · have h := wp_f c h
      refine r_aload_n hc 0 rfl rfl dX7_powers_28 ?_
      refine r_iload_n hc 1 rfl rfl dX7_powers_29 ?_
      refine r_iload_n hc 2 rfl rfl dX7_powers_30 ?_
      refine r_iload_n hc 3 rfl rfl dX7_powers_31 ?_
      refine r_iload hc 4 rfl dX7_powers_32 ?_
      obtain ⟨_, ek5, h⟩ := wp_g h
      obtain ⟨r3, σ4, er3, h⟩ := wp_b h
      refine r_callV hc (k0 := x0) mv_X7_goesOn ml_X7_174 (c_X7_goesOn er3) (chk_of ek5) cls_7.1 rfl rfl rfl (by decide) rfl (Nat.le_of_ble_eq_true rfl) dX7_powers_34 ?_
      refine r_if_eq hc (tgt := 50) dX7_powers_37 (by decide) (fun c => ?_) (fun c => ?_)
      · have h := wp_t c h
        exact t_X7_powers_b50 hc h kn kx56
      · have h := wp_f c h
        refine r_aload_n hc 0 rfl rfl dX7_powers_40 ?_
        refine r_bipush hc (v := 7) (by decide) dX7_powers_41 ?_
        refine r_iload_n hc 3 rfl rfl dX7_powers_43 ?_
        refine r_iload hc 4 rfl dX7_powers_44 ?_
        refine r_iconst hc (v := 1) (by decide) dX7_powers_46 ?_
        obtain ⟨_, ek8, h⟩ := wp_g h
        obtain ⟨_, σ7, er6, h⟩ := wp_b h
        refine r_callV hc (k0 := x0) mv_X7_sets ml_X7_128 (c_X7_sets er6) (chk_of ek8) cls_7.1 rfl rfl rfl (by decide) rfl (Nat.le_of_ble_eq_true rfl) dX7_powers_47 ?_
        exact t_X7_powers_b50 hc h kn kx56
noncomputable def f_X7_powers_L2 (x0 : Nat) (x1 : Int32) (x2 : Int32) (v : (Int32)) (σ : Hp) : Option (((Int32) ⊕ (Unit)) × Hp) := gO (getR shM 7 x0 0 σ) fun v1 => gO (aldI shM 0 v1 7 σ) fun v2 => if v2 ≤ v then (some (Sum.inr (), σ)) else (bO (wh (f_X7_powers_L16 x0 x1 x2 v) 0 σ) fun y3 σ4 => (some (Sum.inl (v + 1), σ4)))
set_option maxRecDepth 100000 in
set_option maxHeartbeats 4000000 in
theorem t_X7_powers_L2 {l : Launch} {γ : Gm} {ad : Nat → Nat} {K : Option Value → Hp → Prop}  (hc : Cx l γ 4 5 ad shM RX7 cX7_powers none K) {x0 : Nat} {x1 : Int32} {x2 : Int32} {v : (Int32)} {σ : Hp} {KX : (Unit) → Hp → Prop} (h : wpO (wh (f_X7_powers_L2 x0 x1 x2) v σ) KX) (kx62 : ∀ (v : Unit) (σ : Hp), KX v σ → WW l γ 4 5 ad shM 62 [] [] σ) : WW l γ 4 5 ad shM 2 [(0, .ref (ad x0)), (1, .int x1), (2, .int x2), (3, .int v)] [] σ := by
  refine wh_W (P := fun v σ => WW l γ 4 5 ad shM 2 [(0, .ref (ad x0)), (1, .int x1), (2, .int x2), (3, .int v)] [] σ) (fun v σ h => ?_) h
  have kn : ∀ (v : (Int32)) (σ : Hp), WW l γ 4 5 ad shM 2 [(0, .ref (ad x0)), (1, .int x1), (2, .int x2), (3, .int v)] [] σ → WW l γ 4 5 ad shM 2 [(0, .ref (ad x0)), (1, .int x1), (2, .int x2), (3, .int v)] [] σ := fun _ _ h => h
  · unfold f_X7_powers_L2 at h
    refine r_iload_n hc 3 rfl rfl dX7_powers_2 ?_
    refine r_aload_n hc 0 rfl rfl dX7_powers_3 ?_
    obtain ⟨v1, ev1, h⟩ := wp_g h
    refine r_getR hc ev1 fl_X7_7 rfl dX7_powers_4 ?_
    refine r_bipush hc (v := 7) (by decide) dX7_powers_7 ?_
    obtain ⟨v2, ev2, h⟩ := wp_g h
    refine r_iald hc ev2 dX7_powers_9 ?_
    refine r_icmp_ge hc (tgt := 62) dX7_powers_10 (by decide) (fun c => ?_) (fun c => ?_)
    · have h := wp_t c h
      refine r_sub [] (lv' := []) rfl ?_
      have h := wp_v h
      exact kx62 () _ h
    · have h := wp_f c h
      refine r_iconst hc (v := 0) (by decide) dX7_powers_13 ?_
      refine r_istoreE hc (i := 4) (lv' := [(4, .int 0), (0, .ref (ad x0)), (1, .int x1), (2, .int x2), (3, .int v)]) rfl (by decide) rfl dX7_powers_14 ?_
      refine r_sub [1, 2, 3, 4, 0] (lv' := [(0, .ref (ad x0)), (1, .int x1), (2, .int x2), (3, .int v), (4, .int 0)]) rfl ?_
      refine t_X7_powers_L16 hc (wp_bb h) ?_
      · intro y3 σ4 h
        refine r_iincE hc (j := 3) (w := 1) (lv' := [(3, .int (v + 1)), (0, .ref (ad x0)), (1, .int x1), (2, .int x2)]) rfl (by decide) rfl (by decide) rfl dX7_powers_56 ?_
        refine r_goto hc (tgt := 2) dX7_powers_59 (by decide) ?_
        refine r_sub [1, 2, 3, 0] (lv' := [(0, .ref (ad x0)), (1, .int x1), (2, .int x2), (3, .int (v + 1))]) rfl ?_
        have h := wp_v h
        exact kn (v + 1) _ h
noncomputable def f_X7_powers (x0 : Nat) (x1 : Int32) (x2 : Int32) (σ : Hp) : Option (Unit × Hp) := bO (wh (f_X7_powers_L2 x0 x1 x2) 0 σ) fun y1 σ2 => (some ((), σ2))
set_option maxRecDepth 100000 in
set_option maxHeartbeats 4000000 in
theorem t_X7_powers {l : Launch} {γ : Gm} {ad : Nat → Nat} {K : Option Value → Hp → Prop} (hc : Cx l γ 4 5 ad shM RX7 cX7_powers none K) {x0 : Nat} {x1 : Int32} {x2 : Int32} {σ : Hp} (h : wpO (f_X7_powers x0 x1 x2 σ) (KU K)) : WW l γ 4 5 ad shM 0 [(0, .ref (ad x0)), (1, .int x1), (2, .int x2)] [] σ := by
  unfold f_X7_powers at h
  refine r_iconst hc (v := 0) (by decide) dX7_powers_0 ?_
  refine r_istore_nE hc (i := 3) (lv' := [(3, .int 0), (0, .ref (ad x0)), (1, .int x1), (2, .int x2)]) rfl rfl (by decide) rfl dX7_powers_1 ?_
  refine r_sub [1, 2, 3, 0] (lv' := [(0, .ref (ad x0)), (1, .int x1), (2, .int x2), (3, .int 0)]) rfl ?_
  refine t_X7_powers_L2 hc (wp_bb h) ?_
  · intro y1 σ2 h
    have h := wp_v h
    exact r_vret hc h dX7_powers_62
theorem c_X7_powers {l : Launch} {x0 : Nat} {x1 : Int32} {x2 : Int32} {σ σ' : Hp} {r : Unit} (h : f_X7_powers x0 x1 x2 σ = some (r, σ')) : Mt l yX7_powers cX7_powers 5 none 4 shM (fun ad => [.ref (ad x0), .int x1, .int x2]) σ (fun ad => none) σ' := mt_i (own := RX7) (by decide) rfl (fun _ => Nat.le_of_ble_eq_true rfl) (fun γ ad K hc hk => t_X7_powers hc ⟨_, _, h, hk⟩)

-- NetMapsModel.mixes(IIZ)V
theorem dX7_mixes_0 : decode cX7_mixes 0 = .ok (.iconst 0, 1) := by decide +kernel
theorem dX7_mixes_1 : decode cX7_mixes 1 = .ok (.istore 4, 2) := by decide +kernel
theorem dX7_mixes_3 : decode cX7_mixes 3 = .ok (.iload 4, 2) := by decide +kernel
theorem dX7_mixes_5 : decode cX7_mixes 5 = .ok (.aload_n 0, 1) := by decide +kernel
theorem dX7_mixes_6 : decode cX7_mixes 6 = .ok (.getfield 7, 3) := by decide +kernel
theorem dX7_mixes_9 : decode cX7_mixes 9 = .ok (.iload_n 1, 1) := by decide +kernel
theorem dX7_mixes_10 : decode cX7_mixes 10 = .ok (.iaload, 1) := by decide +kernel
theorem dX7_mixes_11 : decode cX7_mixes 11 = .ok (.if_icmp .ge 89, 3) := by decide +kernel
theorem dX7_mixes_14 : decode cX7_mixes 14 = .ok (.iconst 0, 1) := by decide +kernel
theorem dX7_mixes_15 : decode cX7_mixes 15 = .ok (.istore 5, 2) := by decide +kernel
theorem dX7_mixes_17 : decode cX7_mixes 17 = .ok (.iload 5, 2) := by decide +kernel
theorem dX7_mixes_19 : decode cX7_mixes 19 = .ok (.aload_n 0, 1) := by decide +kernel
theorem dX7_mixes_20 : decode cX7_mixes 20 = .ok (.getfield 7, 3) := by decide +kernel
theorem dX7_mixes_23 : decode cX7_mixes 23 = .ok (.iload_n 1, 1) := by decide +kernel
theorem dX7_mixes_24 : decode cX7_mixes 24 = .ok (.iaload, 1) := by decide +kernel
theorem dX7_mixes_25 : decode cX7_mixes 25 = .ok (.if_icmp .ge 69, 3) := by decide +kernel
theorem dX7_mixes_28 : decode cX7_mixes 28 = .ok (.aload_n 0, 1) := by decide +kernel
theorem dX7_mixes_29 : decode cX7_mixes 29 = .ok (.iload_n 1, 1) := by decide +kernel
theorem dX7_mixes_30 : decode cX7_mixes 30 = .ok (.iload 4, 2) := by decide +kernel
theorem dX7_mixes_32 : decode cX7_mixes 32 = .ok (.iload 5, 2) := by decide +kernel
theorem dX7_mixes_34 : decode cX7_mixes 34 = .ok (.invokevirtual 125, 3) := by decide +kernel
theorem dX7_mixes_37 : decode cX7_mixes 37 = .ok (.istore 6, 2) := by decide +kernel
theorem dX7_mixes_39 : decode cX7_mixes 39 = .ok (.aload_n 0, 1) := by decide +kernel
theorem dX7_mixes_40 : decode cX7_mixes 40 = .ok (.iload_n 2, 1) := by decide +kernel
theorem dX7_mixes_41 : decode cX7_mixes 41 = .ok (.iload 4, 2) := by decide +kernel
theorem dX7_mixes_43 : decode cX7_mixes 43 = .ok (.iload 5, 2) := by decide +kernel
theorem dX7_mixes_45 : decode cX7_mixes 45 = .ok (.invokevirtual 125, 3) := by decide +kernel
theorem dX7_mixes_48 : decode cX7_mixes 48 = .ok (.istore 7, 2) := by decide +kernel
theorem dX7_mixes_50 : decode cX7_mixes 50 = .ok (.iload_n 3, 1) := by decide +kernel
theorem dX7_mixes_51 : decode cX7_mixes 51 = .ok (.ifCond .eq 16, 3) := by decide +kernel
theorem dX7_mixes_54 : decode cX7_mixes 54 = .ok (.iload 6, 2) := by decide +kernel
theorem dX7_mixes_56 : decode cX7_mixes 56 = .ok (.ifCond .eq 32, 3) := by decide +kernel
theorem dX7_mixes_59 : decode cX7_mixes 59 = .ok (.iload 7, 2) := by decide +kernel
theorem dX7_mixes_61 : decode cX7_mixes 61 = .ok (.ifCond .eq 27, 3) := by decide +kernel
theorem dX7_mixes_64 : decode cX7_mixes 64 = .ok (.goto 13, 3) := by decide +kernel
theorem dX7_mixes_67 : decode cX7_mixes 67 = .ok (.iload 6, 2) := by decide +kernel
theorem dX7_mixes_69 : decode cX7_mixes 69 = .ok (.ifCond .ne 8, 3) := by decide +kernel
theorem dX7_mixes_72 : decode cX7_mixes 72 = .ok (.iload 7, 2) := by decide +kernel
theorem dX7_mixes_74 : decode cX7_mixes 74 = .ok (.ifCond .eq 14, 3) := by decide +kernel
theorem dX7_mixes_77 : decode cX7_mixes 77 = .ok (.aload_n 0, 1) := by decide +kernel
theorem dX7_mixes_78 : decode cX7_mixes 78 = .ok (.bipush 7, 2) := by decide +kernel
theorem dX7_mixes_80 : decode cX7_mixes 80 = .ok (.iload 4, 2) := by decide +kernel
theorem dX7_mixes_82 : decode cX7_mixes 82 = .ok (.iload 5, 2) := by decide +kernel
theorem dX7_mixes_84 : decode cX7_mixes 84 = .ok (.iconst 1, 1) := by decide +kernel
theorem dX7_mixes_85 : decode cX7_mixes 85 = .ok (.invokevirtual 128, 3) := by decide +kernel
theorem dX7_mixes_88 : decode cX7_mixes 88 = .ok (.iinc 5 1, 3) := by decide +kernel
theorem dX7_mixes_91 : decode cX7_mixes 91 = .ok (.goto (-74), 3) := by decide +kernel
theorem dX7_mixes_94 : decode cX7_mixes 94 = .ok (.iinc 4 1, 3) := by decide +kernel
theorem dX7_mixes_97 : decode cX7_mixes 97 = .ok (.goto (-94), 3) := by decide +kernel
theorem dX7_mixes_100 : decode cX7_mixes 100 = .ok (.return_, 1) := by decide +kernel
noncomputable def f_X7_mixes_b88 (x0 : Nat) (x1 : Int32) (x2 : Int32) (x3 : Int32) (x4 : Int32) (x5 : Int32) (σ : Hp) : Option (((Int32) ⊕ (Unit)) × Hp) := some (Sum.inl (x5 + 1), σ)
set_option maxRecDepth 100000 in
set_option maxHeartbeats 4000000 in
theorem t_X7_mixes_b88 {l : Launch} {γ : Gm} {ad : Nat → Nat} {K : Option Value → Hp → Prop} (hc : Cx l γ 3 8 ad shM RX7 cX7_mixes none K) {x0 : Nat} {x1 : Int32} {x2 : Int32} {x3 : Int32} {x4 : Int32} {x5 : Int32}  {σ : Hp} {KL : ((Int32) ⊕ (Unit)) → Hp → Prop} (h : wpO (f_X7_mixes_b88 x0 x1 x2 x3 x4 x5 σ) KL) (kn : ∀ (v : (Int32)) (σ : Hp), KL (Sum.inl v) σ → WW l γ 3 8 ad shM 17 [(0, .ref (ad x0)), (1, .int x1), (2, .int x2), (3, .int x3), (4, .int x4), (5, .int v)] [] σ) (kx94 : ∀ (v : Unit) (σ : Hp), KL (Sum.inr v) σ → WW l γ 3 8 ad shM 94 [(0, .ref (ad x0)), (1, .int x1), (2, .int x2), (3, .int x3), (4, .int x4)] [] σ) : WW l γ 3 8 ad shM 88 [(0, .ref (ad x0)), (1, .int x1), (2, .int x2), (3, .int x3), (4, .int x4), (5, .int x5)] [] σ := by
  unfold f_X7_mixes_b88 at h
  refine r_iincE hc (j := 5) (w := 1) (lv' := [(5, .int (x5 + 1)), (0, .ref (ad x0)), (1, .int x1), (2, .int x2), (3, .int x3), (4, .int x4)]) rfl (by decide) rfl (by decide) rfl dX7_mixes_88 ?_
  refine r_goto hc (tgt := 17) dX7_mixes_91 (by decide) ?_
  refine r_sub [1, 2, 3, 4, 5, 0] (lv' := [(0, .ref (ad x0)), (1, .int x1), (2, .int x2), (3, .int x3), (4, .int x4), (5, .int (x5 + 1))]) rfl ?_
  have h := wp_v h
  exact kn (x5 + 1) _ h
noncomputable def f_X7_mixes_b77 (x0 : Nat) (x1 : Int32) (x2 : Int32) (x3 : Int32) (x4 : Int32) (x5 : Int32) (σ : Hp) : Option (((Int32) ⊕ (Unit)) × Hp) := gO (chk shM x0 7) fun _ => bO (f_X7_sets x0 7 x4 x5 1 σ) fun _ σ2 => f_X7_mixes_b88 x0 x1 x2 x3 x4 x5 σ2
set_option maxRecDepth 100000 in
set_option maxHeartbeats 4000000 in
theorem t_X7_mixes_b77 {l : Launch} {γ : Gm} {ad : Nat → Nat} {K : Option Value → Hp → Prop} (hc : Cx l γ 3 8 ad shM RX7 cX7_mixes none K) {x0 : Nat} {x1 : Int32} {x2 : Int32} {x3 : Int32} {x4 : Int32} {x5 : Int32}  {σ : Hp} {KL : ((Int32) ⊕ (Unit)) → Hp → Prop} (h : wpO (f_X7_mixes_b77 x0 x1 x2 x3 x4 x5 σ) KL) (kn : ∀ (v : (Int32)) (σ : Hp), KL (Sum.inl v) σ → WW l γ 3 8 ad shM 17 [(0, .ref (ad x0)), (1, .int x1), (2, .int x2), (3, .int x3), (4, .int x4), (5, .int v)] [] σ) (kx94 : ∀ (v : Unit) (σ : Hp), KL (Sum.inr v) σ → WW l γ 3 8 ad shM 94 [(0, .ref (ad x0)), (1, .int x1), (2, .int x2), (3, .int x3), (4, .int x4)] [] σ) : WW l γ 3 8 ad shM 77 [(0, .ref (ad x0)), (1, .int x1), (2, .int x2), (3, .int x3), (4, .int x4), (5, .int x5)] [] σ := by
  unfold f_X7_mixes_b77 at h
  refine r_aload_n hc 0 rfl rfl dX7_mixes_77 ?_
  refine r_bipush hc (v := 7) (by decide) dX7_mixes_78 ?_
  refine r_iload hc 4 rfl dX7_mixes_80 ?_
  refine r_iload hc 5 rfl dX7_mixes_82 ?_
  refine r_iconst hc (v := 1) (by decide) dX7_mixes_84 ?_
  obtain ⟨_, ek3, h⟩ := wp_g h
  obtain ⟨_, σ2, er1, h⟩ := wp_b h
  refine r_callV hc (k0 := x0) mv_X7_sets ml_X7_128 (c_X7_sets er1) (chk_of ek3) cls_7.1 rfl rfl rfl (by decide) rfl (Nat.le_of_ble_eq_true rfl) dX7_mixes_85 ?_
  exact t_X7_mixes_b88 hc h kn kx94
noncomputable def f_X7_mixes_L17 (x0 : Nat) (x1 : Int32) (x2 : Int32) (x3 : Int32) (x4 : Int32) (v : (Int32)) (σ : Hp) : Option (((Int32) ⊕ (Unit)) × Hp) := gO (getR shM 7 x0 0 σ) fun v1 => gO (aldI shM 0 v1 x1 σ) fun v2 => if v2 ≤ v then (some (Sum.inr (), σ)) else (gO (chk shM x0 7) fun _ => bO (f_X7_isLine x0 x1 x4 v σ) fun r3 σ4 => gO (chk shM x0 7) fun _ => bO (f_X7_isLine x0 x2 x4 v σ4) fun r6 σ7 => if x3 = 0 then (if r3 = 0 then (if r6 = 0 then (f_X7_mixes_b88 x0 x1 x2 x3 x4 v σ7) else (f_X7_mixes_b77 x0 x1 x2 x3 x4 v σ7)) else (f_X7_mixes_b77 x0 x1 x2 x3 x4 v σ7)) else (if r3 = 0 then (f_X7_mixes_b88 x0 x1 x2 x3 x4 v σ7) else (if r6 = 0 then (f_X7_mixes_b88 x0 x1 x2 x3 x4 v σ7) else (f_X7_mixes_b77 x0 x1 x2 x3 x4 v σ7))))
set_option maxRecDepth 100000 in
set_option maxHeartbeats 4000000 in
theorem t_X7_mixes_L17 {l : Launch} {γ : Gm} {ad : Nat → Nat} {K : Option Value → Hp → Prop}  (hc : Cx l γ 3 8 ad shM RX7 cX7_mixes none K) {x0 : Nat} {x1 : Int32} {x2 : Int32} {x3 : Int32} {x4 : Int32} {v : (Int32)} {σ : Hp} {KX : (Unit) → Hp → Prop} (h : wpO (wh (f_X7_mixes_L17 x0 x1 x2 x3 x4) v σ) KX) (kx94 : ∀ (v : Unit) (σ : Hp), KX v σ → WW l γ 3 8 ad shM 94 [(0, .ref (ad x0)), (1, .int x1), (2, .int x2), (3, .int x3), (4, .int x4)] [] σ) : WW l γ 3 8 ad shM 17 [(0, .ref (ad x0)), (1, .int x1), (2, .int x2), (3, .int x3), (4, .int x4), (5, .int v)] [] σ := by
  refine wh_W (P := fun v σ => WW l γ 3 8 ad shM 17 [(0, .ref (ad x0)), (1, .int x1), (2, .int x2), (3, .int x3), (4, .int x4), (5, .int v)] [] σ) (fun v σ h => ?_) h
  have kn : ∀ (v : (Int32)) (σ : Hp), WW l γ 3 8 ad shM 17 [(0, .ref (ad x0)), (1, .int x1), (2, .int x2), (3, .int x3), (4, .int x4), (5, .int v)] [] σ → WW l γ 3 8 ad shM 17 [(0, .ref (ad x0)), (1, .int x1), (2, .int x2), (3, .int x3), (4, .int x4), (5, .int v)] [] σ := fun _ _ h => h
  · unfold f_X7_mixes_L17 at h
    refine r_iload hc 5 rfl dX7_mixes_17 ?_
    refine r_aload_n hc 0 rfl rfl dX7_mixes_19 ?_
    obtain ⟨v1, ev1, h⟩ := wp_g h
    refine r_getR hc ev1 fl_X7_7 rfl dX7_mixes_20 ?_
    refine r_iload_n hc 1 rfl rfl dX7_mixes_23 ?_
    obtain ⟨v2, ev2, h⟩ := wp_g h
    refine r_iald hc ev2 dX7_mixes_24 ?_
    refine r_icmp_ge hc (tgt := 94) dX7_mixes_25 (by decide) (fun c => ?_) (fun c => ?_)
    · have h := wp_t c h
      refine r_sub [0, 1, 2, 3, 4] (lv' := [(0, .ref (ad x0)), (1, .int x1), (2, .int x2), (3, .int x3), (4, .int x4)]) rfl ?_
      have h := wp_v h
      exact kx94 () _ h
    · have h := wp_f c h
      refine r_aload_n hc 0 rfl rfl dX7_mixes_28 ?_
      refine r_iload_n hc 1 rfl rfl dX7_mixes_29 ?_
      refine r_iload hc 4 rfl dX7_mixes_30 ?_
      refine r_iload hc 5 rfl dX7_mixes_32 ?_
      obtain ⟨_, ek5, h⟩ := wp_g h
      obtain ⟨r3, σ4, er3, h⟩ := wp_b h
      refine r_callV hc (k0 := x0) mv_X7_isLine ml_X7_125 (c_X7_isLine er3) (chk_of ek5) cls_7.1 rfl rfl rfl (by decide) rfl (Nat.le_of_ble_eq_true rfl) dX7_mixes_34 ?_
      refine r_istoreE hc (i := 6) (lv' := [(6, .int r3), (0, .ref (ad x0)), (1, .int x1), (2, .int x2), (3, .int x3), (4, .int x4), (5, .int v)]) rfl (by decide) rfl dX7_mixes_37 ?_
      refine r_aload_n hc 1 rfl rfl dX7_mixes_39 ?_
      refine r_iload_n hc 3 rfl rfl dX7_mixes_40 ?_
      refine r_iload hc 5 rfl dX7_mixes_41 ?_
      refine r_iload hc 6 rfl dX7_mixes_43 ?_
      obtain ⟨_, ek8, h⟩ := wp_g h
      obtain ⟨r6, σ7, er6, h⟩ := wp_b h
      refine r_callV hc (k0 := x0) mv_X7_isLine ml_X7_125 (c_X7_isLine er6) (chk_of ek8) cls_7.1 rfl rfl rfl (by decide) rfl (Nat.le_of_ble_eq_true rfl) dX7_mixes_45 ?_
      refine r_istoreE hc (i := 7) (lv' := [(7, .int r6), (6, .int r3), (0, .ref (ad x0)), (1, .int x1), (2, .int x2), (3, .int x3), (4, .int x4), (5, .int v)]) rfl (by decide) rfl dX7_mixes_48 ?_
      refine r_iload_n hc 5 rfl rfl dX7_mixes_50 ?_
      refine r_if_eq hc (tgt := 67) dX7_mixes_51 (by decide) (fun c => ?_) (fun c => ?_)
      · have h := wp_t c h
        refine r_iload hc 1 rfl dX7_mixes_67 ?_
        refine r_if_ne hc (tgt := 77) dX7_mixes_69 (by decide) (fun c => ?_) (fun c => ?_)
        · have h := wp_f c h
          refine r_sub [2, 3, 4, 5, 6, 7] (lv' := [(0, .ref (ad x0)), (1, .int x1), (2, .int x2), (3, .int x3), (4, .int x4), (5, .int v)]) rfl ?_
          exact t_X7_mixes_b77 hc h kn kx94
        · have h := wp_t c h
          refine r_iload hc 0 rfl dX7_mixes_72 ?_
          refine r_if_eq hc (tgt := 88) dX7_mixes_74 (by decide) (fun c => ?_) (fun c => ?_)
          · have h := wp_t c h
            refine r_sub [2, 3, 4, 5, 6, 7] (lv' := [(0, .ref (ad x0)), (1, .int x1), (2, .int x2), (3, .int x3), (4, .int x4), (5, .int v)]) rfl ?_
            exact t_X7_mixes_b88 hc h kn kx94
          · have h := wp_f c h
            refine r_sub [2, 3, 4, 5, 6, 7] (lv' := [(0, .ref (ad x0)), (1, .int x1), (2, .int x2), (3, .int x3), (4, .int x4), (5, .int v)]) rfl ?_
            exact t_X7_mixes_b77 hc h kn kx94
      · have h := wp_f c h
        refine r_iload hc 1 rfl dX7_mixes_54 ?_
        refine r_if_eq hc (tgt := 88) dX7_mixes_56 (by decide) (fun c => ?_) (fun c => ?_)
        · have h := wp_t c h
          refine r_sub [2, 3, 4, 5, 6, 7] (lv' := [(0, .ref (ad x0)), (1, .int x1), (2, .int x2), (3, .int x3), (4, .int x4), (5, .int v)]) rfl ?_
          exact t_X7_mixes_b88 hc h kn kx94
        · have h := wp_f c h
          refine r_iload hc 0 rfl dX7_mixes_59 ?_
          refine r_if_eq hc (tgt := 88) dX7_mixes_61 (by decide) (fun c => ?_) (fun c => ?_)
          · have h := wp_t c h
            refine r_sub [2, 3, 4, 5, 6, 7] (lv' := [(0, .ref (ad x0)), (1, .int x1), (2, .int x2), (3, .int x3), (4, .int x4), (5, .int v)]) rfl ?_
            exact t_X7_mixes_b88 hc h kn kx94
          · have h := wp_f c h
            refine r_goto hc (tgt := 77) dX7_mixes_64 (by decide) ?_
            refine r_sub [2, 3, 4, 5, 6, 7] (lv' := [(0, .ref (ad x0)), (1, .int x1), (2, .int x2), (3, .int x3), (4, .int x4), (5, .int v)]) rfl ?_
            exact t_X7_mixes_b77 hc h kn kx94
noncomputable def f_X7_mixes_L3 (x0 : Nat) (x1 : Int32) (x2 : Int32) (x3 : Int32) (v : (Int32)) (σ : Hp) : Option (((Int32) ⊕ (Unit)) × Hp) := gO (getR shM 7 x0 0 σ) fun v1 => gO (aldI shM 0 v1 x1 σ) fun v2 => if v2 ≤ v then (some (Sum.inr (), σ)) else (bO (wh (f_X7_mixes_L17 x0 x1 x2 x3 v) 0 σ) fun y3 σ4 => (some (Sum.inl (v + 1), σ4)))
set_option maxRecDepth 100000 in
set_option maxHeartbeats 4000000 in
theorem t_X7_mixes_L3 {l : Launch} {γ : Gm} {ad : Nat → Nat} {K : Option Value → Hp → Prop}  (hc : Cx l γ 3 8 ad shM RX7 cX7_mixes none K) {x0 : Nat} {x1 : Int32} {x2 : Int32} {x3 : Int32} {v : (Int32)} {σ : Hp} {KX : (Unit) → Hp → Prop} (h : wpO (wh (f_X7_mixes_L3 x0 x1 x2 x3) v σ) KX) (kx100 : ∀ (v : Unit) (σ : Hp), KX v σ → WW l γ 3 8 ad shM 100 [] [] σ) : WW l γ 3 8 ad shM 3 [(0, .ref (ad x0)), (1, .int x1), (2, .int x2), (3, .int x3), (4, .int v)] [] σ := by
  refine wh_W (P := fun v σ => WW l γ 3 8 ad shM 3 [(0, .ref (ad x0)), (1, .int x1), (2, .int x2), (3, .int x3), (4, .int v)] [] σ) (fun v σ h => ?_) h
  have kn : ∀ (v : (Int32)) (σ : Hp), WW l γ 3 8 ad shM 3 [(0, .ref (ad x0)), (1, .int x1), (2, .int x2), (3, .int x3), (4, .int v)] [] σ → WW l γ 3 8 ad shM 3 [(0, .ref (ad x0)), (1, .int x1), (2, .int x2), (3, .int x3), (4, .int v)] [] σ := fun _ _ h => h
  · unfold f_X7_mixes_L3 at h
    refine r_iload hc 4 rfl dX7_mixes_3 ?_
    refine r_aload_n hc 0 rfl rfl dX7_mixes_5 ?_
    obtain ⟨v1, ev1, h⟩ := wp_g h
    refine r_getR hc ev1 fl_X7_7 rfl dX7_mixes_6 ?_
    refine r_iload_n hc 1 rfl rfl dX7_mixes_9 ?_
    obtain ⟨v2, ev2, h⟩ := wp_g h
    refine r_iald hc ev2 dX7_mixes_10 ?_
    refine r_icmp_ge hc (tgt := 100) dX7_mixes_11 (by decide) (fun c => ?_) (fun c => ?_)
    · have h := wp_t c h
      refine r_sub [] (lv' := []) rfl ?_
      have h := wp_v h
      exact kx100 () _ h
    · have h := wp_f c h
      refine r_iconst hc (v := 0) (by decide) dX7_mixes_14 ?_
      refine r_istoreE hc (i := 5) (lv' := [(5, .int 0), (0, .ref (ad x0)), (1, .int x1), (2, .int x2), (3, .int x3), (4, .int v)]) rfl (by decide) rfl dX7_mixes_15 ?_
      refine r_sub [1, 2, 3, 4, 5, 0] (lv' := [(0, .ref (ad x0)), (1, .int x1), (2, .int x2), (3, .int x3), (4, .int v), (5, .int 0)]) rfl ?_
      refine t_X7_mixes_L17 hc (wp_bb h) ?_
      · intro y3 σ4 h
        refine r_iincE hc (j := 4) (w := 1) (lv' := [(4, .int (v + 1)), (0, .ref (ad x0)), (1, .int x1), (2, .int x2), (3, .int x3)]) rfl (by decide) rfl (by decide) rfl dX7_mixes_94 ?_
        refine r_goto hc (tgt := 3) dX7_mixes_97 (by decide) ?_
        refine r_sub [1, 2, 3, 4, 0] (lv' := [(0, .ref (ad x0)), (1, .int x1), (2, .int x2), (3, .int x3), (4, .int (v + 1))]) rfl ?_
        have h := wp_v h
        exact kn (v + 1) _ h
noncomputable def f_X7_mixes (x0 : Nat) (x1 : Int32) (x2 : Int32) (x3 : Int32) (σ : Hp) : Option (Unit × Hp) := bO (wh (f_X7_mixes_L3 x0 x1 x2 x3) 0 σ) fun y1 σ2 => (some ((), σ2))
set_option maxRecDepth 100000 in
set_option maxHeartbeats 4000000 in
theorem t_X7_mixes {l : Launch} {γ : Gm} {ad : Nat → Nat} {K : Option Value → Hp → Prop} (hc : Cx l γ 3 8 ad shM RX7 cX7_mixes none K) {x0 : Nat} {x1 : Int32} {x2 : Int32} {x3 : Int32} {σ : Hp} (h : wpO (f_X7_mixes x0 x1 x2 x3 σ) (KU K)) : WW l γ 3 8 ad shM 0 [(0, .ref (ad x0)), (1, .int x1), (2, .int x2), (3, .int x3)] [] σ := by
  unfold f_X7_mixes at h
  refine r_iconst hc (v := 0) (by decide) dX7_mixes_0 ?_
  refine r_istoreE hc (i := 4) (lv' := [(4, .int 0), (0, .ref (ad x0)), (1, .int x1), (2, .int x2), (3, .int x3)]) rfl (by decide) rfl dX7_mixes_1 ?_
  refine r_sub [1, 2, 3, 4, 0] (lv' := [(0, .ref (ad x0)), (1, .int x1), (2, .int x2), (3, .int x3), (4, .int 0)]) rfl ?_
  refine t_X7_mixes_L3 hc (wp_bb h) ?_
  · intro y1 σ2 h
    have h := wp_v h
    exact r_vret hc h dX7_mixes_100
theorem c_X7_mixes {l : Launch} {x0 : Nat} {x1 : Int32} {x2 : Int32} {x3 : Int32} {σ σ' : Hp} {r : Unit} (h : f_X7_mixes x0 x1 x2 x3 σ = some (r, σ')) : Mt l yX7_mixes cX7_mixes 8 none 3 shM (fun ad => [.ref (ad x0), .int x1, .int x2, .int x3]) σ (fun ad => none) σ' := mt_i (own := RX7) (by decide) rfl (fun _ => Nat.le_of_ble_eq_true rfl) (fun γ ad K hc hk => t_X7_mixes hc ⟨_, _, h, hk⟩)

-- NetMapsModel.make(IIII)I
theorem dX7_make_0 : decode cX7_make 0 = .ok (.iload_n 1, 1) := by decide +kernel
theorem dX7_make_1 : decode cX7_make 1 = .ok (.invokestatic 132, 3) := by decide +kernel
theorem dX7_make_4 : decode cX7_make 4 = .ok (.ifCond .eq 27, 3) := by decide +kernel
theorem dX7_make_7 : decode cX7_make 7 = .ok (.iload_n 2, 1) := by decide +kernel
theorem dX7_make_8 : decode cX7_make 8 = .ok (.invokestatic 132, 3) := by decide +kernel
theorem dX7_make_11 : decode cX7_make 11 = .ok (.ifCond .eq 20, 3) := by decide +kernel
theorem dX7_make_14 : decode cX7_make 14 = .ok (.iload_n 3, 1) := by decide +kernel
theorem dX7_make_15 : decode cX7_make 15 = .ok (.invokestatic 132, 3) := by decide +kernel
theorem dX7_make_18 : decode cX7_make 18 = .ok (.ifCond .eq 13, 3) := by decide +kernel
theorem dX7_make_21 : decode cX7_make 21 = .ok (.iload 4, 2) := by decide +kernel
theorem dX7_make_23 : decode cX7_make 23 = .ok (.iconst 0, 1) := by decide +kernel
theorem dX7_make_24 : decode cX7_make 24 = .ok (.iconst 4, 1) := by decide +kernel
theorem dX7_make_25 : decode cX7_make 25 = .ok (.invokestatic 81, 3) := by decide +kernel
theorem dX7_make_28 : decode cX7_make 28 = .ok (.ifCond .ne 5, 3) := by decide +kernel
theorem dX7_make_31 : decode cX7_make 31 = .ok (.iconst (-1), 1) := by decide +kernel
theorem dX7_make_32 : decode cX7_make 32 = .ok (.ireturn, 1) := by decide +kernel
theorem dX7_make_33 : decode cX7_make 33 = .ok (.aload_n 0, 1) := by decide +kernel
theorem dX7_make_34 : decode cX7_make 34 = .ok (.iload_n 1, 1) := by decide +kernel
theorem dX7_make_35 : decode cX7_make 35 = .ok (.invokevirtual 85, 3) := by decide +kernel
theorem dX7_make_38 : decode cX7_make 38 = .ok (.ifCond .ne 11, 3) := by decide +kernel
theorem dX7_make_41 : decode cX7_make 41 = .ok (.aload_n 0, 1) := by decide +kernel
theorem dX7_make_42 : decode cX7_make 42 = .ok (.iload_n 2, 1) := by decide +kernel
theorem dX7_make_43 : decode cX7_make 43 = .ok (.invokevirtual 85, 3) := by decide +kernel
theorem dX7_make_46 : decode cX7_make 46 = .ok (.ifCond .eq 6, 3) := by decide +kernel
theorem dX7_make_49 : decode cX7_make 49 = .ok (.bipush (-2), 2) := by decide +kernel
theorem dX7_make_51 : decode cX7_make 51 = .ok (.ireturn, 1) := by decide +kernel
theorem dX7_make_52 : decode cX7_make 52 = .ok (.iload 4, 2) := by decide +kernel
theorem dX7_make_54 : decode cX7_make 54 = .ok (.ifCond .ne 19, 3) := by decide +kernel
theorem dX7_make_57 : decode cX7_make 57 = .ok (.aload_n 0, 1) := by decide +kernel
theorem dX7_make_58 : decode cX7_make 58 = .ok (.getfield 7, 3) := by decide +kernel
theorem dX7_make_61 : decode cX7_make 61 = .ok (.iload_n 1, 1) := by decide +kernel
theorem dX7_make_62 : decode cX7_make 62 = .ok (.iaload, 1) := by decide +kernel
theorem dX7_make_63 : decode cX7_make 63 = .ok (.aload_n 0, 1) := by decide +kernel
theorem dX7_make_64 : decode cX7_make 64 = .ok (.getfield 7, 3) := by decide +kernel
theorem dX7_make_67 : decode cX7_make 67 = .ok (.iload_n 2, 1) := by decide +kernel
theorem dX7_make_68 : decode cX7_make 68 = .ok (.iaload, 1) := by decide +kernel
theorem dX7_make_69 : decode cX7_make 69 = .ok (.iadd, 1) := by decide +kernel
theorem dX7_make_70 : decode cX7_make 70 = .ok (.goto 46, 3) := by decide +kernel
theorem dX7_make_73 : decode cX7_make 73 = .ok (.iload 4, 2) := by decide +kernel
theorem dX7_make_75 : decode cX7_make 75 = .ok (.iconst 1, 1) := by decide +kernel
theorem dX7_make_76 : decode cX7_make 76 = .ok (.if_icmp .ne 19, 3) := by decide +kernel
theorem dX7_make_79 : decode cX7_make 79 = .ok (.aload_n 0, 1) := by decide +kernel
theorem dX7_make_80 : decode cX7_make 80 = .ok (.getfield 7, 3) := by decide +kernel
theorem dX7_make_83 : decode cX7_make 83 = .ok (.iload_n 1, 1) := by decide +kernel
theorem dX7_make_84 : decode cX7_make 84 = .ok (.iaload, 1) := by decide +kernel
theorem dX7_make_85 : decode cX7_make 85 = .ok (.aload_n 0, 1) := by decide +kernel
theorem dX7_make_86 : decode cX7_make 86 = .ok (.getfield 7, 3) := by decide +kernel
theorem dX7_make_89 : decode cX7_make 89 = .ok (.iload_n 2, 1) := by decide +kernel
theorem dX7_make_90 : decode cX7_make 90 = .ok (.iaload, 1) := by decide +kernel
theorem dX7_make_91 : decode cX7_make 91 = .ok (.imul, 1) := by decide +kernel
theorem dX7_make_92 : decode cX7_make 92 = .ok (.goto 24, 3) := by decide +kernel
theorem dX7_make_95 : decode cX7_make 95 = .ok (.iload 4, 2) := by decide +kernel
theorem dX7_make_97 : decode cX7_make 97 = .ok (.iconst 4, 1) := by decide +kernel
theorem dX7_make_98 : decode cX7_make 98 = .ok (.if_icmp .ne 12, 3) := by decide +kernel
theorem dX7_make_101 : decode cX7_make 101 = .ok (.aload_n 0, 1) := by decide +kernel
theorem dX7_make_102 : decode cX7_make 102 = .ok (.iload_n 1, 1) := by decide +kernel
theorem dX7_make_103 : decode cX7_make 103 = .ok (.iload_n 2, 1) := by decide +kernel
theorem dX7_make_104 : decode cX7_make 104 = .ok (.invokevirtual 178, 3) := by decide +kernel
theorem dX7_make_107 : decode cX7_make 107 = .ok (.goto 9, 3) := by decide +kernel
theorem dX7_make_110 : decode cX7_make 110 = .ok (.aload_n 0, 1) := by decide +kernel
theorem dX7_make_111 : decode cX7_make 111 = .ok (.getfield 7, 3) := by decide +kernel
theorem dX7_make_114 : decode cX7_make 114 = .ok (.iload_n 1, 1) := by decide +kernel
theorem dX7_make_115 : decode cX7_make 115 = .ok (.iaload, 1) := by decide +kernel
theorem dX7_make_116 : decode cX7_make 116 = .ok (.istore 5, 2) := by decide +kernel
theorem dX7_make_118 : decode cX7_make 118 = .ok (.iload 5, 2) := by decide +kernel
theorem dX7_make_120 : decode cX7_make 120 = .ok (.bipush 7, 2) := by decide +kernel
theorem dX7_make_122 : decode cX7_make 122 = .ok (.if_icmp .gt 28, 3) := by decide +kernel
theorem dX7_make_125 : decode cX7_make 125 = .ok (.iload 4, 2) := by decide +kernel
theorem dX7_make_127 : decode cX7_make 127 = .ok (.iconst 2, 1) := by decide +kernel
theorem dX7_make_128 : decode cX7_make 128 = .ok (.iconst 3, 1) := by decide +kernel
theorem dX7_make_129 : decode cX7_make 129 = .ok (.invokestatic 81, 3) := by decide +kernel
theorem dX7_make_132 : decode cX7_make 132 = .ok (.ifCond .eq 21, 3) := by decide +kernel
theorem dX7_make_135 : decode cX7_make 135 = .ok (.aload_n 0, 1) := by decide +kernel
theorem dX7_make_136 : decode cX7_make 136 = .ok (.getfield 7, 3) := by decide +kernel
theorem dX7_make_139 : decode cX7_make 139 = .ok (.iload_n 1, 1) := by decide +kernel
theorem dX7_make_140 : decode cX7_make 140 = .ok (.iaload, 1) := by decide +kernel
theorem dX7_make_141 : decode cX7_make 141 = .ok (.aload_n 0, 1) := by decide +kernel
theorem dX7_make_142 : decode cX7_make 142 = .ok (.getfield 7, 3) := by decide +kernel
theorem dX7_make_145 : decode cX7_make 145 = .ok (.iload_n 2, 1) := by decide +kernel
theorem dX7_make_146 : decode cX7_make 146 = .ok (.iaload, 1) := by decide +kernel
theorem dX7_make_147 : decode cX7_make 147 = .ok (.if_icmp .eq 6, 3) := by decide +kernel
theorem dX7_make_150 : decode cX7_make 150 = .ok (.bipush (-3), 2) := by decide +kernel
theorem dX7_make_152 : decode cX7_make 152 = .ok (.ireturn, 1) := by decide +kernel
theorem dX7_make_153 : decode cX7_make 153 = .ok (.aload_n 0, 1) := by decide +kernel
theorem dX7_make_154 : decode cX7_make 154 = .ok (.bipush 7, 2) := by decide +kernel
theorem dX7_make_156 : decode cX7_make 156 = .ok (.iload 5, 2) := by decide +kernel
theorem dX7_make_158 : decode cX7_make 158 = .ok (.invokevirtual 121, 3) := by decide +kernel
theorem dX7_make_161 : decode cX7_make 161 = .ok (.iload 4, 2) := by decide +kernel
theorem dX7_make_163 : decode cX7_make 163 = .ok (.ifCond .ne 12, 3) := by decide +kernel
theorem dX7_make_166 : decode cX7_make 166 = .ok (.aload_n 0, 1) := by decide +kernel
theorem dX7_make_167 : decode cX7_make 167 = .ok (.iload_n 1, 1) := by decide +kernel
theorem dX7_make_168 : decode cX7_make 168 = .ok (.iload_n 2, 1) := by decide +kernel
theorem dX7_make_169 : decode cX7_make 169 = .ok (.invokevirtual 181, 3) := by decide +kernel
theorem dX7_make_172 : decode cX7_make 172 = .ok (.goto 50, 3) := by decide +kernel
theorem dX7_make_175 : decode cX7_make 175 = .ok (.iload 4, 2) := by decide +kernel
theorem dX7_make_177 : decode cX7_make 177 = .ok (.iconst 1, 1) := by decide +kernel
theorem dX7_make_178 : decode cX7_make 178 = .ok (.if_icmp .ne 12, 3) := by decide +kernel
theorem dX7_make_181 : decode cX7_make 181 = .ok (.aload_n 0, 1) := by decide +kernel
theorem dX7_make_182 : decode cX7_make 182 = .ok (.iload_n 1, 1) := by decide +kernel
theorem dX7_make_183 : decode cX7_make 183 = .ok (.iload_n 2, 1) := by decide +kernel
theorem dX7_make_184 : decode cX7_make 184 = .ok (.invokevirtual 184, 3) := by decide +kernel
theorem dX7_make_187 : decode cX7_make 187 = .ok (.goto 35, 3) := by decide +kernel
theorem dX7_make_190 : decode cX7_make 190 = .ok (.iload 4, 2) := by decide +kernel
theorem dX7_make_192 : decode cX7_make 192 = .ok (.iconst 4, 1) := by decide +kernel
theorem dX7_make_193 : decode cX7_make 193 = .ok (.if_icmp .ne 12, 3) := by decide +kernel
theorem dX7_make_196 : decode cX7_make 196 = .ok (.aload_n 0, 1) := by decide +kernel
theorem dX7_make_197 : decode cX7_make 197 = .ok (.iload_n 1, 1) := by decide +kernel
theorem dX7_make_198 : decode cX7_make 198 = .ok (.iload_n 2, 1) := by decide +kernel
theorem dX7_make_199 : decode cX7_make 199 = .ok (.invokevirtual 187, 3) := by decide +kernel
theorem dX7_make_202 : decode cX7_make 202 = .ok (.goto 20, 3) := by decide +kernel
theorem dX7_make_205 : decode cX7_make 205 = .ok (.aload_n 0, 1) := by decide +kernel
theorem dX7_make_206 : decode cX7_make 206 = .ok (.iload_n 1, 1) := by decide +kernel
theorem dX7_make_207 : decode cX7_make 207 = .ok (.iload_n 2, 1) := by decide +kernel
theorem dX7_make_208 : decode cX7_make 208 = .ok (.iload 4, 2) := by decide +kernel
theorem dX7_make_210 : decode cX7_make 210 = .ok (.iconst 3, 1) := by decide +kernel
theorem dX7_make_211 : decode cX7_make 211 = .ok (.if_icmp .ne 7, 3) := by decide +kernel
theorem dX7_make_214 : decode cX7_make 214 = .ok (.iconst 1, 1) := by decide +kernel
theorem dX7_make_215 : decode cX7_make 215 = .ok (.goto 4, 3) := by decide +kernel
theorem dX7_make_218 : decode cX7_make 218 = .ok (.iconst 0, 1) := by decide +kernel
theorem dX7_make_219 : decode cX7_make 219 = .ok (.invokevirtual 190, 3) := by decide +kernel
theorem dX7_make_222 : decode cX7_make 222 = .ok (.aload_n 0, 1) := by decide +kernel
theorem dX7_make_223 : decode cX7_make 223 = .ok (.bipush 7, 2) := by decide +kernel
theorem dX7_make_225 : decode cX7_make 225 = .ok (.iload_n 3, 1) := by decide +kernel
theorem dX7_make_226 : decode cX7_make 226 = .ok (.invokevirtual 138, 3) := by decide +kernel
theorem dX7_make_229 : decode cX7_make 229 = .ok (.aload_n 0, 1) := by decide +kernel
theorem dX7_make_230 : decode cX7_make 230 = .ok (.iload_n 3, 1) := by decide +kernel
theorem dX7_make_231 : decode cX7_make 231 = .ok (.invokevirtual 141, 3) := by decide +kernel
theorem dX7_make_234 : decode cX7_make 234 = .ok (.ireturn, 1) := by decide +kernel
noncomputable def f_X7_make_b31  (σ : Hp) : Option (Int32 × Hp) := some ((-1), σ)
set_option maxRecDepth 100000 in
set_option maxHeartbeats 4000000 in
theorem t_X7_make_b31 {l : Launch} {γ : Gm} {ad : Nat → Nat} {K : Option Value → Hp → Prop} (hc : Cx l γ 5 6 ad shM RX7 cX7_make (some .int) K)  {σ : Hp} (h : wpO (f_X7_make_b31  σ) (KI K)) : WW l γ 5 6 ad shM 31 [] [] σ := by
  unfold f_X7_make_b31 at h
  refine r_iconst hc (v := (-1)) (by decide) dX7_make_31 ?_
  have h := wp_v h
  exact r_iret hc h dX7_make_32
noncomputable def f_X7_make_b49  (σ : Hp) : Option (Int32 × Hp) := some ((-2), σ)
set_option maxRecDepth 100000 in
set_option maxHeartbeats 4000000 in
theorem t_X7_make_b49 {l : Launch} {γ : Gm} {ad : Nat → Nat} {K : Option Value → Hp → Prop} (hc : Cx l γ 5 6 ad shM RX7 cX7_make (some .int) K)  {σ : Hp} (h : wpO (f_X7_make_b49  σ) (KI K)) : WW l γ 5 6 ad shM 49 [] [] σ := by
  unfold f_X7_make_b49 at h
  refine r_bipush hc (v := (-2)) (by decide) dX7_make_49 ?_
  have h := wp_v h
  exact r_iret hc h dX7_make_51
noncomputable def f_X7_make_b150  (σ : Hp) : Option (Int32 × Hp) := some ((-3), σ)
set_option maxRecDepth 100000 in
set_option maxHeartbeats 4000000 in
theorem t_X7_make_b150 {l : Launch} {γ : Gm} {ad : Nat → Nat} {K : Option Value → Hp → Prop} (hc : Cx l γ 5 6 ad shM RX7 cX7_make (some .int) K)  {σ : Hp} (h : wpO (f_X7_make_b150  σ) (KI K)) : WW l γ 5 6 ad shM 150 [] [] σ := by
  unfold f_X7_make_b150 at h
  refine r_bipush hc (v := (-3)) (by decide) dX7_make_150 ?_
  have h := wp_v h
  exact r_iret hc h dX7_make_152
noncomputable def f_X7_make_b222 (x0 : Nat) (x3 : Int32) (σ : Hp) : Option (Int32 × Hp) := gO (chk shM x0 7) fun _ => bO (f_X7_copies x0 7 x3 σ) fun _ σ2 => gO (chk shM x0 7) fun _ => bO (f_X7_lines x0 x3 σ2) fun r4 σ5 => some (r4, σ5)
set_option maxRecDepth 100000 in
set_option maxHeartbeats 4000000 in
theorem t_X7_make_b222 {l : Launch} {γ : Gm} {ad : Nat → Nat} {K : Option Value → Hp → Prop} (hc : Cx l γ 5 6 ad shM RX7 cX7_make (some .int) K) {x0 : Nat} {x3 : Int32} {σ : Hp} (h : wpO (f_X7_make_b222 x0 x3 σ) (KI K)) : WW l γ 5 6 ad shM 222 [(0, .ref (ad x0)), (3, .int x3)] [] σ := by
  unfold f_X7_make_b222 at h
  refine r_aload_n hc 0 rfl rfl dX7_make_222 ?_
  refine r_bipush hc (v := 7) (by decide) dX7_make_223 ?_
  refine r_iload_n hc 1 rfl rfl dX7_make_225 ?_
  obtain ⟨_, ek3, h⟩ := wp_g h
  obtain ⟨_, σ2, er1, h⟩ := wp_b h
  refine r_callV hc (k0 := x0) mv_X7_copies ml_X7_138 (c_X7_copies er1) (chk_of ek3) cls_7.1 rfl rfl rfl (by decide) rfl (Nat.le_of_ble_eq_true rfl) dX7_make_226 ?_
  refine r_aload_n hc 0 rfl rfl dX7_make_229 ?_
  refine r_iload_n hc 1 rfl rfl dX7_make_230 ?_
  obtain ⟨_, ek6, h⟩ := wp_g h
  obtain ⟨r4, σ5, er4, h⟩ := wp_b h
  refine r_callV hc (k0 := x0) mv_X7_lines ml_X7_141 (c_X7_lines er4) (chk_of ek6) cls_7.1 rfl rfl rfl (by decide) rfl (Nat.le_of_ble_eq_true rfl) dX7_make_231 ?_
  have h := wp_v h
  exact r_iret hc h dX7_make_234
noncomputable def f_X7_make_b219 (x0 : Nat) (x3 : Int32) (s0 : Nat) (s1 : Int32) (s2 : Int32) (s3 : Int32) (σ : Hp) : Option (Int32 × Hp) := gO (chk shM s0 7) fun _ => bO (f_X7_mixes s0 s1 s2 s3 σ) fun _ σ2 => f_X7_make_b222 x0 x3 σ2
set_option maxRecDepth 100000 in
set_option maxHeartbeats 4000000 in
theorem t_X7_make_b219 {l : Launch} {γ : Gm} {ad : Nat → Nat} {K : Option Value → Hp → Prop} (hc : Cx l γ 5 6 ad shM RX7 cX7_make (some .int) K) {x0 : Nat} {x3 : Int32} {s0 : Nat} {s1 : Int32} {s2 : Int32} {s3 : Int32} {σ : Hp} (h : wpO (f_X7_make_b219 x0 x3 s0 s1 s2 s3 σ) (KI K)) : WW l γ 5 6 ad shM 219 [(0, .ref (ad x0)), (3, .int x3)] [.int s3, .int s2, .int s1, .ref (ad s0)] σ := by
  unfold f_X7_make_b219 at h
  obtain ⟨_, ek3, h⟩ := wp_g h
  obtain ⟨_, σ2, er1, h⟩ := wp_b h
  refine r_callV hc (k0 := s0) mv_X7_mixes ml_X7_190 (c_X7_mixes er1) (chk_of ek3) cls_7.1 rfl rfl rfl (by decide) rfl (Nat.le_of_ble_eq_true rfl) dX7_make_219 ?_
  exact t_X7_make_b222 hc h
noncomputable def f_X7_make_b153 (x0 : Nat) (x1 : Int32) (x2 : Int32) (x3 : Int32) (x4 : Int32) (x5 : Int32) (σ : Hp) : Option (Int32 × Hp) := gO (chk shM x0 7) fun _ => bO (f_X7_begins x0 7 x5 σ) fun _ σ2 => if x4 = 0 then (gO (chk shM x0 7) fun _ => bO (f_X7_sums x0 x1 x2 σ2) fun _ σ11 => f_X7_make_b222 x0 x3 σ11) else (if x4 = 1 then (gO (chk shM x0 7) fun _ => bO (f_X7_products x0 x1 x2 σ2) fun _ σ8 => f_X7_make_b222 x0 x3 σ8) else (if x4 = 4 then (gO (chk shM x0 7) fun _ => bO (f_X7_powers x0 x1 x2 σ2) fun _ σ5 => f_X7_make_b222 x0 x3 σ5) else (if x4 = 3 then (f_X7_make_b219 x0 x3 x0 x1 x2 1 σ2) else (f_X7_make_b219 x0 x3 x0 x1 x2 0 σ2))))
set_option maxRecDepth 100000 in
set_option maxHeartbeats 4000000 in
theorem t_X7_make_b153 {l : Launch} {γ : Gm} {ad : Nat → Nat} {K : Option Value → Hp → Prop} (hc : Cx l γ 5 6 ad shM RX7 cX7_make (some .int) K) {x0 : Nat} {x1 : Int32} {x2 : Int32} {x3 : Int32} {x4 : Int32} {x5 : Int32} {σ : Hp} (h : wpO (f_X7_make_b153 x0 x1 x2 x3 x4 x5 σ) (KI K)) : WW l γ 5 6 ad shM 153 [(0, .ref (ad x0)), (1, .int x1), (2, .int x2), (3, .int x3), (4, .int x4), (5, .int x5)] [] σ := by
  unfold f_X7_make_b153 at h
  refine r_aload_n hc 0 rfl rfl dX7_make_153 ?_
  refine r_bipush hc (v := 7) (by decide) dX7_make_154 ?_
  refine r_iload hc 5 rfl dX7_make_156 ?_
  obtain ⟨_, ek3, h⟩ := wp_g h
  obtain ⟨_, σ2, er1, h⟩ := wp_b h
  refine r_callV hc (k0 := x0) mv_X7_begins ml_X7_121 (c_X7_begins er1) (chk_of ek3) cls_7.1 rfl rfl rfl (by decide) rfl (Nat.le_of_ble_eq_true rfl) dX7_make_158 ?_
  refine r_iload hc 4 rfl dX7_make_161 ?_
  refine r_if_ne hc (tgt := 175) dX7_make_163 (by decide) (fun c => ?_) (fun c => ?_)
  · have h := wp_f c h
    refine r_iload hc 4 rfl dX7_make_175 ?_
    refine r_iconst hc (v := 1) (by decide) dX7_make_177 ?_
    refine r_icmp_ne hc (tgt := 190) dX7_make_178 (by decide) (fun c => ?_) (fun c => ?_)
    · have h := wp_f c h
      refine r_iload hc 4 rfl dX7_make_190 ?_
      refine r_iconst hc (v := 4) (by decide) dX7_make_192 ?_
      refine r_icmp_ne hc (tgt := 205) dX7_make_193 (by decide) (fun c => ?_) (fun c => ?_)
      · have h := wp_f c h
        refine r_aload_n hc 0 rfl rfl dX7_make_205 ?_
        refine r_iload_n hc 1 rfl rfl dX7_make_206 ?_
        refine r_iload_n hc 2 rfl rfl dX7_make_207 ?_
        refine r_iload hc 4 rfl dX7_make_208 ?_
        refine r_iconst hc (v := 3) (by decide) dX7_make_210 ?_
        refine r_icmp_ne hc (tgt := 218) dX7_make_211 (by decide) (fun c => ?_) (fun c => ?_)
        · have h := wp_f c h
          refine r_iconst hc (v := 0) (by decide) dX7_make_218 ?_
          refine r_sub [0, 3] (lv' := [(0, .ref (ad x0)), (3, .int x3)]) rfl ?_
          exact t_X7_make_b219 hc h
        · have h := wp_t c h
          refine r_iconst hc (v := 1) (by decide) dX7_make_214 ?_
          refine r_goto hc (tgt := 219) dX7_make_215 (by decide) ?_
          refine r_sub [0, 3] (lv' := [(0, .ref (ad x0)), (3, .int x3)]) rfl ?_
          exact t_X7_make_b219 hc h
      · have h := wp_t c h
        refine r_aload_n hc 0 rfl rfl dX7_make_196 ?_
        refine r_iload_n hc 1 rfl rfl dX7_make_197 ?_
        refine r_iload_n hc 2 rfl rfl dX7_make_198 ?_
        obtain ⟨_, ek6, h⟩ := wp_g h
        obtain ⟨_, σ5, er4, h⟩ := wp_b h
        refine r_callV hc (k0 := x0) mv_X7_powers ml_X7_187 (c_X7_powers er4) (chk_of ek6) cls_7.1 rfl rfl rfl (by decide) rfl (Nat.le_of_ble_eq_true rfl) dX7_make_199 ?_
        refine r_goto hc (tgt := 222) dX7_make_202 (by decide) ?_
        refine r_sub [0, 3] (lv' := [(0, .ref (ad x0)), (3, .int x3)]) rfl ?_
        exact t_X7_make_b222 hc h
    · have h := wp_t c h
      refine r_aload_n hc 0 rfl rfl dX7_make_181 ?_
      refine r_iload_n hc 1 rfl rfl dX7_make_182 ?_
      refine r_iload_n hc 2 rfl rfl dX7_make_183 ?_
      obtain ⟨_, ek9, h⟩ := wp_g h
      obtain ⟨_, σ8, er7, h⟩ := wp_b h
      refine r_callV hc (k0 := x0) mv_X7_products ml_X7_184 (c_X7_products er7) (chk_of ek9) cls_7.1 rfl rfl rfl (by decide) rfl (Nat.le_of_ble_eq_true rfl) dX7_make_184 ?_
      refine r_goto hc (tgt := 222) dX7_make_187 (by decide) ?_
      refine r_sub [0, 3] (lv' := [(0, .ref (ad x0)), (3, .int x3)]) rfl ?_
      exact t_X7_make_b222 hc h
  · have h := wp_t c h
    refine r_aload_n hc 0 rfl rfl dX7_make_166 ?_
    refine r_iload_n hc 1 rfl rfl dX7_make_167 ?_
    refine r_iload_n hc 2 rfl rfl dX7_make_168 ?_
    obtain ⟨_, ek12, h⟩ := wp_g h
    obtain ⟨_, σ11, er10, h⟩ := wp_b h
    refine r_callV hc (k0 := x0) mv_X7_sums ml_X7_181 (c_X7_sums er10) (chk_of ek12) cls_7.1 rfl rfl rfl (by decide) rfl (Nat.le_of_ble_eq_true rfl) dX7_make_169 ?_
    refine r_goto hc (tgt := 222) dX7_make_172 (by decide) ?_
    refine r_sub [0, 3] (lv' := [(0, .ref (ad x0)), (3, .int x3)]) rfl ?_
    exact t_X7_make_b222 hc h
noncomputable def f_X7_make_b116 (x0 : Nat) (x1 : Int32) (x2 : Int32) (x3 : Int32) (x4 : Int32) (s0 : Int32) (σ : Hp) : Option (Int32 × Hp) := if 7 < s0 then (f_X7_make_b150  σ) else (bO (f_X7_in x4 2 3 σ) fun r1 σ2 => if r1 = 0 then (f_X7_make_b153 x0 x1 x2 x3 x4 s0 σ2) else (gO (getR shM 7 x0 0 σ2) fun v3 => gO (aldI shM 0 v3 x1 σ2) fun v4 => gO (getR shM 7 x0 0 σ2) fun v5 => gO (aldI shM 0 v5 x2 σ2) fun v6 => if v4 = v6 then (f_X7_make_b153 x0 x1 x2 x3 x4 s0 σ2) else (f_X7_make_b150  σ2)))
set_option maxRecDepth 100000 in
set_option maxHeartbeats 4000000 in
theorem t_X7_make_b116 {l : Launch} {γ : Gm} {ad : Nat → Nat} {K : Option Value → Hp → Prop} (hc : Cx l γ 5 6 ad shM RX7 cX7_make (some .int) K) {x0 : Nat} {x1 : Int32} {x2 : Int32} {x3 : Int32} {x4 : Int32} {s0 : Int32} {σ : Hp} (h : wpO (f_X7_make_b116 x0 x1 x2 x3 x4 s0 σ) (KI K)) : WW l γ 5 6 ad shM 116 [(0, .ref (ad x0)), (1, .int x1), (2, .int x2), (3, .int x3), (4, .int x4)] [.int s0] σ := by
  unfold f_X7_make_b116 at h
  refine r_istoreE hc (i := 5) (lv' := [(5, .int s0), (0, .ref (ad x0)), (1, .int x1), (2, .int x2), (3, .int x3), (4, .int x4)]) rfl (by decide) rfl dX7_make_116 ?_
  refine r_iload hc 0 rfl dX7_make_118 ?_
  refine r_bipush hc (v := 7) (by decide) dX7_make_120 ?_
  refine r_icmp_gt hc (tgt := 150) dX7_make_122 (by decide) (fun c => ?_) (fun c => ?_)
  · have h := wp_t c h
    refine r_sub [] (lv' := []) rfl ?_
    exact t_X7_make_b150 hc h
  · have h := wp_f c h
    refine r_iload hc 5 rfl dX7_make_125 ?_
    refine r_iconst hc (v := 2) (by decide) dX7_make_127 ?_
    refine r_iconst hc (v := 3) (by decide) dX7_make_128 ?_
    obtain ⟨r1, σ2, er1, h⟩ := wp_b h
    refine r_callS hc ms_X7_in ml_X7_81 (c_X7_in er1) rfl rfl (by decide) rfl (Nat.le_of_ble_eq_true rfl) dX7_make_129 ?_
    refine r_if_eq hc (tgt := 153) dX7_make_132 (by decide) (fun c => ?_) (fun c => ?_)
    · have h := wp_t c h
      refine r_sub [1, 2, 3, 4, 5, 0] (lv' := [(0, .ref (ad x0)), (1, .int x1), (2, .int x2), (3, .int x3), (4, .int x4), (5, .int s0)]) rfl ?_
      exact t_X7_make_b153 hc h
    · have h := wp_f c h
      refine r_aload_n hc 1 rfl rfl dX7_make_135 ?_
      obtain ⟨v3, ev3, h⟩ := wp_g h
      refine r_getR hc ev3 fl_X7_7 rfl dX7_make_136 ?_
      refine r_iload_n hc 2 rfl rfl dX7_make_139 ?_
      obtain ⟨v4, ev4, h⟩ := wp_g h
      refine r_iald hc ev4 dX7_make_140 ?_
      refine r_aload_n hc 1 rfl rfl dX7_make_141 ?_
      obtain ⟨v5, ev5, h⟩ := wp_g h
      refine r_getR hc ev5 fl_X7_7 rfl dX7_make_142 ?_
      refine r_iload_n hc 3 rfl rfl dX7_make_145 ?_
      obtain ⟨v6, ev6, h⟩ := wp_g h
      refine r_iald hc ev6 dX7_make_146 ?_
      refine r_icmp_eq hc (tgt := 153) dX7_make_147 (by decide) (fun c => ?_) (fun c => ?_)
      · have h := wp_t c h
        refine r_sub [1, 2, 3, 4, 5, 0] (lv' := [(0, .ref (ad x0)), (1, .int x1), (2, .int x2), (3, .int x3), (4, .int x4), (5, .int s0)]) rfl ?_
        exact t_X7_make_b153 hc h
      · have h := wp_f c h
        refine r_sub [] (lv' := []) rfl ?_
        exact t_X7_make_b150 hc h
noncomputable def f_X7_make (x0 : Nat) (x1 : Int32) (x2 : Int32) (x3 : Int32) (x4 : Int32) (σ : Hp) : Option (Int32 × Hp) := bO (f_X7_isDrawer x1 σ) fun r1 σ2 => if r1 = 0 then (f_X7_make_b31  σ2) else (bO (f_X7_isDrawer x2 σ2) fun r3 σ4 => if r3 = 0 then (f_X7_make_b31  σ4) else (bO (f_X7_isDrawer x3 σ4) fun r5 σ6 => if r5 = 0 then (f_X7_make_b31  σ6) else (bO (f_X7_in x4 0 4 σ6) fun r7 σ8 => if r7 = 0 then (f_X7_make_b31  σ8) else (gO (chk shM x0 7) fun _ => bO (f_X7_isEmpty x0 x1 σ8) fun r9 σ10 => if r9 = 0 then (gO (chk shM x0 7) fun _ => bO (f_X7_isEmpty x0 x2 σ10) fun r12 σ13 => if r12 = 0 then (if x4 = 0 then (gO (getR shM 7 x0 0 σ13) fun v24 => gO (aldI shM 0 v24 x1 σ13) fun v25 => gO (getR shM 7 x0 0 σ13) fun v26 => gO (aldI shM 0 v26 x2 σ13) fun v27 => f_X7_make_b116 x0 x1 x2 x3 x4 (v25 + v27) σ13) else (if x4 = 1 then (gO (getR shM 7 x0 0 σ13) fun v20 => gO (aldI shM 0 v20 x1 σ13) fun v21 => gO (getR shM 7 x0 0 σ13) fun v22 => gO (aldI shM 0 v22 x2 σ13) fun v23 => f_X7_make_b116 x0 x1 x2 x3 x4 (v21 * v23) σ13) else (if x4 = 4 then (gO (chk shM x0 7) fun _ => bO (f_X7_powerOf x0 x1 x2 σ13) fun r17 σ18 => f_X7_make_b116 x0 x1 x2 x3 x4 r17 σ18) else (gO (getR shM 7 x0 0 σ13) fun v15 => gO (aldI shM 0 v15 x1 σ13) fun v16 => f_X7_make_b116 x0 x1 x2 x3 x4 v16 σ13)))) else (f_X7_make_b49  σ13)) else (f_X7_make_b49  σ10)))))
set_option maxRecDepth 100000 in
set_option maxHeartbeats 4000000 in
theorem t_X7_make {l : Launch} {γ : Gm} {ad : Nat → Nat} {K : Option Value → Hp → Prop} (hc : Cx l γ 5 6 ad shM RX7 cX7_make (some .int) K) {x0 : Nat} {x1 : Int32} {x2 : Int32} {x3 : Int32} {x4 : Int32} {σ : Hp} (h : wpO (f_X7_make x0 x1 x2 x3 x4 σ) (KI K)) : WW l γ 5 6 ad shM 0 [(0, .ref (ad x0)), (1, .int x1), (2, .int x2), (3, .int x3), (4, .int x4)] [] σ := by
  unfold f_X7_make at h
  refine r_iload_n hc 1 rfl rfl dX7_make_0 ?_
  obtain ⟨r1, σ2, er1, h⟩ := wp_b h
  refine r_callS hc ms_X7_isDrawer ml_X7_132 (c_X7_isDrawer er1) rfl rfl (by decide) rfl (Nat.le_of_ble_eq_true rfl) dX7_make_1 ?_
  refine r_if_eq hc (tgt := 31) dX7_make_4 (by decide) (fun c => ?_) (fun c => ?_)
  · have h := wp_t c h
    refine r_sub [] (lv' := []) rfl ?_
    exact t_X7_make_b31 hc h
  · have h := wp_f c h
    refine r_iload_n hc 2 rfl rfl dX7_make_7 ?_
    obtain ⟨r3, σ4, er3, h⟩ := wp_b h
    refine r_callS hc ms_X7_isDrawer ml_X7_132 (c_X7_isDrawer er3) rfl rfl (by decide) rfl (Nat.le_of_ble_eq_true rfl) dX7_make_8 ?_
    refine r_if_eq hc (tgt := 31) dX7_make_11 (by decide) (fun c => ?_) (fun c => ?_)
    · have h := wp_t c h
      refine r_sub [] (lv' := []) rfl ?_
      exact t_X7_make_b31 hc h
    · have h := wp_f c h
      refine r_iload_n hc 3 rfl rfl dX7_make_14 ?_
      obtain ⟨r5, σ6, er5, h⟩ := wp_b h
      refine r_callS hc ms_X7_isDrawer ml_X7_132 (c_X7_isDrawer er5) rfl rfl (by decide) rfl (Nat.le_of_ble_eq_true rfl) dX7_make_15 ?_
      refine r_if_eq hc (tgt := 31) dX7_make_18 (by decide) (fun c => ?_) (fun c => ?_)
      · have h := wp_t c h
        refine r_sub [] (lv' := []) rfl ?_
        exact t_X7_make_b31 hc h
      · have h := wp_f c h
        refine r_iload hc 4 rfl dX7_make_21 ?_
        refine r_iconst hc (v := 0) (by decide) dX7_make_23 ?_
        refine r_iconst hc (v := 4) (by decide) dX7_make_24 ?_
        obtain ⟨r7, σ8, er7, h⟩ := wp_b h
        refine r_callS hc ms_X7_in ml_X7_81 (c_X7_in er7) rfl rfl (by decide) rfl (Nat.le_of_ble_eq_true rfl) dX7_make_25 ?_
        refine r_if_ne hc (tgt := 33) dX7_make_28 (by decide) (fun c => ?_) (fun c => ?_)
        · have h := wp_f c h
          refine r_aload_n hc 0 rfl rfl dX7_make_33 ?_
          refine r_iload_n hc 1 rfl rfl dX7_make_34 ?_
          obtain ⟨_, ek11, h⟩ := wp_g h
          obtain ⟨r9, σ10, er9, h⟩ := wp_b h
          refine r_callV hc (k0 := x0) mv_X7_isEmpty ml_X7_85 (c_X7_isEmpty er9) (chk_of ek11) cls_7.1 rfl rfl rfl (by decide) rfl (Nat.le_of_ble_eq_true rfl) dX7_make_35 ?_
          refine r_if_ne hc (tgt := 49) dX7_make_38 (by decide) (fun c => ?_) (fun c => ?_)
          · have h := wp_f c h
            refine r_sub [] (lv' := []) rfl ?_
            exact t_X7_make_b49 hc h
          · have h := wp_t c h
            refine r_aload_n hc 0 rfl rfl dX7_make_41 ?_
            refine r_iload_n hc 2 rfl rfl dX7_make_42 ?_
            obtain ⟨_, ek14, h⟩ := wp_g h
            obtain ⟨r12, σ13, er12, h⟩ := wp_b h
            refine r_callV hc (k0 := x0) mv_X7_isEmpty ml_X7_85 (c_X7_isEmpty er12) (chk_of ek14) cls_7.1 rfl rfl rfl (by decide) rfl (Nat.le_of_ble_eq_true rfl) dX7_make_43 ?_
            refine r_if_eq hc (tgt := 52) dX7_make_46 (by decide) (fun c => ?_) (fun c => ?_)
            · have h := wp_t c h
              refine r_iload hc 4 rfl dX7_make_52 ?_
              refine r_if_ne hc (tgt := 73) dX7_make_54 (by decide) (fun c => ?_) (fun c => ?_)
              · have h := wp_f c h
                refine r_iload hc 4 rfl dX7_make_73 ?_
                refine r_iconst hc (v := 1) (by decide) dX7_make_75 ?_
                refine r_icmp_ne hc (tgt := 95) dX7_make_76 (by decide) (fun c => ?_) (fun c => ?_)
                · have h := wp_f c h
                  refine r_iload hc 4 rfl dX7_make_95 ?_
                  refine r_iconst hc (v := 4) (by decide) dX7_make_97 ?_
                  refine r_icmp_ne hc (tgt := 110) dX7_make_98 (by decide) (fun c => ?_) (fun c => ?_)
                  · have h := wp_f c h
                    refine r_aload_n hc 0 rfl rfl dX7_make_110 ?_
                    obtain ⟨v15, ev15, h⟩ := wp_g h
                    refine r_getR hc ev15 fl_X7_7 rfl dX7_make_111 ?_
                    refine r_iload_n hc 1 rfl rfl dX7_make_114 ?_
                    obtain ⟨v16, ev16, h⟩ := wp_g h
                    refine r_iald hc ev16 dX7_make_115 ?_
                    exact t_X7_make_b116 hc h
                  · have h := wp_t c h
                    refine r_aload_n hc 0 rfl rfl dX7_make_101 ?_
                    refine r_iload_n hc 1 rfl rfl dX7_make_102 ?_
                    refine r_iload_n hc 2 rfl rfl dX7_make_103 ?_
                    obtain ⟨_, ek19, h⟩ := wp_g h
                    obtain ⟨r17, σ18, er17, h⟩ := wp_b h
                    refine r_callV hc (k0 := x0) mv_X7_powerOf ml_X7_178 (c_X7_powerOf er17) (chk_of ek19) cls_7.1 rfl rfl rfl (by decide) rfl (Nat.le_of_ble_eq_true rfl) dX7_make_104 ?_
                    refine r_goto hc (tgt := 116) dX7_make_107 (by decide) ?_
                    exact t_X7_make_b116 hc h
                · have h := wp_t c h
                  refine r_aload_n hc 0 rfl rfl dX7_make_79 ?_
                  obtain ⟨v20, ev20, h⟩ := wp_g h
                  refine r_getR hc ev20 fl_X7_7 rfl dX7_make_80 ?_
                  refine r_iload_n hc 1 rfl rfl dX7_make_83 ?_
                  obtain ⟨v21, ev21, h⟩ := wp_g h
                  refine r_iald hc ev21 dX7_make_84 ?_
                  refine r_aload_n hc 0 rfl rfl dX7_make_85 ?_
                  obtain ⟨v22, ev22, h⟩ := wp_g h
                  refine r_getR hc ev22 fl_X7_7 rfl dX7_make_86 ?_
                  refine r_iload_n hc 2 rfl rfl dX7_make_89 ?_
                  obtain ⟨v23, ev23, h⟩ := wp_g h
                  refine r_iald hc ev23 dX7_make_90 ?_
                  refine r_imul hc dX7_make_91 ?_
                  refine r_goto hc (tgt := 116) dX7_make_92 (by decide) ?_
                  exact t_X7_make_b116 hc h
              · have h := wp_t c h
                refine r_aload_n hc 0 rfl rfl dX7_make_57 ?_
                obtain ⟨v24, ev24, h⟩ := wp_g h
                refine r_getR hc ev24 fl_X7_7 rfl dX7_make_58 ?_
                refine r_iload_n hc 1 rfl rfl dX7_make_61 ?_
                obtain ⟨v25, ev25, h⟩ := wp_g h
                refine r_iald hc ev25 dX7_make_62 ?_
                refine r_aload_n hc 0 rfl rfl dX7_make_63 ?_
                obtain ⟨v26, ev26, h⟩ := wp_g h
                refine r_getR hc ev26 fl_X7_7 rfl dX7_make_64 ?_
                refine r_iload_n hc 2 rfl rfl dX7_make_67 ?_
                obtain ⟨v27, ev27, h⟩ := wp_g h
                refine r_iald hc ev27 dX7_make_68 ?_
                refine r_iadd hc dX7_make_69 ?_
                refine r_goto hc (tgt := 116) dX7_make_70 (by decide) ?_
                exact t_X7_make_b116 hc h
            · have h := wp_f c h
              refine r_sub [] (lv' := []) rfl ?_
              exact t_X7_make_b49 hc h
        · have h := wp_t c h
          refine r_sub [] (lv' := []) rfl ?_
          exact t_X7_make_b31 hc h
theorem c_X7_make {l : Launch} {x0 : Nat} {x1 : Int32} {x2 : Int32} {x3 : Int32} {x4 : Int32} {σ σ' : Hp} {r : Int32} (h : f_X7_make x0 x1 x2 x3 x4 σ = some (r, σ')) : Mt l yX7_make cX7_make 6 (some .int) 5 shM (fun ad => [.ref (ad x0), .int x1, .int x2, .int x3, .int x4]) σ (fun ad => some (.int r)) σ' := mt_i (own := RX7) (by decide) rfl (fun _ => Nat.le_of_ble_eq_true rfl) (fun γ ad K hc hk => t_X7_make hc ⟨_, _, h, hk⟩)

-- NetMapsModel.parts(II)V
theorem dX7_parts_0 : decode cX7_parts 0 = .ok (.aload_n 0, 1) := by decide +kernel
theorem dX7_parts_1 : decode cX7_parts 1 = .ok (.bipush 7, 2) := by decide +kernel
theorem dX7_parts_3 : decode cX7_parts 3 = .ok (.iload_n 2, 1) := by decide +kernel
theorem dX7_parts_4 : decode cX7_parts 4 = .ok (.invokestatic 93, 3) := by decide +kernel
theorem dX7_parts_7 : decode cX7_parts 7 = .ok (.invokevirtual 121, 3) := by decide +kernel
theorem dX7_parts_10 : decode cX7_parts 10 = .ok (.iconst 0, 1) := by decide +kernel
theorem dX7_parts_11 : decode cX7_parts 11 = .ok (.istore_n 3, 1) := by decide +kernel
theorem dX7_parts_12 : decode cX7_parts 12 = .ok (.iconst 0, 1) := by decide +kernel
theorem dX7_parts_13 : decode cX7_parts 13 = .ok (.istore 4, 2) := by decide +kernel
theorem dX7_parts_15 : decode cX7_parts 15 = .ok (.iload 4, 2) := by decide +kernel
theorem dX7_parts_17 : decode cX7_parts 17 = .ok (.aload_n 0, 1) := by decide +kernel
theorem dX7_parts_18 : decode cX7_parts 18 = .ok (.getfield 7, 3) := by decide +kernel
theorem dX7_parts_21 : decode cX7_parts 21 = .ok (.iload_n 1, 1) := by decide +kernel
theorem dX7_parts_22 : decode cX7_parts 22 = .ok (.iaload, 1) := by decide +kernel
theorem dX7_parts_23 : decode cX7_parts 23 = .ok (.if_icmp .ge 88, 3) := by decide +kernel
theorem dX7_parts_26 : decode cX7_parts 26 = .ok (.iload_n 2, 1) := by decide +kernel
theorem dX7_parts_27 : decode cX7_parts 27 = .ok (.iload 4, 2) := by decide +kernel
theorem dX7_parts_29 : decode cX7_parts 29 = .ok (.invokestatic 89, 3) := by decide +kernel
theorem dX7_parts_32 : decode cX7_parts 32 = .ok (.ifCond .ne 6, 3) := by decide +kernel
theorem dX7_parts_35 : decode cX7_parts 35 = .ok (.goto 70, 3) := by decide +kernel
theorem dX7_parts_38 : decode cX7_parts 38 = .ok (.iconst 0, 1) := by decide +kernel
theorem dX7_parts_39 : decode cX7_parts 39 = .ok (.istore 5, 2) := by decide +kernel
theorem dX7_parts_41 : decode cX7_parts 41 = .ok (.iconst 0, 1) := by decide +kernel
theorem dX7_parts_42 : decode cX7_parts 42 = .ok (.istore 6, 2) := by decide +kernel
theorem dX7_parts_44 : decode cX7_parts 44 = .ok (.iload 6, 2) := by decide +kernel
theorem dX7_parts_46 : decode cX7_parts 46 = .ok (.aload_n 0, 1) := by decide +kernel
theorem dX7_parts_47 : decode cX7_parts 47 = .ok (.getfield 7, 3) := by decide +kernel
theorem dX7_parts_50 : decode cX7_parts 50 = .ok (.iload_n 1, 1) := by decide +kernel
theorem dX7_parts_51 : decode cX7_parts 51 = .ok (.iaload, 1) := by decide +kernel
theorem dX7_parts_52 : decode cX7_parts 52 = .ok (.if_icmp .ge 49, 3) := by decide +kernel
theorem dX7_parts_55 : decode cX7_parts 55 = .ok (.iload_n 2, 1) := by decide +kernel
theorem dX7_parts_56 : decode cX7_parts 56 = .ok (.iload 6, 2) := by decide +kernel
theorem dX7_parts_58 : decode cX7_parts 58 = .ok (.invokestatic 89, 3) := by decide +kernel
theorem dX7_parts_61 : decode cX7_parts 61 = .ok (.ifCond .ne 6, 3) := by decide +kernel
theorem dX7_parts_64 : decode cX7_parts 64 = .ok (.goto 31, 3) := by decide +kernel
theorem dX7_parts_67 : decode cX7_parts 67 = .ok (.aload_n 0, 1) := by decide +kernel
theorem dX7_parts_68 : decode cX7_parts 68 = .ok (.iload_n 1, 1) := by decide +kernel
theorem dX7_parts_69 : decode cX7_parts 69 = .ok (.iload 4, 2) := by decide +kernel
theorem dX7_parts_71 : decode cX7_parts 71 = .ok (.iload 6, 2) := by decide +kernel
theorem dX7_parts_73 : decode cX7_parts 73 = .ok (.invokevirtual 125, 3) := by decide +kernel
theorem dX7_parts_76 : decode cX7_parts 76 = .ok (.ifCond .eq 13, 3) := by decide +kernel
theorem dX7_parts_79 : decode cX7_parts 79 = .ok (.aload_n 0, 1) := by decide +kernel
theorem dX7_parts_80 : decode cX7_parts 80 = .ok (.bipush 7, 2) := by decide +kernel
theorem dX7_parts_82 : decode cX7_parts 82 = .ok (.iload_n 3, 1) := by decide +kernel
theorem dX7_parts_83 : decode cX7_parts 83 = .ok (.iload 5, 2) := by decide +kernel
theorem dX7_parts_85 : decode cX7_parts 85 = .ok (.iconst 1, 1) := by decide +kernel
theorem dX7_parts_86 : decode cX7_parts 86 = .ok (.invokevirtual 128, 3) := by decide +kernel
theorem dX7_parts_89 : decode cX7_parts 89 = .ok (.iload 5, 2) := by decide +kernel
theorem dX7_parts_91 : decode cX7_parts 91 = .ok (.iconst 1, 1) := by decide +kernel
theorem dX7_parts_92 : decode cX7_parts 92 = .ok (.iadd, 1) := by decide +kernel
theorem dX7_parts_93 : decode cX7_parts 93 = .ok (.istore 5, 2) := by decide +kernel
theorem dX7_parts_95 : decode cX7_parts 95 = .ok (.iinc 6 1, 3) := by decide +kernel
theorem dX7_parts_98 : decode cX7_parts 98 = .ok (.goto (-54), 3) := by decide +kernel
theorem dX7_parts_101 : decode cX7_parts 101 = .ok (.iload_n 3, 1) := by decide +kernel
theorem dX7_parts_102 : decode cX7_parts 102 = .ok (.iconst 1, 1) := by decide +kernel
theorem dX7_parts_103 : decode cX7_parts 103 = .ok (.iadd, 1) := by decide +kernel
theorem dX7_parts_104 : decode cX7_parts 104 = .ok (.istore_n 3, 1) := by decide +kernel
theorem dX7_parts_105 : decode cX7_parts 105 = .ok (.iinc 4 1, 3) := by decide +kernel
theorem dX7_parts_108 : decode cX7_parts 108 = .ok (.goto (-93), 3) := by decide +kernel
theorem dX7_parts_111 : decode cX7_parts 111 = .ok (.return_, 1) := by decide +kernel
noncomputable def f_X7_parts_b95 (x0 : Nat) (x1 : Int32) (x2 : Int32) (x3 : Int32) (x4 : Int32) (x5 : Int32) (x6 : Int32) (σ : Hp) : Option (((Int32 × Int32) ⊕ (Unit)) × Hp) := some (Sum.inl (x5, (x6 + 1)), σ)
set_option maxRecDepth 100000 in
set_option maxHeartbeats 4000000 in
theorem t_X7_parts_b95 {l : Launch} {γ : Gm} {ad : Nat → Nat} {K : Option Value → Hp → Prop} (hc : Cx l γ 3 7 ad shM RX7 cX7_parts none K) {x0 : Nat} {x1 : Int32} {x2 : Int32} {x3 : Int32} {x4 : Int32} {x5 : Int32} {x6 : Int32}  {σ : Hp} {KL : ((Int32 × Int32) ⊕ (Unit)) → Hp → Prop} (h : wpO (f_X7_parts_b95 x0 x1 x2 x3 x4 x5 x6 σ) KL) (kn : ∀ (v : (Int32 × Int32)) (σ : Hp), KL (Sum.inl v) σ → WW l γ 3 7 ad shM 44 [(0, .ref (ad x0)), (1, .int x1), (2, .int x2), (3, .int x3), (4, .int x4), (5, .int v.1), (6, .int v.2)] [] σ) (kx101 : ∀ (v : Unit) (σ : Hp), KL (Sum.inr v) σ → WW l γ 3 7 ad shM 101 [(0, .ref (ad x0)), (1, .int x1), (2, .int x2), (3, .int x3), (4, .int x4)] [] σ) : WW l γ 3 7 ad shM 95 [(0, .ref (ad x0)), (1, .int x1), (2, .int x2), (3, .int x3), (4, .int x4), (5, .int x5), (6, .int x6)] [] σ := by
  unfold f_X7_parts_b95 at h
  refine r_iincE hc (j := 6) (w := 1) (lv' := [(6, .int (x6 + 1)), (0, .ref (ad x0)), (1, .int x1), (2, .int x2), (3, .int x3), (4, .int x4), (5, .int x5)]) rfl (by decide) rfl (by decide) rfl dX7_parts_95 ?_
  refine r_goto hc (tgt := 44) dX7_parts_98 (by decide) ?_
  refine r_sub [1, 2, 3, 4, 5, 6, 0] (lv' := [(0, .ref (ad x0)), (1, .int x1), (2, .int x2), (3, .int x3), (4, .int x4), (5, .int x5), (6, .int (x6 + 1))]) rfl ?_
  have h := wp_v h
  exact kn (x5, (x6 + 1)) _ h
noncomputable def f_X7_parts_b89 (x0 : Nat) (x1 : Int32) (x2 : Int32) (x3 : Int32) (x4 : Int32) (x5 : Int32) (x6 : Int32) (σ : Hp) : Option (((Int32 × Int32) ⊕ (Unit)) × Hp) := f_X7_parts_b95 x0 x1 x2 x3 x4 (x5 + 1) x6 σ
set_option maxRecDepth 100000 in
set_option maxHeartbeats 4000000 in
theorem t_X7_parts_b89 {l : Launch} {γ : Gm} {ad : Nat → Nat} {K : Option Value → Hp → Prop} (hc : Cx l γ 3 7 ad shM RX7 cX7_parts none K) {x0 : Nat} {x1 : Int32} {x2 : Int32} {x3 : Int32} {x4 : Int32} {x5 : Int32} {x6 : Int32}  {σ : Hp} {KL : ((Int32 × Int32) ⊕ (Unit)) → Hp → Prop} (h : wpO (f_X7_parts_b89 x0 x1 x2 x3 x4 x5 x6 σ) KL) (kn : ∀ (v : (Int32 × Int32)) (σ : Hp), KL (Sum.inl v) σ → WW l γ 3 7 ad shM 44 [(0, .ref (ad x0)), (1, .int x1), (2, .int x2), (3, .int x3), (4, .int x4), (5, .int v.1), (6, .int v.2)] [] σ) (kx101 : ∀ (v : Unit) (σ : Hp), KL (Sum.inr v) σ → WW l γ 3 7 ad shM 101 [(0, .ref (ad x0)), (1, .int x1), (2, .int x2), (3, .int x3), (4, .int x4)] [] σ) : WW l γ 3 7 ad shM 89 [(0, .ref (ad x0)), (1, .int x1), (2, .int x2), (3, .int x3), (4, .int x4), (5, .int x5), (6, .int x6)] [] σ := by
  unfold f_X7_parts_b89 at h
  refine r_iload hc 5 rfl dX7_parts_89 ?_
  refine r_iconst hc (v := 1) (by decide) dX7_parts_91 ?_
  refine r_iadd hc dX7_parts_92 ?_
  refine r_istoreE hc (i := 5) (lv' := [(5, .int (x5 + 1)), (0, .ref (ad x0)), (1, .int x1), (2, .int x2), (3, .int x3), (4, .int x4), (6, .int x6)]) rfl (by decide) rfl dX7_parts_93 ?_
  refine r_sub [1, 2, 3, 4, 5, 0, 6] (lv' := [(0, .ref (ad x0)), (1, .int x1), (2, .int x2), (3, .int x3), (4, .int x4), (5, .int (x5 + 1)), (6, .int x6)]) rfl ?_
  exact t_X7_parts_b95 hc h kn kx101
noncomputable def f_X7_parts_L44 (x0 : Nat) (x1 : Int32) (x2 : Int32) (x3 : Int32) (x4 : Int32) (v : (Int32 × Int32)) (σ : Hp) : Option (((Int32 × Int32) ⊕ (Unit)) × Hp) := gO (getR shM 7 x0 0 σ) fun v1 => gO (aldI shM 0 v1 x1 σ) fun v2 => if v2 ≤ v.2 then (some (Sum.inr (), σ)) else (bO (f_X7_has x2 v.2 σ) fun r3 σ4 => if r3 = 0 then (f_X7_parts_b95 x0 x1 x2 x3 x4 v.1 v.2 σ4) else (gO (chk shM x0 7) fun _ => bO (f_X7_isLine x0 x1 x4 v.2 σ4) fun r5 σ6 => if r5 = 0 then (f_X7_parts_b89 x0 x1 x2 x3 x4 v.1 v.2 σ6) else (gO (chk shM x0 7) fun _ => bO (f_X7_sets x0 7 x3 v.1 1 σ6) fun _ σ9 => f_X7_parts_b89 x0 x1 x2 x3 x4 v.1 v.2 σ9)))
set_option maxRecDepth 100000 in
set_option maxHeartbeats 4000000 in
theorem t_X7_parts_L44 {l : Launch} {γ : Gm} {ad : Nat → Nat} {K : Option Value → Hp → Prop}  (hc : Cx l γ 3 7 ad shM RX7 cX7_parts none K) {x0 : Nat} {x1 : Int32} {x2 : Int32} {x3 : Int32} {x4 : Int32} {v : (Int32 × Int32)} {σ : Hp} {KX : (Unit) → Hp → Prop} (h : wpO (wh (f_X7_parts_L44 x0 x1 x2 x3 x4) v σ) KX) (kx101 : ∀ (v : Unit) (σ : Hp), KX v σ → WW l γ 3 7 ad shM 101 [(0, .ref (ad x0)), (1, .int x1), (2, .int x2), (3, .int x3), (4, .int x4)] [] σ) : WW l γ 3 7 ad shM 44 [(0, .ref (ad x0)), (1, .int x1), (2, .int x2), (3, .int x3), (4, .int x4), (5, .int v.1), (6, .int v.2)] [] σ := by
  refine wh_W (P := fun v σ => WW l γ 3 7 ad shM 44 [(0, .ref (ad x0)), (1, .int x1), (2, .int x2), (3, .int x3), (4, .int x4), (5, .int v.1), (6, .int v.2)] [] σ) (fun v σ h => ?_) h
  have kn : ∀ (v : (Int32 × Int32)) (σ : Hp), WW l γ 3 7 ad shM 44 [(0, .ref (ad x0)), (1, .int x1), (2, .int x2), (3, .int x3), (4, .int x4), (5, .int v.1), (6, .int v.2)] [] σ → WW l γ 3 7 ad shM 44 [(0, .ref (ad x0)), (1, .int x1), (2, .int x2), (3, .int x3), (4, .int x4), (5, .int v.1), (6, .int v.2)] [] σ := fun _ _ h => h
  · unfold f_X7_parts_L44 at h
    refine r_iload hc 6 rfl dX7_parts_44 ?_
    refine r_aload_n hc 0 rfl rfl dX7_parts_46 ?_
    obtain ⟨v1, ev1, h⟩ := wp_g h
    refine r_getR hc ev1 fl_X7_7 rfl dX7_parts_47 ?_
    refine r_iload_n hc 1 rfl rfl dX7_parts_50 ?_
    obtain ⟨v2, ev2, h⟩ := wp_g h
    refine r_iald hc ev2 dX7_parts_51 ?_
    refine r_icmp_ge hc (tgt := 101) dX7_parts_52 (by decide) (fun c => ?_) (fun c => ?_)
    · have h := wp_t c h
      refine r_sub [0, 1, 2, 3, 4] (lv' := [(0, .ref (ad x0)), (1, .int x1), (2, .int x2), (3, .int x3), (4, .int x4)]) rfl ?_
      have h := wp_v h
      exact kx101 () _ h
    · have h := wp_f c h
      refine r_iload_n hc 2 rfl rfl dX7_parts_55 ?_
      refine r_iload hc 6 rfl dX7_parts_56 ?_
      obtain ⟨r3, σ4, er3, h⟩ := wp_b h
      refine r_callS hc ms_X7_has ml_X7_89 (c_X7_has er3) rfl rfl (by decide) rfl (Nat.le_of_ble_eq_true rfl) dX7_parts_58 ?_
      refine r_if_ne hc (tgt := 67) dX7_parts_61 (by decide) (fun c => ?_) (fun c => ?_)
      · have h := wp_f c h
        refine r_aload_n hc 0 rfl rfl dX7_parts_67 ?_
        refine r_iload_n hc 1 rfl rfl dX7_parts_68 ?_
        refine r_iload hc 4 rfl dX7_parts_69 ?_
        refine r_iload hc 6 rfl dX7_parts_71 ?_
        obtain ⟨_, ek7, h⟩ := wp_g h
        obtain ⟨r5, σ6, er5, h⟩ := wp_b h
        refine r_callV hc (k0 := x0) mv_X7_isLine ml_X7_125 (c_X7_isLine er5) (chk_of ek7) cls_7.1 rfl rfl rfl (by decide) rfl (Nat.le_of_ble_eq_true rfl) dX7_parts_73 ?_
        refine r_if_eq hc (tgt := 89) dX7_parts_76 (by decide) (fun c => ?_) (fun c => ?_)
        · have h := wp_t c h
          exact t_X7_parts_b89 hc h kn kx101
        · have h := wp_f c h
          refine r_aload_n hc 0 rfl rfl dX7_parts_79 ?_
          refine r_bipush hc (v := 7) (by decide) dX7_parts_80 ?_
          refine r_iload_n hc 3 rfl rfl dX7_parts_82 ?_
          refine r_iload hc 5 rfl dX7_parts_83 ?_
          refine r_iconst hc (v := 1) (by decide) dX7_parts_85 ?_
          obtain ⟨_, ek10, h⟩ := wp_g h
          obtain ⟨_, σ9, er8, h⟩ := wp_b h
          refine r_callV hc (k0 := x0) mv_X7_sets ml_X7_128 (c_X7_sets er8) (chk_of ek10) cls_7.1 rfl rfl rfl (by decide) rfl (Nat.le_of_ble_eq_true rfl) dX7_parts_86 ?_
          exact t_X7_parts_b89 hc h kn kx101
      · have h := wp_t c h
        refine r_goto hc (tgt := 95) dX7_parts_64 (by decide) ?_
        exact t_X7_parts_b95 hc h kn kx101
noncomputable def f_X7_parts_b105 (x0 : Nat) (x1 : Int32) (x2 : Int32) (x3 : Int32) (x4 : Int32) (σ : Hp) : Option (((Int32 × Int32) ⊕ (Unit)) × Hp) := some (Sum.inl (x3, (x4 + 1)), σ)
set_option maxRecDepth 100000 in
set_option maxHeartbeats 4000000 in
theorem t_X7_parts_b105 {l : Launch} {γ : Gm} {ad : Nat → Nat} {K : Option Value → Hp → Prop} (hc : Cx l γ 3 7 ad shM RX7 cX7_parts none K) {x0 : Nat} {x1 : Int32} {x2 : Int32} {x3 : Int32} {x4 : Int32}  {σ : Hp} {KL : ((Int32 × Int32) ⊕ (Unit)) → Hp → Prop} (h : wpO (f_X7_parts_b105 x0 x1 x2 x3 x4 σ) KL) (kn : ∀ (v : (Int32 × Int32)) (σ : Hp), KL (Sum.inl v) σ → WW l γ 3 7 ad shM 15 [(0, .ref (ad x0)), (1, .int x1), (2, .int x2), (3, .int v.1), (4, .int v.2)] [] σ) (kx111 : ∀ (v : Unit) (σ : Hp), KL (Sum.inr v) σ → WW l γ 3 7 ad shM 111 [] [] σ) : WW l γ 3 7 ad shM 105 [(0, .ref (ad x0)), (1, .int x1), (2, .int x2), (3, .int x3), (4, .int x4)] [] σ := by
  unfold f_X7_parts_b105 at h
  refine r_iincE hc (j := 4) (w := 1) (lv' := [(4, .int (x4 + 1)), (0, .ref (ad x0)), (1, .int x1), (2, .int x2), (3, .int x3)]) rfl (by decide) rfl (by decide) rfl dX7_parts_105 ?_
  refine r_goto hc (tgt := 15) dX7_parts_108 (by decide) ?_
  refine r_sub [1, 2, 3, 4, 0] (lv' := [(0, .ref (ad x0)), (1, .int x1), (2, .int x2), (3, .int x3), (4, .int (x4 + 1))]) rfl ?_
  have h := wp_v h
  exact kn (x3, (x4 + 1)) _ h
noncomputable def f_X7_parts_L15 (x0 : Nat) (x1 : Int32) (x2 : Int32) (v : (Int32 × Int32)) (σ : Hp) : Option (((Int32 × Int32) ⊕ (Unit)) × Hp) := gO (getR shM 7 x0 0 σ) fun v1 => gO (aldI shM 0 v1 x1 σ) fun v2 => if v2 ≤ v.2 then (some (Sum.inr (), σ)) else (bO (f_X7_has x2 v.2 σ) fun r3 σ4 => if r3 = 0 then (f_X7_parts_b105 x0 x1 x2 v.1 v.2 σ4) else (bO (wh (f_X7_parts_L44 x0 x1 x2 v.1 v.2) (0, 0) σ4) fun y5 σ6 => (f_X7_parts_b105 x0 x1 x2 (v.1 + 1) v.2 σ6)))
set_option maxRecDepth 100000 in
set_option maxHeartbeats 4000000 in
theorem t_X7_parts_L15 {l : Launch} {γ : Gm} {ad : Nat → Nat} {K : Option Value → Hp → Prop}  (hc : Cx l γ 3 7 ad shM RX7 cX7_parts none K) {x0 : Nat} {x1 : Int32} {x2 : Int32} {v : (Int32 × Int32)} {σ : Hp} {KX : (Unit) → Hp → Prop} (h : wpO (wh (f_X7_parts_L15 x0 x1 x2) v σ) KX) (kx111 : ∀ (v : Unit) (σ : Hp), KX v σ → WW l γ 3 7 ad shM 111 [] [] σ) : WW l γ 3 7 ad shM 15 [(0, .ref (ad x0)), (1, .int x1), (2, .int x2), (3, .int v.1), (4, .int v.2)] [] σ := by
  refine wh_W (P := fun v σ => WW l γ 3 7 ad shM 15 [(0, .ref (ad x0)), (1, .int x1), (2, .int x2), (3, .int v.1), (4, .int v.2)] [] σ) (fun v σ h => ?_) h
  have kn : ∀ (v : (Int32 × Int32)) (σ : Hp), WW l γ 3 7 ad shM 15 [(0, .ref (ad x0)), (1, .int x1), (2, .int x2), (3, .int v.1), (4, .int v.2)] [] σ → WW l γ 3 7 ad shM 15 [(0, .ref (ad x0)), (1, .int x1), (2, .int x2), (3, .int v.1), (4, .int v.2)] [] σ := fun _ _ h => h
  · unfold f_X7_parts_L15 at h
    refine r_iload hc 4 rfl dX7_parts_15 ?_
    refine r_aload_n hc 0 rfl rfl dX7_parts_17 ?_
    obtain ⟨v1, ev1, h⟩ := wp_g h
    refine r_getR hc ev1 fl_X7_7 rfl dX7_parts_18 ?_
    refine r_iload_n hc 1 rfl rfl dX7_parts_21 ?_
    obtain ⟨v2, ev2, h⟩ := wp_g h
    refine r_iald hc ev2 dX7_parts_22 ?_
    refine r_icmp_ge hc (tgt := 111) dX7_parts_23 (by decide) (fun c => ?_) (fun c => ?_)
    · have h := wp_t c h
      refine r_sub [] (lv' := []) rfl ?_
      have h := wp_v h
      exact kx111 () _ h
    · have h := wp_f c h
      refine r_iload_n hc 2 rfl rfl dX7_parts_26 ?_
      refine r_iload hc 4 rfl dX7_parts_27 ?_
      obtain ⟨r3, σ4, er3, h⟩ := wp_b h
      refine r_callS hc ms_X7_has ml_X7_89 (c_X7_has er3) rfl rfl (by decide) rfl (Nat.le_of_ble_eq_true rfl) dX7_parts_29 ?_
      refine r_if_ne hc (tgt := 38) dX7_parts_32 (by decide) (fun c => ?_) (fun c => ?_)
      · have h := wp_f c h
        refine r_iconst hc (v := 0) (by decide) dX7_parts_38 ?_
        refine r_istoreE hc (i := 5) (lv' := [(5, .int 0), (0, .ref (ad x0)), (1, .int x1), (2, .int x2), (3, .int v.1), (4, .int v.2)]) rfl (by decide) rfl dX7_parts_39 ?_
        refine r_iconst hc (v := 0) (by decide) dX7_parts_41 ?_
        refine r_istoreE hc (i := 6) (lv' := [(6, .int 0), (5, .int 0), (0, .ref (ad x0)), (1, .int x1), (2, .int x2), (3, .int v.1), (4, .int v.2)]) rfl (by decide) rfl dX7_parts_42 ?_
        refine r_sub [2, 3, 4, 5, 6, 1, 0] (lv' := [(0, .ref (ad x0)), (1, .int x1), (2, .int x2), (3, .int v.1), (4, .int v.2), (5, .int 0), (6, .int 0)]) rfl ?_
        refine t_X7_parts_L44 hc (wp_bb h) ?_
        · intro y5 σ6 h
          refine r_iload_n hc 3 rfl rfl dX7_parts_101 ?_
          refine r_iconst hc (v := 1) (by decide) dX7_parts_102 ?_
          refine r_iadd hc dX7_parts_103 ?_
          refine r_istore_nE hc (i := 3) (lv' := [(3, .int (v.1 + 1)), (0, .ref (ad x0)), (1, .int x1), (2, .int x2), (4, .int v.2)]) rfl rfl (by decide) rfl dX7_parts_104 ?_
          refine r_sub [1, 2, 3, 0, 4] (lv' := [(0, .ref (ad x0)), (1, .int x1), (2, .int x2), (3, .int (v.1 + 1)), (4, .int v.2)]) rfl ?_
          exact t_X7_parts_b105 hc h kn kx111
      · have h := wp_t c h
        refine r_goto hc (tgt := 105) dX7_parts_35 (by decide) ?_
        exact t_X7_parts_b105 hc h kn kx111
noncomputable def f_X7_parts (x0 : Nat) (x1 : Int32) (x2 : Int32) (σ : Hp) : Option (Unit × Hp) := bO (f_X7_bits x2 σ) fun r1 σ2 => gO (chk shM x0 7) fun _ => bO (f_X7_begins x0 7 r1 σ2) fun _ σ4 => bO (wh (f_X7_parts_L15 x0 x1 x2) (0, 0) σ4) fun y6 σ7 => (some ((), σ7))
set_option maxRecDepth 100000 in
set_option maxHeartbeats 4000000 in
theorem t_X7_parts {l : Launch} {γ : Gm} {ad : Nat → Nat} {K : Option Value → Hp → Prop} (hc : Cx l γ 3 7 ad shM RX7 cX7_parts none K) {x0 : Nat} {x1 : Int32} {x2 : Int32} {σ : Hp} (h : wpO (f_X7_parts x0 x1 x2 σ) (KU K)) : WW l γ 3 7 ad shM 0 [(0, .ref (ad x0)), (1, .int x1), (2, .int x2)] [] σ := by
  unfold f_X7_parts at h
  refine r_aload_n hc 0 rfl rfl dX7_parts_0 ?_
  refine r_bipush hc (v := 7) (by decide) dX7_parts_1 ?_
  refine r_iload_n hc 2 rfl rfl dX7_parts_3 ?_
  obtain ⟨r1, σ2, er1, h⟩ := wp_b h
  refine r_callS hc ms_X7_bits ml_X7_93 (c_X7_bits er1) rfl rfl (by decide) rfl (Nat.le_of_ble_eq_true rfl) dX7_parts_4 ?_
  obtain ⟨_, ek5, h⟩ := wp_g h
  obtain ⟨_, σ4, er3, h⟩ := wp_b h
  refine r_callV hc (k0 := x0) mv_X7_begins ml_X7_121 (c_X7_begins er3) (chk_of ek5) cls_7.1 rfl rfl rfl (by decide) rfl (Nat.le_of_ble_eq_true rfl) dX7_parts_7 ?_
  refine r_iconst hc (v := 0) (by decide) dX7_parts_10 ?_
  refine r_istore_nE hc (i := 3) (lv' := [(3, .int 0), (0, .ref (ad x0)), (1, .int x1), (2, .int x2)]) rfl rfl (by decide) rfl dX7_parts_11 ?_
  refine r_iconst hc (v := 0) (by decide) dX7_parts_12 ?_
  refine r_istoreE hc (i := 4) (lv' := [(4, .int 0), (3, .int 0), (0, .ref (ad x0)), (1, .int x1), (2, .int x2)]) rfl (by decide) rfl dX7_parts_13 ?_
  refine r_sub [2, 3, 4, 1, 0] (lv' := [(0, .ref (ad x0)), (1, .int x1), (2, .int x2), (3, .int 0), (4, .int 0)]) rfl ?_
  refine t_X7_parts_L15 hc (wp_bb h) ?_
  · intro y6 σ7 h
    have h := wp_v h
    exact r_vret hc h dX7_parts_111
theorem c_X7_parts {l : Launch} {x0 : Nat} {x1 : Int32} {x2 : Int32} {σ σ' : Hp} {r : Unit} (h : f_X7_parts x0 x1 x2 σ = some (r, σ')) : Mt l yX7_parts cX7_parts 7 none 3 shM (fun ad => [.ref (ad x0), .int x1, .int x2]) σ (fun ad => none) σ' := mt_i (own := RX7) (by decide) rfl (fun _ => Nat.le_of_ble_eq_true rfl) (fun γ ad K hc hk => t_X7_parts hc ⟨_, _, h, hk⟩)

-- NetMapsModel.part(III)I
theorem dX7_part_0 : decode cX7_part 0 = .ok (.iload_n 1, 1) := by decide +kernel
theorem dX7_part_1 : decode cX7_part 1 = .ok (.invokestatic 132, 3) := by decide +kernel
theorem dX7_part_4 : decode cX7_part 4 = .ok (.ifCond .eq 10, 3) := by decide +kernel
theorem dX7_part_7 : decode cX7_part 7 = .ok (.iload_n 3, 1) := by decide +kernel
theorem dX7_part_8 : decode cX7_part 8 = .ok (.invokestatic 132, 3) := by decide +kernel
theorem dX7_part_11 : decode cX7_part 11 = .ok (.ifCond .ne 5, 3) := by decide +kernel
theorem dX7_part_14 : decode cX7_part 14 = .ok (.iconst (-1), 1) := by decide +kernel
theorem dX7_part_15 : decode cX7_part 15 = .ok (.ireturn, 1) := by decide +kernel
theorem dX7_part_16 : decode cX7_part 16 = .ok (.aload_n 0, 1) := by decide +kernel
theorem dX7_part_17 : decode cX7_part 17 = .ok (.iload_n 1, 1) := by decide +kernel
theorem dX7_part_18 : decode cX7_part 18 = .ok (.invokevirtual 85, 3) := by decide +kernel
theorem dX7_part_21 : decode cX7_part 21 = .ok (.ifCond .eq 6, 3) := by decide +kernel
theorem dX7_part_24 : decode cX7_part 24 = .ok (.bipush (-2), 2) := by decide +kernel
theorem dX7_part_26 : decode cX7_part 26 = .ok (.ireturn, 1) := by decide +kernel
theorem dX7_part_27 : decode cX7_part 27 = .ok (.iload_n 2, 1) := by decide +kernel
theorem dX7_part_28 : decode cX7_part 28 = .ok (.iconst 1, 1) := by decide +kernel
theorem dX7_part_29 : decode cX7_part 29 = .ok (.iconst 1, 1) := by decide +kernel
theorem dX7_part_30 : decode cX7_part 30 = .ok (.aload_n 0, 1) := by decide +kernel
theorem dX7_part_31 : decode cX7_part 31 = .ok (.getfield 7, 3) := by decide +kernel
theorem dX7_part_34 : decode cX7_part 34 = .ok (.iload_n 1, 1) := by decide +kernel
theorem dX7_part_35 : decode cX7_part 35 = .ok (.iaload, 1) := by decide +kernel
theorem dX7_part_36 : decode cX7_part 36 = .ok (.ishl, 1) := by decide +kernel
theorem dX7_part_37 : decode cX7_part 37 = .ok (.iconst 1, 1) := by decide +kernel
theorem dX7_part_38 : decode cX7_part 38 = .ok (.isub, 1) := by decide +kernel
theorem dX7_part_39 : decode cX7_part 39 = .ok (.invokestatic 81, 3) := by decide +kernel
theorem dX7_part_42 : decode cX7_part 42 = .ok (.ifCond .ne 6, 3) := by decide +kernel
theorem dX7_part_45 : decode cX7_part 45 = .ok (.bipush (-3), 2) := by decide +kernel
theorem dX7_part_47 : decode cX7_part 47 = .ok (.ireturn, 1) := by decide +kernel
theorem dX7_part_48 : decode cX7_part 48 = .ok (.aload_n 0, 1) := by decide +kernel
theorem dX7_part_49 : decode cX7_part 49 = .ok (.iload_n 1, 1) := by decide +kernel
theorem dX7_part_50 : decode cX7_part 50 = .ok (.iload_n 2, 1) := by decide +kernel
theorem dX7_part_51 : decode cX7_part 51 = .ok (.invokevirtual 194, 3) := by decide +kernel
theorem dX7_part_54 : decode cX7_part 54 = .ok (.aload_n 0, 1) := by decide +kernel
theorem dX7_part_55 : decode cX7_part 55 = .ok (.bipush 7, 2) := by decide +kernel
theorem dX7_part_57 : decode cX7_part 57 = .ok (.iload_n 3, 1) := by decide +kernel
theorem dX7_part_58 : decode cX7_part 58 = .ok (.invokevirtual 138, 3) := by decide +kernel
theorem dX7_part_61 : decode cX7_part 61 = .ok (.aload_n 0, 1) := by decide +kernel
theorem dX7_part_62 : decode cX7_part 62 = .ok (.iload_n 3, 1) := by decide +kernel
theorem dX7_part_63 : decode cX7_part 63 = .ok (.invokevirtual 141, 3) := by decide +kernel
theorem dX7_part_66 : decode cX7_part 66 = .ok (.ireturn, 1) := by decide +kernel
noncomputable def f_X7_part_b14  (σ : Hp) : Option (Int32 × Hp) := some ((-1), σ)
set_option maxRecDepth 100000 in
set_option maxHeartbeats 4000000 in
theorem t_X7_part_b14 {l : Launch} {γ : Gm} {ad : Nat → Nat} {K : Option Value → Hp → Prop} (hc : Cx l γ 4 4 ad shM RX7 cX7_part (some .int) K)  {σ : Hp} (h : wpO (f_X7_part_b14  σ) (KI K)) : WW l γ 4 4 ad shM 14 [] [] σ := by
  unfold f_X7_part_b14 at h
  refine r_iconst hc (v := (-1)) (by decide) dX7_part_14 ?_
  have h := wp_v h
  exact r_iret hc h dX7_part_15
noncomputable def f_X7_part (x0 : Nat) (x1 : Int32) (x2 : Int32) (x3 : Int32) (σ : Hp) : Option (Int32 × Hp) := bO (f_X7_isDrawer x1 σ) fun r1 σ2 => if r1 = 0 then (f_X7_part_b14  σ2) else (bO (f_X7_isDrawer x3 σ2) fun r3 σ4 => if r3 = 0 then (f_X7_part_b14  σ4) else (gO (chk shM x0 7) fun _ => bO (f_X7_isEmpty x0 x1 σ4) fun r5 σ6 => if r5 = 0 then (gO (getR shM 7 x0 0 σ6) fun v8 => gO (aldI shM 0 v8 x1 σ6) fun v9 => bO (f_X7_in x2 1 (((1 : Int32) <<< (v9 &&& 31)) - 1) σ6) fun r10 σ11 => if r10 = 0 then (some ((-3), σ11)) else (gO (chk shM x0 7) fun _ => bO (f_X7_parts x0 x1 x2 σ11) fun _ σ13 => gO (chk shM x0 7) fun _ => bO (f_X7_copies x0 7 x3 σ13) fun _ σ16 => gO (chk shM x0 7) fun _ => bO (f_X7_lines x0 x3 σ16) fun r18 σ19 => some (r18, σ19))) else (some ((-2), σ6))))
set_option maxRecDepth 100000 in
set_option maxHeartbeats 4000000 in
theorem t_X7_part {l : Launch} {γ : Gm} {ad : Nat → Nat} {K : Option Value → Hp → Prop} (hc : Cx l γ 4 4 ad shM RX7 cX7_part (some .int) K) {x0 : Nat} {x1 : Int32} {x2 : Int32} {x3 : Int32} {σ : Hp} (h : wpO (f_X7_part x0 x1 x2 x3 σ) (KI K)) : WW l γ 4 4 ad shM 0 [(0, .ref (ad x0)), (1, .int x1), (2, .int x2), (3, .int x3)] [] σ := by
  unfold f_X7_part at h
  refine r_iload_n hc 1 rfl rfl dX7_part_0 ?_
  obtain ⟨r1, σ2, er1, h⟩ := wp_b h
  refine r_callS hc ms_X7_isDrawer ml_X7_132 (c_X7_isDrawer er1) rfl rfl (by decide) rfl (Nat.le_of_ble_eq_true rfl) dX7_part_1 ?_
  refine r_if_eq hc (tgt := 14) dX7_part_4 (by decide) (fun c => ?_) (fun c => ?_)
  · have h := wp_t c h
    refine r_sub [] (lv' := []) rfl ?_
    exact t_X7_part_b14 hc h
  · have h := wp_f c h
    refine r_iload_n hc 3 rfl rfl dX7_part_7 ?_
    obtain ⟨r3, σ4, er3, h⟩ := wp_b h
    refine r_callS hc ms_X7_isDrawer ml_X7_132 (c_X7_isDrawer er3) rfl rfl (by decide) rfl (Nat.le_of_ble_eq_true rfl) dX7_part_8 ?_
    refine r_if_ne hc (tgt := 16) dX7_part_11 (by decide) (fun c => ?_) (fun c => ?_)
    · have h := wp_f c h
      refine r_aload_n hc 0 rfl rfl dX7_part_16 ?_
      refine r_iload_n hc 1 rfl rfl dX7_part_17 ?_
      obtain ⟨_, ek7, h⟩ := wp_g h
      obtain ⟨r5, σ6, er5, h⟩ := wp_b h
      refine r_callV hc (k0 := x0) mv_X7_isEmpty ml_X7_85 (c_X7_isEmpty er5) (chk_of ek7) cls_7.1 rfl rfl rfl (by decide) rfl (Nat.le_of_ble_eq_true rfl) dX7_part_18 ?_
      refine r_if_eq hc (tgt := 27) dX7_part_21 (by decide) (fun c => ?_) (fun c => ?_)
      · have h := wp_t c h
        refine r_iload_n hc 2 rfl rfl dX7_part_27 ?_
        refine r_iconst hc (v := 1) (by decide) dX7_part_28 ?_
        refine r_iconst hc (v := 1) (by decide) dX7_part_29 ?_
        refine r_aload_n hc 0 rfl rfl dX7_part_30 ?_
        obtain ⟨v8, ev8, h⟩ := wp_g h
        refine r_getR hc ev8 fl_X7_7 rfl dX7_part_31 ?_
        refine r_iload_n hc 1 rfl rfl dX7_part_34 ?_
        obtain ⟨v9, ev9, h⟩ := wp_g h
        refine r_iald hc ev9 dX7_part_35 ?_
        refine r_ishl hc dX7_part_36 ?_
        refine r_iconst hc (v := 1) (by decide) dX7_part_37 ?_
        refine r_isub hc dX7_part_38 ?_
        obtain ⟨r10, σ11, er10, h⟩ := wp_b h
        refine r_callS hc ms_X7_in ml_X7_81 (c_X7_in er10) rfl rfl (by decide) rfl (Nat.le_of_ble_eq_true rfl) dX7_part_39 ?_
        refine r_if_ne hc (tgt := 48) dX7_part_42 (by decide) (fun c => ?_) (fun c => ?_)
        · have h := wp_f c h
          refine r_aload_n hc 0 rfl rfl dX7_part_48 ?_
          refine r_iload_n hc 1 rfl rfl dX7_part_49 ?_
          refine r_iload_n hc 2 rfl rfl dX7_part_50 ?_
          obtain ⟨_, ek14, h⟩ := wp_g h
          obtain ⟨_, σ13, er12, h⟩ := wp_b h
          refine r_callV hc (k0 := x0) mv_X7_parts ml_X7_194 (c_X7_parts er12) (chk_of ek14) cls_7.1 rfl rfl rfl (by decide) rfl (Nat.le_of_ble_eq_true rfl) dX7_part_51 ?_
          refine r_aload_n hc 0 rfl rfl dX7_part_54 ?_
          refine r_bipush hc (v := 7) (by decide) dX7_part_55 ?_
          refine r_iload_n hc 3 rfl rfl dX7_part_57 ?_
          obtain ⟨_, ek17, h⟩ := wp_g h
          obtain ⟨_, σ16, er15, h⟩ := wp_b h
          refine r_callV hc (k0 := x0) mv_X7_copies ml_X7_138 (c_X7_copies er15) (chk_of ek17) cls_7.1 rfl rfl rfl (by decide) rfl (Nat.le_of_ble_eq_true rfl) dX7_part_58 ?_
          refine r_aload_n hc 0 rfl rfl dX7_part_61 ?_
          refine r_iload_n hc 3 rfl rfl dX7_part_62 ?_
          obtain ⟨_, ek20, h⟩ := wp_g h
          obtain ⟨r18, σ19, er18, h⟩ := wp_b h
          refine r_callV hc (k0 := x0) mv_X7_lines ml_X7_141 (c_X7_lines er18) (chk_of ek20) cls_7.1 rfl rfl rfl (by decide) rfl (Nat.le_of_ble_eq_true rfl) dX7_part_63 ?_
          have h := wp_v h
          exact r_iret hc h dX7_part_66
        · have h := wp_t c h
          refine r_bipush hc (v := (-3)) (by decide) dX7_part_45 ?_
          have h := wp_v h
          exact r_iret hc h dX7_part_47
      · have h := wp_f c h
        refine r_bipush hc (v := (-2)) (by decide) dX7_part_24 ?_
        have h := wp_v h
        exact r_iret hc h dX7_part_26
    · have h := wp_t c h
      refine r_sub [] (lv' := []) rfl ?_
      exact t_X7_part_b14 hc h
theorem c_X7_part {l : Launch} {x0 : Nat} {x1 : Int32} {x2 : Int32} {x3 : Int32} {σ σ' : Hp} {r : Int32} (h : f_X7_part x0 x1 x2 x3 σ = some (r, σ')) : Mt l yX7_part cX7_part 4 (some .int) 4 shM (fun ad => [.ref (ad x0), .int x1, .int x2, .int x3]) σ (fun ad => some (.int r)) σ' := mt_i (own := RX7) (by decide) rfl (fun _ => Nat.le_of_ble_eq_true rfl) (fun γ ad K hc hk => t_X7_part hc ⟨_, _, h, hk⟩)

-- NetMapsModel.isThen(IIII)Z
theorem dX7_isThen_0 : decode cX7_isThen 0 = .ok (.aload_n 0, 1) := by decide +kernel
theorem dX7_isThen_1 : decode cX7_isThen 1 = .ok (.iload_n 1, 1) := by decide +kernel
theorem dX7_isThen_2 : decode cX7_isThen 2 = .ok (.iload_n 2, 1) := by decide +kernel
theorem dX7_isThen_3 : decode cX7_isThen 3 = .ok (.iload_n 3, 1) := by decide +kernel
theorem dX7_isThen_4 : decode cX7_isThen 4 = .ok (.invokevirtual 125, 3) := by decide +kernel
theorem dX7_isThen_7 : decode cX7_isThen 7 = .ok (.istore 5, 2) := by decide +kernel
theorem dX7_isThen_9 : decode cX7_isThen 9 = .ok (.iload 4, 2) := by decide +kernel
theorem dX7_isThen_11 : decode cX7_isThen 11 = .ok (.tableswitch 115 0 4 #[33, 41, 62, 83, 99], 33) := by decide +kernel
theorem dX7_isThen_44 : decode cX7_isThen 44 = .ok (.aload_n 0, 1) := by decide +kernel
theorem dX7_isThen_45 : decode cX7_isThen 45 = .ok (.iload_n 1, 1) := by decide +kernel
theorem dX7_isThen_46 : decode cX7_isThen 46 = .ok (.iload_n 3, 1) := by decide +kernel
theorem dX7_isThen_47 : decode cX7_isThen 47 = .ok (.iload_n 2, 1) := by decide +kernel
theorem dX7_isThen_48 : decode cX7_isThen 48 = .ok (.invokevirtual 125, 3) := by decide +kernel
theorem dX7_isThen_51 : decode cX7_isThen 51 = .ok (.ireturn, 1) := by decide +kernel
theorem dX7_isThen_52 : decode cX7_isThen 52 = .ok (.iload 5, 2) := by decide +kernel
theorem dX7_isThen_54 : decode cX7_isThen 54 = .ok (.ifCond .ne 13, 3) := by decide +kernel
theorem dX7_isThen_57 : decode cX7_isThen 57 = .ok (.aload_n 0, 1) := by decide +kernel
theorem dX7_isThen_58 : decode cX7_isThen 58 = .ok (.iload_n 1, 1) := by decide +kernel
theorem dX7_isThen_59 : decode cX7_isThen 59 = .ok (.iload_n 3, 1) := by decide +kernel
theorem dX7_isThen_60 : decode cX7_isThen 60 = .ok (.iload_n 2, 1) := by decide +kernel
theorem dX7_isThen_61 : decode cX7_isThen 61 = .ok (.invokevirtual 125, 3) := by decide +kernel
theorem dX7_isThen_64 : decode cX7_isThen 64 = .ok (.ifCond .eq 7, 3) := by decide +kernel
theorem dX7_isThen_67 : decode cX7_isThen 67 = .ok (.iconst 1, 1) := by decide +kernel
theorem dX7_isThen_68 : decode cX7_isThen 68 = .ok (.goto 4, 3) := by decide +kernel
theorem dX7_isThen_71 : decode cX7_isThen 71 = .ok (.iconst 0, 1) := by decide +kernel
theorem dX7_isThen_72 : decode cX7_isThen 72 = .ok (.ireturn, 1) := by decide +kernel
theorem dX7_isThen_73 : decode cX7_isThen 73 = .ok (.iload_n 2, 1) := by decide +kernel
theorem dX7_isThen_74 : decode cX7_isThen 74 = .ok (.iload_n 3, 1) := by decide +kernel
theorem dX7_isThen_75 : decode cX7_isThen 75 = .ok (.if_icmp .ne 8, 3) := by decide +kernel
theorem dX7_isThen_78 : decode cX7_isThen 78 = .ok (.iload 5, 2) := by decide +kernel
theorem dX7_isThen_80 : decode cX7_isThen 80 = .ok (.goto 13, 3) := by decide +kernel
theorem dX7_isThen_83 : decode cX7_isThen 83 = .ok (.iload 5, 2) := by decide +kernel
theorem dX7_isThen_85 : decode cX7_isThen 85 = .ok (.ifCond .ne 7, 3) := by decide +kernel
theorem dX7_isThen_88 : decode cX7_isThen 88 = .ok (.iconst 1, 1) := by decide +kernel
theorem dX7_isThen_89 : decode cX7_isThen 89 = .ok (.goto 4, 3) := by decide +kernel
theorem dX7_isThen_92 : decode cX7_isThen 92 = .ok (.iconst 0, 1) := by decide +kernel
theorem dX7_isThen_93 : decode cX7_isThen 93 = .ok (.ireturn, 1) := by decide +kernel
theorem dX7_isThen_94 : decode cX7_isThen 94 = .ok (.iload_n 2, 1) := by decide +kernel
theorem dX7_isThen_95 : decode cX7_isThen 95 = .ok (.iload_n 3, 1) := by decide +kernel
theorem dX7_isThen_96 : decode cX7_isThen 96 = .ok (.if_icmp .eq 8, 3) := by decide +kernel
theorem dX7_isThen_99 : decode cX7_isThen 99 = .ok (.iload 5, 2) := by decide +kernel
theorem dX7_isThen_101 : decode cX7_isThen 101 = .ok (.ifCond .eq 7, 3) := by decide +kernel
theorem dX7_isThen_104 : decode cX7_isThen 104 = .ok (.iconst 1, 1) := by decide +kernel
theorem dX7_isThen_105 : decode cX7_isThen 105 = .ok (.goto 4, 3) := by decide +kernel
theorem dX7_isThen_108 : decode cX7_isThen 108 = .ok (.iconst 0, 1) := by decide +kernel
theorem dX7_isThen_109 : decode cX7_isThen 109 = .ok (.ireturn, 1) := by decide +kernel
theorem dX7_isThen_110 : decode cX7_isThen 110 = .ok (.iload_n 2, 1) := by decide +kernel
theorem dX7_isThen_111 : decode cX7_isThen 111 = .ok (.iload_n 3, 1) := by decide +kernel
theorem dX7_isThen_112 : decode cX7_isThen 112 = .ok (.if_icmp .eq 12, 3) := by decide +kernel
theorem dX7_isThen_115 : decode cX7_isThen 115 = .ok (.iload 5, 2) := by decide +kernel
theorem dX7_isThen_117 : decode cX7_isThen 117 = .ok (.ifCond .eq 7, 3) := by decide +kernel
theorem dX7_isThen_120 : decode cX7_isThen 120 = .ok (.iconst 1, 1) := by decide +kernel
theorem dX7_isThen_121 : decode cX7_isThen 121 = .ok (.goto 4, 3) := by decide +kernel
theorem dX7_isThen_124 : decode cX7_isThen 124 = .ok (.iconst 0, 1) := by decide +kernel
theorem dX7_isThen_125 : decode cX7_isThen 125 = .ok (.ireturn, 1) := by decide +kernel
theorem dX7_isThen_126 : decode cX7_isThen 126 = .ok (.aload_n 0, 1) := by decide +kernel
theorem dX7_isThen_127 : decode cX7_isThen 127 = .ok (.iload_n 1, 1) := by decide +kernel
theorem dX7_isThen_128 : decode cX7_isThen 128 = .ok (.iload_n 2, 1) := by decide +kernel
theorem dX7_isThen_129 : decode cX7_isThen 129 = .ok (.invokevirtual 147, 3) := by decide +kernel
theorem dX7_isThen_132 : decode cX7_isThen 132 = .ok (.iload_n 3, 1) := by decide +kernel
theorem dX7_isThen_133 : decode cX7_isThen 133 = .ok (.invokestatic 89, 3) := by decide +kernel
theorem dX7_isThen_136 : decode cX7_isThen 136 = .ok (.ireturn, 1) := by decide +kernel
noncomputable def f_X7_isThen_b72 (s0 : Int32) (σ : Hp) : Option (Int32 × Hp) := gO (zz s0) fun _ => some (s0, σ)
set_option maxRecDepth 100000 in
set_option maxHeartbeats 4000000 in
theorem t_X7_isThen_b72 {l : Launch} {γ : Gm} {ad : Nat → Nat} {K : Option Value → Hp → Prop} (hc : Cx l γ 3 6 ad shM RX7 cX7_isThen (some .boolean) K) {s0 : Int32} {σ : Hp} (h : wpO (f_X7_isThen_b72 s0 σ) (KI K)) : WW l γ 3 6 ad shM 72 [] [.int s0] σ := by
  unfold f_X7_isThen_b72 at h
  obtain ⟨_, ek1, h⟩ := wp_g h
  have h := wp_v h
  exact r_zret hc h (zz_of ek1) dX7_isThen_72
noncomputable def f_X7_isThen_b67  (σ : Hp) : Option (Int32 × Hp) := f_X7_isThen_b72 1 σ
set_option maxRecDepth 100000 in
set_option maxHeartbeats 4000000 in
theorem t_X7_isThen_b67 {l : Launch} {γ : Gm} {ad : Nat → Nat} {K : Option Value → Hp → Prop} (hc : Cx l γ 3 6 ad shM RX7 cX7_isThen (some .boolean) K)  {σ : Hp} (h : wpO (f_X7_isThen_b67  σ) (KI K)) : WW l γ 3 6 ad shM 67 [] [] σ := by
  unfold f_X7_isThen_b67 at h
  refine r_iconst hc (v := 1) (by decide) dX7_isThen_67 ?_
  refine r_goto hc (tgt := 72) dX7_isThen_68 (by decide) ?_
  exact t_X7_isThen_b72 hc h
noncomputable def f_X7_isThen_b93 (s0 : Int32) (σ : Hp) : Option (Int32 × Hp) := gO (zz s0) fun _ => some (s0, σ)
set_option maxRecDepth 100000 in
set_option maxHeartbeats 4000000 in
theorem t_X7_isThen_b93 {l : Launch} {γ : Gm} {ad : Nat → Nat} {K : Option Value → Hp → Prop} (hc : Cx l γ 3 6 ad shM RX7 cX7_isThen (some .boolean) K) {s0 : Int32} {σ : Hp} (h : wpO (f_X7_isThen_b93 s0 σ) (KI K)) : WW l γ 3 6 ad shM 93 [] [.int s0] σ := by
  unfold f_X7_isThen_b93 at h
  obtain ⟨_, ek1, h⟩ := wp_g h
  have h := wp_v h
  exact r_zret hc h (zz_of ek1) dX7_isThen_93
noncomputable def f_X7_isThen_b109 (s0 : Int32) (σ : Hp) : Option (Int32 × Hp) := gO (zz s0) fun _ => some (s0, σ)
set_option maxRecDepth 100000 in
set_option maxHeartbeats 4000000 in
theorem t_X7_isThen_b109 {l : Launch} {γ : Gm} {ad : Nat → Nat} {K : Option Value → Hp → Prop} (hc : Cx l γ 3 6 ad shM RX7 cX7_isThen (some .boolean) K) {s0 : Int32} {σ : Hp} (h : wpO (f_X7_isThen_b109 s0 σ) (KI K)) : WW l γ 3 6 ad shM 109 [] [.int s0] σ := by
  unfold f_X7_isThen_b109 at h
  obtain ⟨_, ek1, h⟩ := wp_g h
  have h := wp_v h
  exact r_zret hc h (zz_of ek1) dX7_isThen_109
noncomputable def f_X7_isThen_b104  (σ : Hp) : Option (Int32 × Hp) := f_X7_isThen_b109 1 σ
set_option maxRecDepth 100000 in
set_option maxHeartbeats 4000000 in
theorem t_X7_isThen_b104 {l : Launch} {γ : Gm} {ad : Nat → Nat} {K : Option Value → Hp → Prop} (hc : Cx l γ 3 6 ad shM RX7 cX7_isThen (some .boolean) K)  {σ : Hp} (h : wpO (f_X7_isThen_b104  σ) (KI K)) : WW l γ 3 6 ad shM 104 [] [] σ := by
  unfold f_X7_isThen_b104 at h
  refine r_iconst hc (v := 1) (by decide) dX7_isThen_104 ?_
  refine r_goto hc (tgt := 109) dX7_isThen_105 (by decide) ?_
  exact t_X7_isThen_b109 hc h
noncomputable def f_X7_isThen_b125 (s0 : Int32) (σ : Hp) : Option (Int32 × Hp) := gO (zz s0) fun _ => some (s0, σ)
set_option maxRecDepth 100000 in
set_option maxHeartbeats 4000000 in
theorem t_X7_isThen_b125 {l : Launch} {γ : Gm} {ad : Nat → Nat} {K : Option Value → Hp → Prop} (hc : Cx l γ 3 6 ad shM RX7 cX7_isThen (some .boolean) K) {s0 : Int32} {σ : Hp} (h : wpO (f_X7_isThen_b125 s0 σ) (KI K)) : WW l γ 3 6 ad shM 125 [] [.int s0] σ := by
  unfold f_X7_isThen_b125 at h
  obtain ⟨_, ek1, h⟩ := wp_g h
  have h := wp_v h
  exact r_zret hc h (zz_of ek1) dX7_isThen_125
noncomputable def f_X7_isThen_b124  (σ : Hp) : Option (Int32 × Hp) := f_X7_isThen_b125 0 σ
set_option maxRecDepth 100000 in
set_option maxHeartbeats 4000000 in
theorem t_X7_isThen_b124 {l : Launch} {γ : Gm} {ad : Nat → Nat} {K : Option Value → Hp → Prop} (hc : Cx l γ 3 6 ad shM RX7 cX7_isThen (some .boolean) K)  {σ : Hp} (h : wpO (f_X7_isThen_b124  σ) (KI K)) : WW l γ 3 6 ad shM 124 [] [] σ := by
  unfold f_X7_isThen_b124 at h
  refine r_iconst hc (v := 0) (by decide) dX7_isThen_124 ?_
  exact t_X7_isThen_b125 hc h
noncomputable def f_X7_isThen (x0 : Nat) (x1 : Int32) (x2 : Int32) (x3 : Int32) (x4 : Int32) (σ : Hp) : Option (Int32 × Hp) := gO (chk shM x0 7) fun _ => bO (f_X7_isLine x0 x1 x2 x3 σ) fun r1 σ2 => if x4 = 0 then (gO (chk shM x0 7) fun _ => bO (f_X7_isLine x0 x1 x3 x2 σ2) fun r4 σ5 => gO (zz r4) fun _ => some (r4, σ5)) else (if x4 = 1 then (if r1 = 0 then (gO (chk shM x0 7) fun _ => bO (f_X7_isLine x0 x1 x3 x2 σ2) fun r8 σ9 => if r8 = 0 then (f_X7_isThen_b72 0 σ9) else (f_X7_isThen_b67  σ9)) else (f_X7_isThen_b67  σ2)) else (if x4 = 2 then (if x2 = x3 then (f_X7_isThen_b93 r1 σ2) else (if r1 = 0 then (f_X7_isThen_b93 1 σ2) else (f_X7_isThen_b93 0 σ2))) else (if x4 = 3 then (if x2 = x3 then (f_X7_isThen_b104  σ2) else (if r1 = 0 then (f_X7_isThen_b109 0 σ2) else (f_X7_isThen_b104  σ2))) else (if x4 = 4 then (if x2 = x3 then (f_X7_isThen_b124  σ2) else (if r1 = 0 then (f_X7_isThen_b124  σ2) else (f_X7_isThen_b125 1 σ2))) else (gO (chk shM x0 7) fun _ => bO (f_X7_reachOf x0 x1 x2 σ2) fun r11 σ12 => bO (f_X7_has r11 x3 σ12) fun r14 σ15 => gO (zz r14) fun _ => some (r14, σ15))))))
set_option maxRecDepth 100000 in
set_option maxHeartbeats 4000000 in
theorem t_X7_isThen {l : Launch} {γ : Gm} {ad : Nat → Nat} {K : Option Value → Hp → Prop} (hc : Cx l γ 3 6 ad shM RX7 cX7_isThen (some .boolean) K) {x0 : Nat} {x1 : Int32} {x2 : Int32} {x3 : Int32} {x4 : Int32} {σ : Hp} (h : wpO (f_X7_isThen x0 x1 x2 x3 x4 σ) (KI K)) : WW l γ 3 6 ad shM 0 [(0, .ref (ad x0)), (1, .int x1), (2, .int x2), (3, .int x3), (4, .int x4)] [] σ := by
  unfold f_X7_isThen at h
  refine r_aload_n hc 0 rfl rfl dX7_isThen_0 ?_
  refine r_iload_n hc 1 rfl rfl dX7_isThen_1 ?_
  refine r_iload_n hc 2 rfl rfl dX7_isThen_2 ?_
  refine r_iload_n hc 3 rfl rfl dX7_isThen_3 ?_
  obtain ⟨_, ek3, h⟩ := wp_g h
  obtain ⟨r1, σ2, er1, h⟩ := wp_b h
  refine r_callV hc (k0 := x0) mv_X7_isLine ml_X7_125 (c_X7_isLine er1) (chk_of ek3) cls_7.1 rfl rfl rfl (by decide) rfl (Nat.le_of_ble_eq_true rfl) dX7_isThen_4 ?_
  refine r_istoreE hc (i := 5) (lv' := [(5, .int r1), (0, .ref (ad x0)), (1, .int x1), (2, .int x2), (3, .int x3), (4, .int x4)]) rfl (by decide) rfl dX7_isThen_7 ?_
  refine r_iload hc 5 rfl dX7_isThen_9 ?_
  by_cases c0 : x4 = 0
  · have h := wp_t c0 h
    refine r_tabIn hc (off := 33) (tgt := 44) dX7_isThen_11 c0 (by decide) (by decide) (by decide) (by decide) ?_
    refine r_aload_n hc 1 rfl rfl dX7_isThen_44 ?_
    refine r_iload_n hc 2 rfl rfl dX7_isThen_45 ?_
    refine r_iload_n hc 4 rfl rfl dX7_isThen_46 ?_
    refine r_iload_n hc 3 rfl rfl dX7_isThen_47 ?_
    obtain ⟨_, ek6, h⟩ := wp_g h
    obtain ⟨r4, σ5, er4, h⟩ := wp_b h
    refine r_callV hc (k0 := x0) mv_X7_isLine ml_X7_125 (c_X7_isLine er4) (chk_of ek6) cls_7.1 rfl rfl rfl (by decide) rfl (Nat.le_of_ble_eq_true rfl) dX7_isThen_48 ?_
    obtain ⟨_, ek7, h⟩ := wp_g h
    have h := wp_v h
    exact r_zret hc h (zz_of ek7) dX7_isThen_51
  have h := wp_f c0 h
  by_cases c1 : x4 = 1
  · have h := wp_t c1 h
    refine r_tabIn hc (off := 41) (tgt := 52) dX7_isThen_11 c1 (by decide) (by decide) (by decide) (by decide) ?_
    refine r_iload hc 0 rfl dX7_isThen_52 ?_
    refine r_if_ne hc (tgt := 67) dX7_isThen_54 (by decide) (fun c => ?_) (fun c => ?_)
    · have h := wp_f c h
      refine r_sub [] (lv' := []) rfl ?_
      exact t_X7_isThen_b67 hc h
    · have h := wp_t c h
      refine r_aload_n hc 1 rfl rfl dX7_isThen_57 ?_
      refine r_iload_n hc 2 rfl rfl dX7_isThen_58 ?_
      refine r_iload_n hc 4 rfl rfl dX7_isThen_59 ?_
      refine r_iload_n hc 3 rfl rfl dX7_isThen_60 ?_
      obtain ⟨_, ek10, h⟩ := wp_g h
      obtain ⟨r8, σ9, er8, h⟩ := wp_b h
      refine r_callV hc (k0 := x0) mv_X7_isLine ml_X7_125 (c_X7_isLine er8) (chk_of ek10) cls_7.1 rfl rfl rfl (by decide) rfl (Nat.le_of_ble_eq_true rfl) dX7_isThen_61 ?_
      refine r_if_eq hc (tgt := 71) dX7_isThen_64 (by decide) (fun c => ?_) (fun c => ?_)
      · have h := wp_t c h
        refine r_iconst hc (v := 0) (by decide) dX7_isThen_71 ?_
        refine r_sub [] (lv' := []) rfl ?_
        exact t_X7_isThen_b72 hc h
      · have h := wp_f c h
        refine r_sub [] (lv' := []) rfl ?_
        exact t_X7_isThen_b67 hc h
  have h := wp_f c1 h
  by_cases c2 : x4 = 2
  · have h := wp_t c2 h
    refine r_tabIn hc (off := 62) (tgt := 73) dX7_isThen_11 c2 (by decide) (by decide) (by decide) (by decide) ?_
    refine r_iload_n hc 3 rfl rfl dX7_isThen_73 ?_
    refine r_iload_n hc 4 rfl rfl dX7_isThen_74 ?_
    refine r_icmp_ne hc (tgt := 83) dX7_isThen_75 (by decide) (fun c => ?_) (fun c => ?_)
    · have h := wp_f c h
      refine r_iload hc 0 rfl dX7_isThen_83 ?_
      refine r_if_ne hc (tgt := 92) dX7_isThen_85 (by decide) (fun c => ?_) (fun c => ?_)
      · have h := wp_f c h
        refine r_iconst hc (v := 0) (by decide) dX7_isThen_92 ?_
        refine r_sub [] (lv' := []) rfl ?_
        exact t_X7_isThen_b93 hc h
      · have h := wp_t c h
        refine r_iconst hc (v := 1) (by decide) dX7_isThen_88 ?_
        refine r_goto hc (tgt := 93) dX7_isThen_89 (by decide) ?_
        refine r_sub [] (lv' := []) rfl ?_
        exact t_X7_isThen_b93 hc h
    · have h := wp_t c h
      refine r_iload hc 0 rfl dX7_isThen_78 ?_
      refine r_goto hc (tgt := 93) dX7_isThen_80 (by decide) ?_
      refine r_sub [] (lv' := []) rfl ?_
      exact t_X7_isThen_b93 hc h
  have h := wp_f c2 h
  by_cases c3 : x4 = 3
  · have h := wp_t c3 h
    refine r_tabIn hc (off := 83) (tgt := 94) dX7_isThen_11 c3 (by decide) (by decide) (by decide) (by decide) ?_
    refine r_iload_n hc 3 rfl rfl dX7_isThen_94 ?_
    refine r_iload_n hc 4 rfl rfl dX7_isThen_95 ?_
    refine r_icmp_eq hc (tgt := 104) dX7_isThen_96 (by decide) (fun c => ?_) (fun c => ?_)
    · have h := wp_t c h
      refine r_sub [] (lv' := []) rfl ?_
      exact t_X7_isThen_b104 hc h
    · have h := wp_f c h
      refine r_iload hc 0 rfl dX7_isThen_99 ?_
      refine r_if_eq hc (tgt := 108) dX7_isThen_101 (by decide) (fun c => ?_) (fun c => ?_)
      · have h := wp_t c h
        refine r_iconst hc (v := 0) (by decide) dX7_isThen_108 ?_
        refine r_sub [] (lv' := []) rfl ?_
        exact t_X7_isThen_b109 hc h
      · have h := wp_f c h
        refine r_sub [] (lv' := []) rfl ?_
        exact t_X7_isThen_b104 hc h
  have h := wp_f c3 h
  by_cases c4 : x4 = 4
  · have h := wp_t c4 h
    refine r_tabIn hc (off := 99) (tgt := 110) dX7_isThen_11 c4 (by decide) (by decide) (by decide) (by decide) ?_
    refine r_iload_n hc 3 rfl rfl dX7_isThen_110 ?_
    refine r_iload_n hc 4 rfl rfl dX7_isThen_111 ?_
    refine r_icmp_eq hc (tgt := 124) dX7_isThen_112 (by decide) (fun c => ?_) (fun c => ?_)
    · have h := wp_t c h
      refine r_sub [] (lv' := []) rfl ?_
      exact t_X7_isThen_b124 hc h
    · have h := wp_f c h
      refine r_iload hc 0 rfl dX7_isThen_115 ?_
      refine r_if_eq hc (tgt := 124) dX7_isThen_117 (by decide) (fun c => ?_) (fun c => ?_)
      · have h := wp_t c h
        refine r_sub [] (lv' := []) rfl ?_
        exact t_X7_isThen_b124 hc h
      · have h := wp_f c h
        refine r_iconst hc (v := 1) (by decide) dX7_isThen_120 ?_
        refine r_goto hc (tgt := 125) dX7_isThen_121 (by decide) ?_
        refine r_sub [] (lv' := []) rfl ?_
        exact t_X7_isThen_b125 hc h
  have h := wp_f c4 h
  refine r_tabOut hc (tgt := 126) dX7_isThen_11 (sw_out 0 5 (fun i hi => by rcases (show i = 0 ∨ i = 1 ∨ i = 2 ∨ i = 3 ∨ i = 4 by omega) with rfl | rfl | rfl | rfl | rfl <;> assumption)) (by decide) ?_
  refine r_aload_n hc 1 rfl rfl dX7_isThen_126 ?_
  refine r_iload_n hc 2 rfl rfl dX7_isThen_127 ?_
  refine r_iload_n hc 3 rfl rfl dX7_isThen_128 ?_
  obtain ⟨_, ek13, h⟩ := wp_g h
  obtain ⟨r11, σ12, er11, h⟩ := wp_b h
  refine r_callV hc (k0 := x0) mv_X7_reachOf ml_X7_147 (c_X7_reachOf er11) (chk_of ek13) cls_7.1 rfl rfl rfl (by decide) rfl (Nat.le_of_ble_eq_true rfl) dX7_isThen_129 ?_
  refine r_iload_n hc 4 rfl rfl dX7_isThen_132 ?_
  obtain ⟨r14, σ15, er14, h⟩ := wp_b h
  refine r_callS hc ms_X7_has ml_X7_89 (c_X7_has er14) rfl rfl (by decide) rfl (Nat.le_of_ble_eq_true rfl) dX7_isThen_133 ?_
  obtain ⟨_, ek16, h⟩ := wp_g h
  have h := wp_v h
  exact r_zret hc h (zz_of ek16) dX7_isThen_136
theorem c_X7_isThen {l : Launch} {x0 : Nat} {x1 : Int32} {x2 : Int32} {x3 : Int32} {x4 : Int32} {σ σ' : Hp} {r : Int32} (h : f_X7_isThen x0 x1 x2 x3 x4 σ = some (r, σ')) : Mt l yX7_isThen cX7_isThen 6 (some .boolean) 3 shM (fun ad => [.ref (ad x0), .int x1, .int x2, .int x3, .int x4]) σ (fun ad => some (.int r)) σ' := mt_i (own := RX7) (by decide) rfl (fun _ => Nat.le_of_ble_eq_true rfl) (fun γ ad K hc hk => t_X7_isThen hc ⟨_, _, h, hk⟩)

-- NetMapsModel.became()I
theorem dX7_became_0 : decode cX7_became 0 = .ok (.iconst 0, 1) := by decide +kernel
theorem dX7_became_1 : decode cX7_became 1 = .ok (.istore_n 1, 1) := by decide +kernel
theorem dX7_became_2 : decode cX7_became 2 = .ok (.iconst 0, 1) := by decide +kernel
theorem dX7_became_3 : decode cX7_became 3 = .ok (.istore_n 2, 1) := by decide +kernel
theorem dX7_became_4 : decode cX7_became 4 = .ok (.iload_n 2, 1) := by decide +kernel
theorem dX7_became_5 : decode cX7_became 5 = .ok (.aload_n 0, 1) := by decide +kernel
theorem dX7_became_6 : decode cX7_became 6 = .ok (.getfield 7, 3) := by decide +kernel
theorem dX7_became_9 : decode cX7_became 9 = .ok (.aload_n 0, 1) := by decide +kernel
theorem dX7_became_10 : decode cX7_became 10 = .ok (.getfield 215, 3) := by decide +kernel
theorem dX7_became_13 : decode cX7_became 13 = .ok (.iaload, 1) := by decide +kernel
theorem dX7_became_14 : decode cX7_became 14 = .ok (.if_icmp .ge 20, 3) := by decide +kernel
theorem dX7_became_17 : decode cX7_became 17 = .ok (.iload_n 1, 1) := by decide +kernel
theorem dX7_became_18 : decode cX7_became 18 = .ok (.iconst 1, 1) := by decide +kernel
theorem dX7_became_19 : decode cX7_became 19 = .ok (.aload_n 0, 1) := by decide +kernel
theorem dX7_became_20 : decode cX7_became 20 = .ok (.getfield 29, 3) := by decide +kernel
theorem dX7_became_23 : decode cX7_became 23 = .ok (.iload_n 2, 1) := by decide +kernel
theorem dX7_became_24 : decode cX7_became 24 = .ok (.iaload, 1) := by decide +kernel
theorem dX7_became_25 : decode cX7_became 25 = .ok (.ishl, 1) := by decide +kernel
theorem dX7_became_26 : decode cX7_became 26 = .ok (.ior, 1) := by decide +kernel
theorem dX7_became_27 : decode cX7_became 27 = .ok (.istore_n 1, 1) := by decide +kernel
theorem dX7_became_28 : decode cX7_became 28 = .ok (.iinc 2 1, 3) := by decide +kernel
theorem dX7_became_31 : decode cX7_became 31 = .ok (.goto (-27), 3) := by decide +kernel
theorem dX7_became_34 : decode cX7_became 34 = .ok (.iload_n 1, 1) := by decide +kernel
theorem dX7_became_35 : decode cX7_became 35 = .ok (.ireturn, 1) := by decide +kernel
noncomputable def f_X7_became_L4 (x0 : Nat) (v : (Int32 × Int32)) (σ : Hp) : Option (((Int32 × Int32) ⊕ (Int32)) × Hp) := gO (getR shM 7 x0 0 σ) fun v1 => gO (getI shM 7 x0 11 σ) fun v2 => gO (aldI shM 0 v1 v2 σ) fun v3 => if v3 ≤ v.2 then (some (Sum.inr v.1, σ)) else (gO (getR shM 7 x0 9 σ) fun v4 => gO (aldI shM 0 v4 v.2 σ) fun v5 => lt' ((v.1 ||| ((1 : Int32) <<< (v5 &&& 31)))) fun t6 => some (Sum.inl (t6, (v.2 + 1)), σ))
set_option maxRecDepth 100000 in
set_option maxHeartbeats 4000000 in
theorem t_X7_became_L4 {l : Launch} {γ : Gm} {ad : Nat → Nat} {K : Option Value → Hp → Prop}  (hc : Cx l γ 1 3 ad shM RX7 cX7_became (some .int) K) {x0 : Nat} {v : (Int32 × Int32)} {σ : Hp} {KX : (Int32) → Hp → Prop} (h : wpO (wh (f_X7_became_L4 x0) v σ) KX) (kx34 : ∀ (v : Int32) (σ : Hp), KX v σ → WW l γ 1 3 ad shM 34 [(1, .int v)] [] σ) : WW l γ 1 3 ad shM 4 [(0, .ref (ad x0)), (1, .int v.1), (2, .int v.2)] [] σ := by
  refine wh_W (P := fun v σ => WW l γ 1 3 ad shM 4 [(0, .ref (ad x0)), (1, .int v.1), (2, .int v.2)] [] σ) (fun v σ h => ?_) h
  have kn : ∀ (v : (Int32 × Int32)) (σ : Hp), WW l γ 1 3 ad shM 4 [(0, .ref (ad x0)), (1, .int v.1), (2, .int v.2)] [] σ → WW l γ 1 3 ad shM 4 [(0, .ref (ad x0)), (1, .int v.1), (2, .int v.2)] [] σ := fun _ _ h => h
  · unfold f_X7_became_L4 at h
    refine r_iload_n hc 2 rfl rfl dX7_became_4 ?_
    refine r_aload_n hc 0 rfl rfl dX7_became_5 ?_
    obtain ⟨v1, ev1, h⟩ := wp_g h
    refine r_getR hc ev1 fl_X7_7 rfl dX7_became_6 ?_
    refine r_aload_n hc 0 rfl rfl dX7_became_9 ?_
    obtain ⟨v2, ev2, h⟩ := wp_g h
    refine r_getI hc ev2 fl_X7_215 rfl dX7_became_10 ?_
    obtain ⟨v3, ev3, h⟩ := wp_g h
    refine r_iald hc ev3 dX7_became_13 ?_
    refine r_icmp_ge hc (tgt := 34) dX7_became_14 (by decide) (fun c => ?_) (fun c => ?_)
    · have h := wp_t c h
      refine r_sub [1] (lv' := [(1, .int v.1)]) rfl ?_
      have h := wp_v h
      exact kx34 v.1 _ h
    · have h := wp_f c h
      refine r_iload_n hc 1 rfl rfl dX7_became_17 ?_
      refine r_iconst hc (v := 1) (by decide) dX7_became_18 ?_
      refine r_aload_n hc 0 rfl rfl dX7_became_19 ?_
      obtain ⟨v4, ev4, h⟩ := wp_g h
      refine r_getR hc ev4 fl_X7_29 rfl dX7_became_20 ?_
      refine r_iload_n hc 2 rfl rfl dX7_became_23 ?_
      obtain ⟨v5, ev5, h⟩ := wp_g h
      refine r_iald hc ev5 dX7_became_24 ?_
      refine r_ishl hc dX7_became_25 ?_
      refine r_ior hc dX7_became_26 ?_
      obtain ⟨t6, et6, h⟩ := wp_l h
      refine r_istore_nE hc (i := 1) (lv' := [(1, .int t6), (0, .ref (ad x0)), (2, .int v.2)]) et6 rfl (by decide) rfl dX7_became_27 ?_
      refine r_iincE hc (j := 2) (w := 1) (lv' := [(2, .int (v.2 + 1)), (1, .int t6), (0, .ref (ad x0))]) rfl (by decide) rfl (by decide) rfl dX7_became_28 ?_
      refine r_goto hc (tgt := 4) dX7_became_31 (by decide) ?_
      refine r_sub [2, 1, 0] (lv' := [(0, .ref (ad x0)), (1, .int t6), (2, .int (v.2 + 1))]) rfl ?_
      have h := wp_v h
      exact kn (t6, (v.2 + 1)) _ h
noncomputable def f_X7_became (x0 : Nat) (σ : Hp) : Option (Int32 × Hp) := bO (wh (f_X7_became_L4 x0) (0, 0) σ) fun y1 σ2 => (some (y1, σ2))
set_option maxRecDepth 100000 in
set_option maxHeartbeats 4000000 in
theorem t_X7_became {l : Launch} {γ : Gm} {ad : Nat → Nat} {K : Option Value → Hp → Prop} (hc : Cx l γ 1 3 ad shM RX7 cX7_became (some .int) K) {x0 : Nat} {σ : Hp} (h : wpO (f_X7_became x0 σ) (KI K)) : WW l γ 1 3 ad shM 0 [(0, .ref (ad x0))] [] σ := by
  unfold f_X7_became at h
  refine r_iconst hc (v := 0) (by decide) dX7_became_0 ?_
  refine r_istore_nE hc (i := 1) (lv' := [(1, .int 0), (0, .ref (ad x0))]) rfl rfl (by decide) rfl dX7_became_1 ?_
  refine r_iconst hc (v := 0) (by decide) dX7_became_2 ?_
  refine r_istore_nE hc (i := 2) (lv' := [(2, .int 0), (1, .int 0), (0, .ref (ad x0))]) rfl rfl (by decide) rfl dX7_became_3 ?_
  refine r_sub [2, 1, 0] (lv' := [(0, .ref (ad x0)), (1, .int 0), (2, .int 0)]) rfl ?_
  refine t_X7_became_L4 hc (wp_bb h) ?_
  · intro y1 σ2 h
    refine r_iload_n hc 0 rfl rfl dX7_became_34 ?_
    have h := wp_v h
    exact r_iret hc h dX7_became_35
theorem c_X7_became {l : Launch} {x0 : Nat} {σ σ' : Hp} {r : Int32} (h : f_X7_became x0 σ = some (r, σ')) : Mt l yX7_became cX7_became 3 (some .int) 1 shM (fun ad => [.ref (ad x0)]) σ (fun ad => some (.int r)) σ' := mt_i (own := RX7) (by decide) rfl (fun _ => Nat.le_of_ble_eq_true rfl) (fun γ ad K hc hk => t_X7_became hc ⟨_, _, h, hk⟩)

-- NetMapsModel.isRetraction()Z
theorem dX7_isRetraction_0 : decode cX7_isRetraction 0 = .ok (.iconst 1, 1) := by decide +kernel
theorem dX7_isRetraction_1 : decode cX7_isRetraction 1 = .ok (.istore_n 1, 1) := by decide +kernel
theorem dX7_isRetraction_2 : decode cX7_isRetraction 2 = .ok (.iconst 0, 1) := by decide +kernel
theorem dX7_isRetraction_3 : decode cX7_isRetraction 3 = .ok (.istore_n 2, 1) := by decide +kernel
theorem dX7_isRetraction_4 : decode cX7_isRetraction 4 = .ok (.iload_n 2, 1) := by decide +kernel
theorem dX7_isRetraction_5 : decode cX7_isRetraction 5 = .ok (.aload_n 0, 1) := by decide +kernel
theorem dX7_isRetraction_6 : decode cX7_isRetraction 6 = .ok (.getfield 7, 3) := by decide +kernel
theorem dX7_isRetraction_9 : decode cX7_isRetraction 9 = .ok (.aload_n 0, 1) := by decide +kernel
theorem dX7_isRetraction_10 : decode cX7_isRetraction 10 = .ok (.getfield 215, 3) := by decide +kernel
theorem dX7_isRetraction_13 : decode cX7_isRetraction 13 = .ok (.iaload, 1) := by decide +kernel
theorem dX7_isRetraction_14 : decode cX7_isRetraction 14 = .ok (.if_icmp .ge 39, 3) := by decide +kernel
theorem dX7_isRetraction_17 : decode cX7_isRetraction 17 = .ok (.iload_n 1, 1) := by decide +kernel
theorem dX7_isRetraction_18 : decode cX7_isRetraction 18 = .ok (.ifCond .eq 27, 3) := by decide +kernel
theorem dX7_isRetraction_21 : decode cX7_isRetraction 21 = .ok (.aload_n 0, 1) := by decide +kernel
theorem dX7_isRetraction_22 : decode cX7_isRetraction 22 = .ok (.getfield 29, 3) := by decide +kernel
theorem dX7_isRetraction_25 : decode cX7_isRetraction 25 = .ok (.aload_n 0, 1) := by decide +kernel
theorem dX7_isRetraction_26 : decode cX7_isRetraction 26 = .ok (.getfield 29, 3) := by decide +kernel
theorem dX7_isRetraction_29 : decode cX7_isRetraction 29 = .ok (.iload_n 2, 1) := by decide +kernel
theorem dX7_isRetraction_30 : decode cX7_isRetraction 30 = .ok (.iaload, 1) := by decide +kernel
theorem dX7_isRetraction_31 : decode cX7_isRetraction 31 = .ok (.iaload, 1) := by decide +kernel
theorem dX7_isRetraction_32 : decode cX7_isRetraction 32 = .ok (.aload_n 0, 1) := by decide +kernel
theorem dX7_isRetraction_33 : decode cX7_isRetraction 33 = .ok (.getfield 29, 3) := by decide +kernel
theorem dX7_isRetraction_36 : decode cX7_isRetraction 36 = .ok (.iload_n 2, 1) := by decide +kernel
theorem dX7_isRetraction_37 : decode cX7_isRetraction 37 = .ok (.iaload, 1) := by decide +kernel
theorem dX7_isRetraction_38 : decode cX7_isRetraction 38 = .ok (.if_icmp .ne 7, 3) := by decide +kernel
theorem dX7_isRetraction_41 : decode cX7_isRetraction 41 = .ok (.iconst 1, 1) := by decide +kernel
theorem dX7_isRetraction_42 : decode cX7_isRetraction 42 = .ok (.goto 4, 3) := by decide +kernel
theorem dX7_isRetraction_45 : decode cX7_isRetraction 45 = .ok (.iconst 0, 1) := by decide +kernel
theorem dX7_isRetraction_46 : decode cX7_isRetraction 46 = .ok (.istore_n 1, 1) := by decide +kernel
theorem dX7_isRetraction_47 : decode cX7_isRetraction 47 = .ok (.iinc 2 1, 3) := by decide +kernel
theorem dX7_isRetraction_50 : decode cX7_isRetraction 50 = .ok (.goto (-46), 3) := by decide +kernel
theorem dX7_isRetraction_53 : decode cX7_isRetraction 53 = .ok (.iload_n 1, 1) := by decide +kernel
theorem dX7_isRetraction_54 : decode cX7_isRetraction 54 = .ok (.ireturn, 1) := by decide +kernel
noncomputable def f_X7_isRetraction_b46 (x0 : Nat) (x2 : Int32) (s0 : Int32) (σ : Hp) : Option (((Int32 × Int32) ⊕ (Int32)) × Hp) := some (Sum.inl (s0, (x2 + 1)), σ)
set_option maxRecDepth 100000 in
set_option maxHeartbeats 4000000 in
theorem t_X7_isRetraction_b46 {l : Launch} {γ : Gm} {ad : Nat → Nat} {K : Option Value → Hp → Prop} (hc : Cx l γ 1 3 ad shM RX7 cX7_isRetraction (some .boolean) K) {x0 : Nat} {x2 : Int32} {s0 : Int32}  {σ : Hp} {KL : ((Int32 × Int32) ⊕ (Int32)) → Hp → Prop} (h : wpO (f_X7_isRetraction_b46 x0 x2 s0 σ) KL) (kn : ∀ (v : (Int32 × Int32)) (σ : Hp), KL (Sum.inl v) σ → WW l γ 1 3 ad shM 4 [(0, .ref (ad x0)), (1, .int v.1), (2, .int v.2)] [] σ) (kx53 : ∀ (v : Int32) (σ : Hp), KL (Sum.inr v) σ → WW l γ 1 3 ad shM 53 [(1, .int v)] [] σ) : WW l γ 1 3 ad shM 46 [(0, .ref (ad x0)), (2, .int x2)] [.int s0] σ := by
  unfold f_X7_isRetraction_b46 at h
  refine r_istore_nE hc (i := 1) (lv' := [(1, .int s0), (0, .ref (ad x0)), (2, .int x2)]) rfl rfl (by decide) rfl dX7_isRetraction_46 ?_
  refine r_iincE hc (j := 2) (w := 1) (lv' := [(2, .int (x2 + 1)), (1, .int s0), (0, .ref (ad x0))]) rfl (by decide) rfl (by decide) rfl dX7_isRetraction_47 ?_
  refine r_goto hc (tgt := 4) dX7_isRetraction_50 (by decide) ?_
  refine r_sub [2, 1, 0] (lv' := [(0, .ref (ad x0)), (1, .int s0), (2, .int (x2 + 1))]) rfl ?_
  have h := wp_v h
  exact kn (s0, (x2 + 1)) _ h
noncomputable def f_X7_isRetraction_b45 (x0 : Nat) (x2 : Int32) (σ : Hp) : Option (((Int32 × Int32) ⊕ (Int32)) × Hp) := f_X7_isRetraction_b46 x0 x2 0 σ
set_option maxRecDepth 100000 in
set_option maxHeartbeats 4000000 in
theorem t_X7_isRetraction_b45 {l : Launch} {γ : Gm} {ad : Nat → Nat} {K : Option Value → Hp → Prop} (hc : Cx l γ 1 3 ad shM RX7 cX7_isRetraction (some .boolean) K) {x0 : Nat} {x2 : Int32}  {σ : Hp} {KL : ((Int32 × Int32) ⊕ (Int32)) → Hp → Prop} (h : wpO (f_X7_isRetraction_b45 x0 x2 σ) KL) (kn : ∀ (v : (Int32 × Int32)) (σ : Hp), KL (Sum.inl v) σ → WW l γ 1 3 ad shM 4 [(0, .ref (ad x0)), (1, .int v.1), (2, .int v.2)] [] σ) (kx53 : ∀ (v : Int32) (σ : Hp), KL (Sum.inr v) σ → WW l γ 1 3 ad shM 53 [(1, .int v)] [] σ) : WW l γ 1 3 ad shM 45 [(0, .ref (ad x0)), (2, .int x2)] [] σ := by
  unfold f_X7_isRetraction_b45 at h
  refine r_iconst hc (v := 0) (by decide) dX7_isRetraction_45 ?_
  exact t_X7_isRetraction_b46 hc h kn kx53
noncomputable def f_X7_isRetraction_L4 (x0 : Nat) (v : (Int32 × Int32)) (σ : Hp) : Option (((Int32 × Int32) ⊕ (Int32)) × Hp) := gO (getR shM 7 x0 0 σ) fun v1 => gO (getI shM 7 x0 11 σ) fun v2 => gO (aldI shM 0 v1 v2 σ) fun v3 => if v3 ≤ v.2 then (some (Sum.inr v.1, σ)) else (if v.1 = 0 then (f_X7_isRetraction_b45 x0 v.2 σ) else (gO (getR shM 7 x0 9 σ) fun v4 => gO (getR shM 7 x0 9 σ) fun v5 => gO (aldI shM 0 v5 v.2 σ) fun v6 => gO (aldI shM 0 v4 v6 σ) fun v7 => gO (getR shM 7 x0 9 σ) fun v8 => gO (aldI shM 0 v8 v.2 σ) fun v9 => if v7 = v9 then (f_X7_isRetraction_b46 x0 v.2 1 σ) else (f_X7_isRetraction_b45 x0 v.2 σ)))
set_option maxRecDepth 100000 in
set_option maxHeartbeats 4000000 in
theorem t_X7_isRetraction_L4 {l : Launch} {γ : Gm} {ad : Nat → Nat} {K : Option Value → Hp → Prop}  (hc : Cx l γ 1 3 ad shM RX7 cX7_isRetraction (some .boolean) K) {x0 : Nat} {v : (Int32 × Int32)} {σ : Hp} {KX : (Int32) → Hp → Prop} (h : wpO (wh (f_X7_isRetraction_L4 x0) v σ) KX) (kx53 : ∀ (v : Int32) (σ : Hp), KX v σ → WW l γ 1 3 ad shM 53 [(1, .int v)] [] σ) : WW l γ 1 3 ad shM 4 [(0, .ref (ad x0)), (1, .int v.1), (2, .int v.2)] [] σ := by
  refine wh_W (P := fun v σ => WW l γ 1 3 ad shM 4 [(0, .ref (ad x0)), (1, .int v.1), (2, .int v.2)] [] σ) (fun v σ h => ?_) h
  have kn : ∀ (v : (Int32 × Int32)) (σ : Hp), WW l γ 1 3 ad shM 4 [(0, .ref (ad x0)), (1, .int v.1), (2, .int v.2)] [] σ → WW l γ 1 3 ad shM 4 [(0, .ref (ad x0)), (1, .int v.1), (2, .int v.2)] [] σ := fun _ _ h => h
  · unfold f_X7_isRetraction_L4 at h
    refine r_iload_n hc 2 rfl rfl dX7_isRetraction_4 ?_
    refine r_aload_n hc 0 rfl rfl dX7_isRetraction_5 ?_
    obtain ⟨v1, ev1, h⟩ := wp_g h
    refine r_getR hc ev1 fl_X7_7 rfl dX7_isRetraction_6 ?_
    refine r_aload_n hc 0 rfl rfl dX7_isRetraction_9 ?_
    obtain ⟨v2, ev2, h⟩ := wp_g h
    refine r_getI hc ev2 fl_X7_215 rfl dX7_isRetraction_10 ?_
    obtain ⟨v3, ev3, h⟩ := wp_g h
    refine r_iald hc ev3 dX7_isRetraction_13 ?_
    refine r_icmp_ge hc (tgt := 53) dX7_isRetraction_14 (by decide) (fun c => ?_) (fun c => ?_)
    · have h := wp_t c h
      refine r_sub [1] (lv' := [(1, .int v.1)]) rfl ?_
      have h := wp_v h
      exact kx53 v.1 _ h
    · have h := wp_f c h
      refine r_iload_n hc 1 rfl rfl dX7_isRetraction_17 ?_
      refine r_if_eq hc (tgt := 45) dX7_isRetraction_18 (by decide) (fun c => ?_) (fun c => ?_)
      · have h := wp_t c h
        refine r_sub [0, 2] (lv' := [(0, .ref (ad x0)), (2, .int v.2)]) rfl ?_
        exact t_X7_isRetraction_b45 hc h kn kx53
      · have h := wp_f c h
        refine r_aload_n hc 0 rfl rfl dX7_isRetraction_21 ?_
        obtain ⟨v4, ev4, h⟩ := wp_g h
        refine r_getR hc ev4 fl_X7_29 rfl dX7_isRetraction_22 ?_
        refine r_aload_n hc 0 rfl rfl dX7_isRetraction_25 ?_
        obtain ⟨v5, ev5, h⟩ := wp_g h
        refine r_getR hc ev5 fl_X7_29 rfl dX7_isRetraction_26 ?_
        refine r_iload_n hc 2 rfl rfl dX7_isRetraction_29 ?_
        obtain ⟨v6, ev6, h⟩ := wp_g h
        refine r_iald hc ev6 dX7_isRetraction_30 ?_
        obtain ⟨v7, ev7, h⟩ := wp_g h
        refine r_iald hc ev7 dX7_isRetraction_31 ?_
        refine r_aload_n hc 0 rfl rfl dX7_isRetraction_32 ?_
        obtain ⟨v8, ev8, h⟩ := wp_g h
        refine r_getR hc ev8 fl_X7_29 rfl dX7_isRetraction_33 ?_
        refine r_iload_n hc 2 rfl rfl dX7_isRetraction_36 ?_
        obtain ⟨v9, ev9, h⟩ := wp_g h
        refine r_iald hc ev9 dX7_isRetraction_37 ?_
        refine r_icmp_ne hc (tgt := 45) dX7_isRetraction_38 (by decide) (fun c => ?_) (fun c => ?_)
        · have h := wp_f c h
          refine r_sub [0, 2] (lv' := [(0, .ref (ad x0)), (2, .int v.2)]) rfl ?_
          exact t_X7_isRetraction_b45 hc h kn kx53
        · have h := wp_t c h
          refine r_iconst hc (v := 1) (by decide) dX7_isRetraction_41 ?_
          refine r_goto hc (tgt := 46) dX7_isRetraction_42 (by decide) ?_
          refine r_sub [0, 2] (lv' := [(0, .ref (ad x0)), (2, .int v.2)]) rfl ?_
          exact t_X7_isRetraction_b46 hc h kn kx53
noncomputable def f_X7_isRetraction (x0 : Nat) (σ : Hp) : Option (Int32 × Hp) := bO (wh (f_X7_isRetraction_L4 x0) (1, 0) σ) fun y1 σ2 => (gO (zz y1) fun _ => some (y1, σ2))
set_option maxRecDepth 100000 in
set_option maxHeartbeats 4000000 in
theorem t_X7_isRetraction {l : Launch} {γ : Gm} {ad : Nat → Nat} {K : Option Value → Hp → Prop} (hc : Cx l γ 1 3 ad shM RX7 cX7_isRetraction (some .boolean) K) {x0 : Nat} {σ : Hp} (h : wpO (f_X7_isRetraction x0 σ) (KI K)) : WW l γ 1 3 ad shM 0 [(0, .ref (ad x0))] [] σ := by
  unfold f_X7_isRetraction at h
  refine r_iconst hc (v := 1) (by decide) dX7_isRetraction_0 ?_
  refine r_istore_nE hc (i := 1) (lv' := [(1, .int 1), (0, .ref (ad x0))]) rfl rfl (by decide) rfl dX7_isRetraction_1 ?_
  refine r_iconst hc (v := 0) (by decide) dX7_isRetraction_2 ?_
  refine r_istore_nE hc (i := 2) (lv' := [(2, .int 0), (1, .int 1), (0, .ref (ad x0))]) rfl rfl (by decide) rfl dX7_isRetraction_3 ?_
  refine r_sub [2, 1, 0] (lv' := [(0, .ref (ad x0)), (1, .int 1), (2, .int 0)]) rfl ?_
  refine t_X7_isRetraction_L4 hc (wp_bb h) ?_
  · intro y1 σ2 h
    refine r_iload_n hc 0 rfl rfl dX7_isRetraction_53 ?_
    obtain ⟨_, ek3, h⟩ := wp_g h
    have h := wp_v h
    exact r_zret hc h (zz_of ek3) dX7_isRetraction_54
theorem c_X7_isRetraction {l : Launch} {x0 : Nat} {σ σ' : Hp} {r : Int32} (h : f_X7_isRetraction x0 σ = some (r, σ')) : Mt l yX7_isRetraction cX7_isRetraction 3 (some .boolean) 1 shM (fun ad => [.ref (ad x0)]) σ (fun ad => some (.int r)) σ' := mt_i (own := RX7) (by decide) rfl (fun _ => Nat.le_of_ble_eq_true rfl) (fun γ ad K hc hk => t_X7_isRetraction hc ⟨_, _, h, hk⟩)
