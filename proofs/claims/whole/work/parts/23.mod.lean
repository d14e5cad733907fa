-- NetMapsModel.mayBe(I)I
theorem dX7_mayBe_0 : decode cX7_mayBe 0 = .ok (.aload_n 0, 1) := by decide +kernel
theorem dX7_mayBe_1 : decode cX7_mayBe 1 = .ok (.getfield 208, 3) := by decide +kernel
theorem dX7_mayBe_4 : decode cX7_mayBe 4 = .ok (.ifCond .eq 12, 3) := by decide +kernel
theorem dX7_mayBe_7 : decode cX7_mayBe 7 = .ok (.aload_n 0, 1) := by decide +kernel
theorem dX7_mayBe_8 : decode cX7_mayBe 8 = .ok (.getfield 19, 3) := by decide +kernel
theorem dX7_mayBe_11 : decode cX7_mayBe 11 = .ok (.iload_n 1, 1) := by decide +kernel
theorem dX7_mayBe_12 : decode cX7_mayBe 12 = .ok (.iaload, 1) := by decide +kernel
theorem dX7_mayBe_13 : decode cX7_mayBe 13 = .ok (.goto 5, 3) := by decide +kernel
theorem dX7_mayBe_16 : decode cX7_mayBe 16 = .ok (.bipush 127, 2) := by decide +kernel
theorem dX7_mayBe_18 : decode cX7_mayBe 18 = .ok (.iconst 1, 1) := by decide +kernel
theorem dX7_mayBe_19 : decode cX7_mayBe 19 = .ok (.aload_n 0, 1) := by decide +kernel
theorem dX7_mayBe_20 : decode cX7_mayBe 20 = .ok (.getfield 7, 3) := by decide +kernel
theorem dX7_mayBe_23 : decode cX7_mayBe 23 = .ok (.aload_n 0, 1) := by decide +kernel
theorem dX7_mayBe_24 : decode cX7_mayBe 24 = .ok (.getfield 212, 3) := by decide +kernel
theorem dX7_mayBe_27 : decode cX7_mayBe 27 = .ok (.iaload, 1) := by decide +kernel
theorem dX7_mayBe_28 : decode cX7_mayBe 28 = .ok (.ishl, 1) := by decide +kernel
theorem dX7_mayBe_29 : decode cX7_mayBe 29 = .ok (.iconst 1, 1) := by decide +kernel
theorem dX7_mayBe_30 : decode cX7_mayBe 30 = .ok (.isub, 1) := by decide +kernel
theorem dX7_mayBe_31 : decode cX7_mayBe 31 = .ok (.iand, 1) := by decide +kernel
theorem dX7_mayBe_32 : decode cX7_mayBe 32 = .ok (.istore_n 2, 1) := by decide +kernel
theorem dX7_mayBe_33 : decode cX7_mayBe 33 = .ok (.iconst 0, 1) := by decide +kernel
theorem dX7_mayBe_34 : decode cX7_mayBe 34 = .ok (.istore_n 3, 1) := by decide +kernel
theorem dX7_mayBe_35 : decode cX7_mayBe 35 = .ok (.iload_n 3, 1) := by decide +kernel
theorem dX7_mayBe_36 : decode cX7_mayBe 36 = .ok (.iload_n 1, 1) := by decide +kernel
theorem dX7_mayBe_37 : decode cX7_mayBe 37 = .ok (.if_icmp .ge 79, 3) := by decide +kernel
theorem dX7_mayBe_40 : decode cX7_mayBe 40 = .ok (.aload_n 0, 1) := by decide +kernel
theorem dX7_mayBe_41 : decode cX7_mayBe 41 = .ok (.aload_n 0, 1) := by decide +kernel
theorem dX7_mayBe_42 : decode cX7_mayBe 42 = .ok (.getfield 215, 3) := by decide +kernel
theorem dX7_mayBe_45 : decode cX7_mayBe 45 = .ok (.iload_n 3, 1) := by decide +kernel
theorem dX7_mayBe_46 : decode cX7_mayBe 46 = .ok (.iload_n 1, 1) := by decide +kernel
theorem dX7_mayBe_47 : decode cX7_mayBe 47 = .ok (.invokevirtual 125, 3) := by decide +kernel
theorem dX7_mayBe_50 : decode cX7_mayBe 50 = .ok (.ifCond .eq 25, 3) := by decide +kernel
theorem dX7_mayBe_53 : decode cX7_mayBe 53 = .ok (.iload_n 2, 1) := by decide +kernel
theorem dX7_mayBe_54 : decode cX7_mayBe 54 = .ok (.aload_n 0, 1) := by decide +kernel
theorem dX7_mayBe_55 : decode cX7_mayBe 55 = .ok (.getfield 13, 3) := by decide +kernel
theorem dX7_mayBe_58 : decode cX7_mayBe 58 = .ok (.bipush 7, 2) := by decide +kernel
theorem dX7_mayBe_60 : decode cX7_mayBe 60 = .ok (.aload_n 0, 1) := by decide +kernel
theorem dX7_mayBe_61 : decode cX7_mayBe 61 = .ok (.getfield 212, 3) := by decide +kernel
theorem dX7_mayBe_64 : decode cX7_mayBe 64 = .ok (.imul, 1) := by decide +kernel
theorem dX7_mayBe_65 : decode cX7_mayBe 65 = .ok (.aload_n 0, 1) := by decide +kernel
theorem dX7_mayBe_66 : decode cX7_mayBe 66 = .ok (.getfield 29, 3) := by decide +kernel
theorem dX7_mayBe_69 : decode cX7_mayBe 69 = .ok (.iload_n 3, 1) := by decide +kernel
theorem dX7_mayBe_70 : decode cX7_mayBe 70 = .ok (.iaload, 1) := by decide +kernel
theorem dX7_mayBe_71 : decode cX7_mayBe 71 = .ok (.iadd, 1) := by decide +kernel
theorem dX7_mayBe_72 : decode cX7_mayBe 72 = .ok (.iaload, 1) := by decide +kernel
theorem dX7_mayBe_73 : decode cX7_mayBe 73 = .ok (.iand, 1) := by decide +kernel
theorem dX7_mayBe_74 : decode cX7_mayBe 74 = .ok (.istore_n 2, 1) := by decide +kernel
theorem dX7_mayBe_75 : decode cX7_mayBe 75 = .ok (.aload_n 0, 1) := by decide +kernel
theorem dX7_mayBe_76 : decode cX7_mayBe 76 = .ok (.aload_n 0, 1) := by decide +kernel
theorem dX7_mayBe_77 : decode cX7_mayBe 77 = .ok (.getfield 215, 3) := by decide +kernel
theorem dX7_mayBe_80 : decode cX7_mayBe 80 = .ok (.iload_n 1, 1) := by decide +kernel
theorem dX7_mayBe_81 : decode cX7_mayBe 81 = .ok (.iload_n 3, 1) := by decide +kernel
theorem dX7_mayBe_82 : decode cX7_mayBe 82 = .ok (.invokevirtual 125, 3) := by decide +kernel
theorem dX7_mayBe_85 : decode cX7_mayBe 85 = .ok (.ifCond .eq 25, 3) := by decide +kernel
theorem dX7_mayBe_88 : decode cX7_mayBe 88 = .ok (.iload_n 2, 1) := by decide +kernel
theorem dX7_mayBe_89 : decode cX7_mayBe 89 = .ok (.aload_n 0, 1) := by decide +kernel
theorem dX7_mayBe_90 : decode cX7_mayBe 90 = .ok (.getfield 16, 3) := by decide +kernel
theorem dX7_mayBe_93 : decode cX7_mayBe 93 = .ok (.bipush 7, 2) := by decide +kernel
theorem dX7_mayBe_95 : decode cX7_mayBe 95 = .ok (.aload_n 0, 1) := by decide +kernel
theorem dX7_mayBe_96 : decode cX7_mayBe 96 = .ok (.getfield 212, 3) := by decide +kernel
theorem dX7_mayBe_99 : decode cX7_mayBe 99 = .ok (.imul, 1) := by decide +kernel
theorem dX7_mayBe_100 : decode cX7_mayBe 100 = .ok (.aload_n 0, 1) := by decide +kernel
theorem dX7_mayBe_101 : decode cX7_mayBe 101 = .ok (.getfield 29, 3) := by decide +kernel
theorem dX7_mayBe_104 : decode cX7_mayBe 104 = .ok (.iload_n 3, 1) := by decide +kernel
theorem dX7_mayBe_105 : decode cX7_mayBe 105 = .ok (.iaload, 1) := by decide +kernel
theorem dX7_mayBe_106 : decode cX7_mayBe 106 = .ok (.iadd, 1) := by decide +kernel
theorem dX7_mayBe_107 : decode cX7_mayBe 107 = .ok (.iaload, 1) := by decide +kernel
theorem dX7_mayBe_108 : decode cX7_mayBe 108 = .ok (.iand, 1) := by decide +kernel
theorem dX7_mayBe_109 : decode cX7_mayBe 109 = .ok (.istore_n 2, 1) := by decide +kernel
theorem dX7_mayBe_110 : decode cX7_mayBe 110 = .ok (.iinc 3 1, 3) := by decide +kernel
theorem dX7_mayBe_113 : decode cX7_mayBe 113 = .ok (.goto (-78), 3) := by decide +kernel
theorem dX7_mayBe_116 : decode cX7_mayBe 116 = .ok (.aload_n 0, 1) := by decide +kernel
theorem dX7_mayBe_117 : decode cX7_mayBe 117 = .ok (.aload_n 0, 1) := by decide +kernel
theorem dX7_mayBe_118 : decode cX7_mayBe 118 = .ok (.getfield 215, 3) := by decide +kernel
theorem dX7_mayBe_121 : decode cX7_mayBe 121 = .ok (.iload_n 1, 1) := by decide +kernel
theorem dX7_mayBe_122 : decode cX7_mayBe 122 = .ok (.iload_n 1, 1) := by decide +kernel
theorem dX7_mayBe_123 : decode cX7_mayBe 123 = .ok (.invokevirtual 125, 3) := by decide +kernel
theorem dX7_mayBe_126 : decode cX7_mayBe 126 = .ok (.ifCond .eq 16, 3) := by decide +kernel
theorem dX7_mayBe_129 : decode cX7_mayBe 129 = .ok (.iload_n 2, 1) := by decide +kernel
theorem dX7_mayBe_130 : decode cX7_mayBe 130 = .ok (.aload_n 0, 1) := by decide +kernel
theorem dX7_mayBe_131 : decode cX7_mayBe 131 = .ok (.aload_n 0, 1) := by decide +kernel
theorem dX7_mayBe_132 : decode cX7_mayBe 132 = .ok (.getfield 212, 3) := by decide +kernel
theorem dX7_mayBe_135 : decode cX7_mayBe 135 = .ok (.invokevirtual 151, 3) := by decide +kernel
theorem dX7_mayBe_138 : decode cX7_mayBe 138 = .ok (.iand, 1) := by decide +kernel
theorem dX7_mayBe_139 : decode cX7_mayBe 139 = .ok (.goto 4, 3) := by decide +kernel
theorem dX7_mayBe_142 : decode cX7_mayBe 142 = .ok (.iload_n 2, 1) := by decide +kernel
theorem dX7_mayBe_143 : decode cX7_mayBe 143 = .ok (.ireturn, 1) := by decide +kernel
noncomputable def f_X7_mayBe_b110 (x0 : Nat) (x1 : Int32) (x2 : Int32) (x3 : Int32) (σ : Hp) : Option (((Int32 × Int32) ⊕ (Int32)) × Hp) := some (Sum.inl (x2, (x3 + 1)), σ)
set_option maxRecDepth 100000 in
set_option maxHeartbeats 4000000 in
theorem t_X7_mayBe_b110 {l : Launch} {γ : Gm} {ad : Nat → Nat} {K : Option Value → Hp → Prop} (hc : Cx l γ 3 4 ad shM RX7 cX7_mayBe (some .int) K) {x0 : Nat} {x1 : Int32} {x2 : Int32} {x3 : Int32}  {σ : Hp} {KL : ((Int32 × Int32) ⊕ (Int32)) → Hp → Prop} (h : wpO (f_X7_mayBe_b110 x0 x1 x2 x3 σ) KL) (kn : ∀ (v : (Int32 × Int32)) (σ : Hp), KL (Sum.inl v) σ → WW l γ 3 4 ad shM 35 [(0, .ref (ad x0)), (1, .int x1), (2, .int v.1), (3, .int v.2)] [] σ) (kx116 : ∀ (v : Int32) (σ : Hp), KL (Sum.inr v) σ → WW l γ 3 4 ad shM 116 [(0, .ref (ad x0)), (1, .int x1), (2, .int v)] [] σ) : WW l γ 3 4 ad shM 110 [(0, .ref (ad x0)), (1, .int x1), (2, .int x2), (3, .int x3)] [] σ := by
  unfold f_X7_mayBe_b110 at h
  refine r_iincE hc (j := 3) (w := 1) (lv' := [(3, .int (x3 + 1)), (0, .ref (ad x0)), (1, .int x1), (2, .int x2)]) rfl (by decide) rfl (by decide) rfl dX7_mayBe_110 ?_
  refine r_goto hc (tgt := 35) dX7_mayBe_113 (by decide) ?_
  refine r_sub [1, 2, 3, 0] (lv' := [(0, .ref (ad x0)), (1, .int x1), (2, .int x2), (3, .int (x3 + 1))]) rfl ?_
  have h := wp_v h
  exact kn (x2, (x3 + 1)) _ h
noncomputable def f_X7_mayBe_b75 (x0 : Nat) (x1 : Int32) (x2 : Int32) (x3 : Int32) (σ : Hp) : Option (((Int32 × Int32) ⊕ (Int32)) × Hp) := gO (getI shM 7 x0 11 σ) fun v1 => gO (chk shM x0 7) fun _ => bO (f_X7_isLine x0 v1 x1 x3 σ) fun r2 σ3 => if r2 = 0 then (f_X7_mayBe_b110 x0 x1 x2 x3 σ3) else (gO (getR shM 7 x0 2 σ3) fun v5 => gO (getI shM 7 x0 12 σ3) fun v6 => gO (getR shM 7 x0 9 σ3) fun v7 => gO (aldI shM 0 v7 x3 σ3) fun v8 => gO (aldI shM 0 v5 ((7 * v6) + v8) σ3) fun v9 => f_X7_mayBe_b110 x0 x1 (x2 &&& v9) x3 σ3)
set_option maxRecDepth 100000 in
set_option maxHeartbeats 4000000 in
theorem t_X7_mayBe_b75 {l : Launch} {γ : Gm} {ad : Nat → Nat} {K : Option Value → Hp → Prop} (hc : Cx l γ 3 4 ad shM RX7 cX7_mayBe (some .int) K) {x0 : Nat} {x1 : Int32} {x2 : Int32} {x3 : Int32}  {σ : Hp} {KL : ((Int32 × Int32) ⊕ (Int32)) → Hp → Prop} (h : wpO (f_X7_mayBe_b75 x0 x1 x2 x3 σ) KL) (kn : ∀ (v : (Int32 × Int32)) (σ : Hp), KL (Sum.inl v) σ → WW l γ 3 4 ad shM 35 [(0, .ref (ad x0)), (1, .int x1), (2, .int v.1), (3, .int v.2)] [] σ) (kx116 : ∀ (v : Int32) (σ : Hp), KL (Sum.inr v) σ → WW l γ 3 4 ad shM 116 [(0, .ref (ad x0)), (1, .int x1), (2, .int v)] [] σ) : WW l γ 3 4 ad shM 75 [(0, .ref (ad x0)), (1, .int x1), (2, .int x2), (3, .int x3)] [] σ := by
  unfold f_X7_mayBe_b75 at h
  refine r_aload_n hc 0 rfl rfl dX7_mayBe_75 ?_
  refine r_aload_n hc 0 rfl rfl dX7_mayBe_76 ?_
  obtain ⟨v1, ev1, h⟩ := wp_g h
  refine r_getI hc ev1 fl_X7_215 rfl dX7_mayBe_77 ?_
  refine r_iload_n hc 1 rfl rfl dX7_mayBe_80 ?_
  refine r_iload_n hc 3 rfl rfl dX7_mayBe_81 ?_
  obtain ⟨_, ek4, h⟩ := wp_g h
  obtain ⟨r2, σ3, er2, h⟩ := wp_b h
  refine r_callV hc (k0 := x0) mv_X7_isLine ml_X7_125 (c_X7_isLine er2) (chk_of ek4) cls_7.1 rfl rfl rfl (by decide) rfl (Nat.le_of_ble_eq_true rfl) dX7_mayBe_82 ?_
  refine r_if_eq hc (tgt := 110) dX7_mayBe_85 (by decide) (fun c => ?_) (fun c => ?_)
  · have h := wp_t c h
    exact t_X7_mayBe_b110 hc h kn kx116
  · have h := wp_f c h
    refine r_iload_n hc 2 rfl rfl dX7_mayBe_88 ?_
    refine r_aload_n hc 0 rfl rfl dX7_mayBe_89 ?_
    obtain ⟨v5, ev5, h⟩ := wp_g h
    refine r_getR hc ev5 fl_X7_16 rfl dX7_mayBe_90 ?_
    refine r_bipush hc (v := 7) (by decide) dX7_mayBe_93 ?_
    refine r_aload_n hc 0 rfl rfl dX7_mayBe_95 ?_
    obtain ⟨v6, ev6, h⟩ := wp_g h
    refine r_getI hc ev6 fl_X7_212 rfl dX7_mayBe_96 ?_
    refine r_imul hc dX7_mayBe_99 ?_
    refine r_aload_n hc 0 rfl rfl dX7_mayBe_100 ?_
    obtain ⟨v7, ev7, h⟩ := wp_g h
    refine r_getR hc ev7 fl_X7_29 rfl dX7_mayBe_101 ?_
    refine r_iload_n hc 3 rfl rfl dX7_mayBe_104 ?_
    obtain ⟨v8, ev8, h⟩ := wp_g h
    refine r_iald hc ev8 dX7_mayBe_105 ?_
    refine r_iadd hc dX7_mayBe_106 ?_
    obtain ⟨v9, ev9, h⟩ := wp_g h
    refine r_iald hc ev9 dX7_mayBe_107 ?_
    refine r_iand hc dX7_mayBe_108 ?_
    refine r_istore_nE hc (i := 2) (lv' := [(2, .int (x2 &&& v9)), (0, .ref (ad x0)), (1, .int x1), (3, .int x3)]) rfl rfl (by decide) rfl dX7_mayBe_109 ?_
    refine r_sub [1, 2, 0, 3] (lv' := [(0, .ref (ad x0)), (1, .int x1), (2, .int (x2 &&& v9)), (3, .int x3)]) rfl ?_
    exact t_X7_mayBe_b110 hc h kn kx116
noncomputable def f_X7_mayBe_L35 (x0 : Nat) (x1 : Int32) (v : (Int32 × Int32)) (σ : Hp) : Option (((Int32 × Int32) ⊕ (Int32)) × Hp) := if x1 ≤ v.2 then (some (Sum.inr v.1, σ)) else (gO (getI shM 7 x0 11 σ) fun v1 => gO (chk shM x0 7) fun _ => bO (f_X7_isLine x0 v1 v.2 x1 σ) fun r2 σ3 => if r2 = 0 then (f_X7_mayBe_b75 x0 x1 v.1 v.2 σ3) else (gO (getR shM 7 x0 1 σ3) fun v5 => gO (getI shM 7 x0 12 σ3) fun v6 => gO (getR shM 7 x0 9 σ3) fun v7 => gO (aldI shM 0 v7 v.2 σ3) fun v8 => gO (aldI shM 0 v5 ((7 * v6) + v8) σ3) fun v9 => f_X7_mayBe_b75 x0 x1 (v.1 &&& v9) v.2 σ3))
set_option maxRecDepth 100000 in
set_option maxHeartbeats 4000000 in
theorem t_X7_mayBe_L35 {l : Launch} {γ : Gm} {ad : Nat → Nat} {K : Option Value → Hp → Prop}  (hc : Cx l γ 3 4 ad shM RX7 cX7_mayBe (some .int) K) {x0 : Nat} {x1 : Int32} {v : (Int32 × Int32)} {σ : Hp} {KX : (Int32) → Hp → Prop} (h : wpO (wh (f_X7_mayBe_L35 x0 x1) v σ) KX) (kx116 : ∀ (v : Int32) (σ : Hp), KX v σ → WW l γ 3 4 ad shM 116 [(0, .ref (ad x0)), (1, .int x1), (2, .int v)] [] σ) : WW l γ 3 4 ad shM 35 [(0, .ref (ad x0)), (1, .int x1), (2, .int v.1), (3, .int v.2)] [] σ := by
  refine wh_W (P := fun v σ => WW l γ 3 4 ad shM 35 [(0, .ref (ad x0)), (1, .int x1), (2, .int v.1), (3, .int v.2)] [] σ) (fun v σ h => ?_) h
  have kn : ∀ (v : (Int32 × Int32)) (σ : Hp), WW l γ 3 4 ad shM 35 [(0, .ref (ad x0)), (1, .int x1), (2, .int v.1), (3, .int v.2)] [] σ → WW l γ 3 4 ad shM 35 [(0, .ref (ad x0)), (1, .int x1), (2, .int v.1), (3, .int v.2)] [] σ := fun _ _ h => h
  · unfold f_X7_mayBe_L35 at h
    refine r_iload_n hc 3 rfl rfl dX7_mayBe_35 ?_
    refine r_iload_n hc 1 rfl rfl dX7_mayBe_36 ?_
    refine r_icmp_ge hc (tgt := 116) dX7_mayBe_37 (by decide) (fun c => ?_) (fun c => ?_)
    · have h := wp_t c h
      refine r_sub [0, 1, 2] (lv' := [(0, .ref (ad x0)), (1, .int x1), (2, .int v.1)]) rfl ?_
      have h := wp_v h
      exact kx116 v.1 _ h
    · have h := wp_f c h
      refine r_aload_n hc 0 rfl rfl dX7_mayBe_40 ?_
      refine r_aload_n hc 0 rfl rfl dX7_mayBe_41 ?_
      obtain ⟨v1, ev1, h⟩ := wp_g h
      refine r_getI hc ev1 fl_X7_215 rfl dX7_mayBe_42 ?_
      refine r_iload_n hc 3 rfl rfl dX7_mayBe_45 ?_
      refine r_iload_n hc 1 rfl rfl dX7_mayBe_46 ?_
      obtain ⟨_, ek4, h⟩ := wp_g h
      obtain ⟨r2, σ3, er2, h⟩ := wp_b h
      refine r_callV hc (k0 := x0) mv_X7_isLine ml_X7_125 (c_X7_isLine er2) (chk_of ek4) cls_7.1 rfl rfl rfl (by decide) rfl (Nat.le_of_ble_eq_true rfl) dX7_mayBe_47 ?_
      refine r_if_eq hc (tgt := 75) dX7_mayBe_50 (by decide) (fun c => ?_) (fun c => ?_)
      · have h := wp_t c h
        exact t_X7_mayBe_b75 hc h kn kx116
      · have h := wp_f c h
        refine r_iload_n hc 2 rfl rfl dX7_mayBe_53 ?_
        refine r_aload_n hc 0 rfl rfl dX7_mayBe_54 ?_
        obtain ⟨v5, ev5, h⟩ := wp_g h
        refine r_getR hc ev5 fl_X7_13 rfl dX7_mayBe_55 ?_
        refine r_bipush hc (v := 7) (by decide) dX7_mayBe_58 ?_
        refine r_aload_n hc 0 rfl rfl dX7_mayBe_60 ?_
        obtain ⟨v6, ev6, h⟩ := wp_g h
        refine r_getI hc ev6 fl_X7_212 rfl dX7_mayBe_61 ?_
        refine r_imul hc dX7_mayBe_64 ?_
        refine r_aload_n hc 0 rfl rfl dX7_mayBe_65 ?_
        obtain ⟨v7, ev7, h⟩ := wp_g h
        refine r_getR hc ev7 fl_X7_29 rfl dX7_mayBe_66 ?_
        refine r_iload_n hc 3 rfl rfl dX7_mayBe_69 ?_
        obtain ⟨v8, ev8, h⟩ := wp_g h
        refine r_iald hc ev8 dX7_mayBe_70 ?_
        refine r_iadd hc dX7_mayBe_71 ?_
        obtain ⟨v9, ev9, h⟩ := wp_g h
        refine r_iald hc ev9 dX7_mayBe_72 ?_
        refine r_iand hc dX7_mayBe_73 ?_
        refine r_istore_nE hc (i := 2) (lv' := [(2, .int (v.1 &&& v9)), (0, .ref (ad x0)), (1, .int x1), (3, .int v.2)]) rfl rfl (by decide) rfl dX7_mayBe_74 ?_
        refine r_sub [1, 2, 0, 3] (lv' := [(0, .ref (ad x0)), (1, .int x1), (2, .int (v.1 &&& v9)), (3, .int v.2)]) rfl ?_
        exact t_X7_mayBe_b75 hc h kn kx116
noncomputable def f_X7_mayBe_b143 (s0 : Int32) (σ : Hp) : Option (Int32 × Hp) := some (s0, σ)
set_option maxRecDepth 100000 in
set_option maxHeartbeats 4000000 in
theorem t_X7_mayBe_b143 {l : Launch} {γ : Gm} {ad : Nat → Nat} {K : Option Value → Hp → Prop} (hc : Cx l γ 3 4 ad shM RX7 cX7_mayBe (some .int) K) {s0 : Int32} {σ : Hp} (h : wpO (f_X7_mayBe_b143 s0 σ) (KI K)) : WW l γ 3 4 ad shM 143 [] [.int s0] σ := by
  unfold f_X7_mayBe_b143 at h
  have h := wp_v h
  exact r_iret hc h dX7_mayBe_143
noncomputable def f_X7_mayBe_b18 (x0 : Nat) (x1 : Int32) (s0 : Int32) (σ : Hp) : Option (Int32 × Hp) := gO (getR shM 7 x0 0 σ) fun v1 => gO (getI shM 7 x0 12 σ) fun v2 => gO (aldI shM 0 v1 v2 σ) fun v3 => lt' ((s0 &&& (((1 : Int32) <<< (v3 &&& 31)) - 1))) fun t4 => bO (wh (f_X7_mayBe_L35 x0 x1) (t4, 0) σ) fun y5 σ6 => (gO (getI shM 7 x0 11 σ6) fun v7 => gO (chk shM x0 7) fun _ => bO (f_X7_isLine x0 v7 x1 x1 σ6) fun r8 σ9 => if r8 = 0 then (f_X7_mayBe_b143 y5 σ9) else (gO (getI shM 7 x0 12 σ9) fun v11 => gO (chk shM x0 7) fun _ => bO (f_X7_loops x0 v11 σ9) fun r12 σ13 => f_X7_mayBe_b143 (y5 &&& r12) σ13))
set_option maxRecDepth 100000 in
set_option maxHeartbeats 4000000 in
theorem t_X7_mayBe_b18 {l : Launch} {γ : Gm} {ad : Nat → Nat} {K : Option Value → Hp → Prop} (hc : Cx l γ 3 4 ad shM RX7 cX7_mayBe (some .int) K) {x0 : Nat} {x1 : Int32} {s0 : Int32} {σ : Hp} (h : wpO (f_X7_mayBe_b18 x0 x1 s0 σ) (KI K)) : WW l γ 3 4 ad shM 18 [(0, .ref (ad x0)), (1, .int x1)] [.int s0] σ := by
  unfold f_X7_mayBe_b18 at h
  refine r_iconst hc (v := 1) (by decide) dX7_mayBe_18 ?_
  refine r_aload_n hc 0 rfl rfl dX7_mayBe_19 ?_
  obtain ⟨v1, ev1, h⟩ := wp_g h
  refine r_getR hc ev1 fl_X7_7 rfl dX7_mayBe_20 ?_
  refine r_aload_n hc 0 rfl rfl dX7_mayBe_23 ?_
  obtain ⟨v2, ev2, h⟩ := wp_g h
  refine r_getI hc ev2 fl_X7_212 rfl dX7_mayBe_24 ?_
  obtain ⟨v3, ev3, h⟩ := wp_g h
  refine r_iald hc ev3 dX7_mayBe_27 ?_
  refine r_ishl hc dX7_mayBe_28 ?_
  refine r_iconst hc (v := 1) (by decide) dX7_mayBe_29 ?_
  refine r_isub hc dX7_mayBe_30 ?_
  refine r_iand hc dX7_mayBe_31 ?_
  obtain ⟨t4, et4, h⟩ := wp_l h
  refine r_istore_nE hc (i := 2) (lv' := [(2, .int t4), (0, .ref (ad x0)), (1, .int x1)]) et4 rfl (by decide) rfl dX7_mayBe_32 ?_
  refine r_iconst hc (v := 0) (by decide) dX7_mayBe_33 ?_
  refine r_istore_nE hc (i := 3) (lv' := [(3, .int 0), (2, .int t4), (0, .ref (ad x0)), (1, .int x1)]) rfl rfl (by decide) rfl dX7_mayBe_34 ?_
  refine r_sub [2, 3, 1, 0] (lv' := [(0, .ref (ad x0)), (1, .int x1), (2, .int t4), (3, .int 0)]) rfl ?_
  refine t_X7_mayBe_L35 hc (wp_bb h) ?_
  · intro y5 σ6 h
    refine r_aload_n hc 0 rfl rfl dX7_mayBe_116 ?_
    refine r_aload_n hc 0 rfl rfl dX7_mayBe_117 ?_
    obtain ⟨v7, ev7, h⟩ := wp_g h
    refine r_getI hc ev7 fl_X7_215 rfl dX7_mayBe_118 ?_
    refine r_iload_n hc 1 rfl rfl dX7_mayBe_121 ?_
    refine r_iload_n hc 1 rfl rfl dX7_mayBe_122 ?_
    obtain ⟨_, ek10, h⟩ := wp_g h
    obtain ⟨r8, σ9, er8, h⟩ := wp_b h
    refine r_callV hc (k0 := x0) mv_X7_isLine ml_X7_125 (c_X7_isLine er8) (chk_of ek10) cls_7.1 rfl rfl rfl (by decide) rfl (Nat.le_of_ble_eq_true rfl) dX7_mayBe_123 ?_
    refine r_if_eq hc (tgt := 142) dX7_mayBe_126 (by decide) (fun c => ?_) (fun c => ?_)
    · have h := wp_t c h
      refine r_iload_n hc 2 rfl rfl dX7_mayBe_142 ?_
      refine r_sub [] (lv' := []) rfl ?_
      exact t_X7_mayBe_b143 hc h
    · have h := wp_f c h
      refine r_iload_n hc 2 rfl rfl dX7_mayBe_129 ?_
      refine r_aload_n hc 0 rfl rfl dX7_mayBe_130 ?_
      refine r_aload_n hc 0 rfl rfl dX7_mayBe_131 ?_
      obtain ⟨v11, ev11, h⟩ := wp_g h
      refine r_getI hc ev11 fl_X7_212 rfl dX7_mayBe_132 ?_
      obtain ⟨_, ek14, h⟩ := wp_g h
      obtain ⟨r12, σ13, er12, h⟩ := wp_b h
      refine r_callV hc (k0 := x0) mv_X7_loops ml_X7_151 (c_X7_loops er12) (chk_of ek14) cls_7.1 rfl rfl rfl (by decide) rfl (Nat.le_of_ble_eq_true rfl) dX7_mayBe_135 ?_
      refine r_iand hc dX7_mayBe_138 ?_
      refine r_goto hc (tgt := 143) dX7_mayBe_139 (by decide) ?_
      refine r_sub [] (lv' := []) rfl ?_
      exact t_X7_mayBe_b143 hc h
noncomputable def f_X7_mayBe (x0 : Nat) (x1 : Int32) (σ : Hp) : Option (Int32 × Hp) := gO (getI shM 7 x0 15 σ) fun v1 => if v1 = 0 then (f_X7_mayBe_b18 x0 x1 127 σ) else (gO (getR shM 7 x0 3 σ) fun v2 => gO (aldI shM 0 v2 x1 σ) fun v3 => f_X7_mayBe_b18 x0 x1 v3 σ)
set_option maxRecDepth 100000 in
set_option maxHeartbeats 4000000 in
theorem t_X7_mayBe {l : Launch} {γ : Gm} {ad : Nat → Nat} {K : Option Value → Hp → Prop} (hc : Cx l γ 3 4 ad shM RX7 cX7_mayBe (some .int) K) {x0 : Nat} {x1 : Int32} {σ : Hp} (h : wpO (f_X7_mayBe x0 x1 σ) (KI K)) : WW l γ 3 4 ad shM 0 [(0, .ref (ad x0)), (1, .int x1)] [] σ := by
  unfold f_X7_mayBe at h
  refine r_aload_n hc 0 rfl rfl dX7_mayBe_0 ?_
  obtain ⟨v1, ev1, h⟩ := wp_g h
  refine r_getI hc ev1 fl_X7_208 rfl dX7_mayBe_1 ?_
  refine r_if_eq hc (tgt := 16) dX7_mayBe_4 (by decide) (fun c => ?_) (fun c => ?_)
  · have h := wp_t c h
    refine r_bipush hc (v := 127) (by decide) dX7_mayBe_16 ?_
    exact t_X7_mayBe_b18 hc h
  · have h := wp_f c h
    refine r_aload_n hc 0 rfl rfl dX7_mayBe_7 ?_
    obtain ⟨v2, ev2, h⟩ := wp_g h
    refine r_getR hc ev2 fl_X7_19 rfl dX7_mayBe_8 ?_
    refine r_iload_n hc 1 rfl rfl dX7_mayBe_11 ?_
    obtain ⟨v3, ev3, h⟩ := wp_g h
    refine r_iald hc ev3 dX7_mayBe_12 ?_
    refine r_goto hc (tgt := 18) dX7_mayBe_13 (by decide) ?_
    exact t_X7_mayBe_b18 hc h
theorem c_X7_mayBe {l : Launch} {x0 : Nat} {x1 : Int32} {σ σ' : Hp} {r : Int32} (h : f_X7_mayBe x0 x1 σ = some (r, σ')) : Mt l yX7_mayBe cX7_mayBe 4 (some .int) 3 shM (fun ad => [.ref (ad x0), .int x1]) σ (fun ad => some (.int r)) σ' := mt_i (own := RX7) (by decide) rfl (fun _ => Nat.le_of_ble_eq_true rfl) (fun γ ad K hc hk => t_X7_mayBe hc ⟨_, _, h, hk⟩)

-- NetMapsModel.next()Z
theorem dX7_next_0 : decode cX7_next 0 = .ok (.aload_n 0, 1) := by decide +kernel
theorem dX7_next_1 : decode cX7_next 1 = .ok (.getfield 218, 3) := by decide +kernel
theorem dX7_next_4 : decode cX7_next 4 = .ok (.ifCond .lt 139, 3) := by decide +kernel
theorem dX7_next_7 : decode cX7_next 7 = .ok (.aload_n 0, 1) := by decide +kernel
theorem dX7_next_8 : decode cX7_next 8 = .ok (.getfield 32, 3) := by decide +kernel
theorem dX7_next_11 : decode cX7_next 11 = .ok (.aload_n 0, 1) := by decide +kernel
theorem dX7_next_12 : decode cX7_next 12 = .ok (.getfield 218, 3) := by decide +kernel
theorem dX7_next_15 : decode cX7_next 15 = .ok (.iaload, 1) := by decide +kernel
theorem dX7_next_16 : decode cX7_next 16 = .ok (.ifCond .ne 16, 3) := by decide +kernel
theorem dX7_next_19 : decode cX7_next 19 = .ok (.aload_n 0, 1) := by decide +kernel
theorem dX7_next_20 : decode cX7_next 20 = .ok (.aload_n 0, 1) := by decide +kernel
theorem dX7_next_21 : decode cX7_next 21 = .ok (.getfield 218, 3) := by decide +kernel
theorem dX7_next_24 : decode cX7_next 24 = .ok (.iconst 1, 1) := by decide +kernel
theorem dX7_next_25 : decode cX7_next 25 = .ok (.isub, 1) := by decide +kernel
theorem dX7_next_26 : decode cX7_next 26 = .ok (.putfield 218, 3) := by decide +kernel
theorem dX7_next_29 : decode cX7_next 29 = .ok (.goto (-29), 3) := by decide +kernel
theorem dX7_next_32 : decode cX7_next 32 = .ok (.aload_n 0, 1) := by decide +kernel
theorem dX7_next_33 : decode cX7_next 33 = .ok (.getfield 29, 3) := by decide +kernel
theorem dX7_next_36 : decode cX7_next 36 = .ok (.aload_n 0, 1) := by decide +kernel
theorem dX7_next_37 : decode cX7_next 37 = .ok (.getfield 218, 3) := by decide +kernel
theorem dX7_next_40 : decode cX7_next 40 = .ok (.aload_n 0, 1) := by decide +kernel
theorem dX7_next_41 : decode cX7_next 41 = .ok (.getfield 32, 3) := by decide +kernel
theorem dX7_next_44 : decode cX7_next 44 = .ok (.aload_n 0, 1) := by decide +kernel
theorem dX7_next_45 : decode cX7_next 45 = .ok (.getfield 218, 3) := by decide +kernel
theorem dX7_next_48 : decode cX7_next 48 = .ok (.iaload, 1) := by decide +kernel
theorem dX7_next_49 : decode cX7_next 49 = .ok (.invokestatic 227, 3) := by decide +kernel
theorem dX7_next_52 : decode cX7_next 52 = .ok (.iastore, 1) := by decide +kernel
theorem dX7_next_53 : decode cX7_next 53 = .ok (.aload_n 0, 1) := by decide +kernel
theorem dX7_next_54 : decode cX7_next 54 = .ok (.getfield 32, 3) := by decide +kernel
theorem dX7_next_57 : decode cX7_next 57 = .ok (.aload_n 0, 1) := by decide +kernel
theorem dX7_next_58 : decode cX7_next 58 = .ok (.getfield 218, 3) := by decide +kernel
theorem dX7_next_61 : decode cX7_next 61 = .ok (.aload_n 0, 1) := by decide +kernel
theorem dX7_next_62 : decode cX7_next 62 = .ok (.getfield 32, 3) := by decide +kernel
theorem dX7_next_65 : decode cX7_next 65 = .ok (.aload_n 0, 1) := by decide +kernel
theorem dX7_next_66 : decode cX7_next 66 = .ok (.getfield 218, 3) := by decide +kernel
theorem dX7_next_69 : decode cX7_next 69 = .ok (.iaload, 1) := by decide +kernel
theorem dX7_next_70 : decode cX7_next 70 = .ok (.aload_n 0, 1) := by decide +kernel
theorem dX7_next_71 : decode cX7_next 71 = .ok (.getfield 32, 3) := by decide +kernel
theorem dX7_next_74 : decode cX7_next 74 = .ok (.aload_n 0, 1) := by decide +kernel
theorem dX7_next_75 : decode cX7_next 75 = .ok (.getfield 218, 3) := by decide +kernel
theorem dX7_next_78 : decode cX7_next 78 = .ok (.iaload, 1) := by decide +kernel
theorem dX7_next_79 : decode cX7_next 79 = .ok (.iconst 1, 1) := by decide +kernel
theorem dX7_next_80 : decode cX7_next 80 = .ok (.isub, 1) := by decide +kernel
theorem dX7_next_81 : decode cX7_next 81 = .ok (.iand, 1) := by decide +kernel
theorem dX7_next_82 : decode cX7_next 82 = .ok (.iastore, 1) := by decide +kernel
theorem dX7_next_83 : decode cX7_next 83 = .ok (.aload_n 0, 1) := by decide +kernel
theorem dX7_next_84 : decode cX7_next 84 = .ok (.aload_n 0, 1) := by decide +kernel
theorem dX7_next_85 : decode cX7_next 85 = .ok (.getfield 221, 3) := by decide +kernel
theorem dX7_next_88 : decode cX7_next 88 = .ok (.iconst 1, 1) := by decide +kernel
theorem dX7_next_89 : decode cX7_next 89 = .ok (.iadd, 1) := by decide +kernel
theorem dX7_next_90 : decode cX7_next 90 = .ok (.putfield 221, 3) := by decide +kernel
theorem dX7_next_93 : decode cX7_next 93 = .ok (.aload_n 0, 1) := by decide +kernel
theorem dX7_next_94 : decode cX7_next 94 = .ok (.getfield 218, 3) := by decide +kernel
theorem dX7_next_97 : decode cX7_next 97 = .ok (.aload_n 0, 1) := by decide +kernel
theorem dX7_next_98 : decode cX7_next 98 = .ok (.getfield 7, 3) := by decide +kernel
theorem dX7_next_101 : decode cX7_next 101 = .ok (.aload_n 0, 1) := by decide +kernel
theorem dX7_next_102 : decode cX7_next 102 = .ok (.getfield 215, 3) := by decide +kernel
theorem dX7_next_105 : decode cX7_next 105 = .ok (.iaload, 1) := by decide +kernel
theorem dX7_next_106 : decode cX7_next 106 = .ok (.iconst 1, 1) := by decide +kernel
theorem dX7_next_107 : decode cX7_next 107 = .ok (.isub, 1) := by decide +kernel
theorem dX7_next_108 : decode cX7_next 108 = .ok (.if_icmp .ne 5, 3) := by decide +kernel
theorem dX7_next_111 : decode cX7_next 111 = .ok (.iconst 1, 1) := by decide +kernel
theorem dX7_next_112 : decode cX7_next 112 = .ok (.ireturn, 1) := by decide +kernel
theorem dX7_next_113 : decode cX7_next 113 = .ok (.aload_n 0, 1) := by decide +kernel
theorem dX7_next_114 : decode cX7_next 114 = .ok (.aload_n 0, 1) := by decide +kernel
theorem dX7_next_115 : decode cX7_next 115 = .ok (.getfield 218, 3) := by decide +kernel
theorem dX7_next_118 : decode cX7_next 118 = .ok (.iconst 1, 1) := by decide +kernel
theorem dX7_next_119 : decode cX7_next 119 = .ok (.iadd, 1) := by decide +kernel
theorem dX7_next_120 : decode cX7_next 120 = .ok (.putfield 218, 3) := by decide +kernel
theorem dX7_next_123 : decode cX7_next 123 = .ok (.aload_n 0, 1) := by decide +kernel
theorem dX7_next_124 : decode cX7_next 124 = .ok (.getfield 32, 3) := by decide +kernel
theorem dX7_next_127 : decode cX7_next 127 = .ok (.aload_n 0, 1) := by decide +kernel
theorem dX7_next_128 : decode cX7_next 128 = .ok (.getfield 218, 3) := by decide +kernel
theorem dX7_next_131 : decode cX7_next 131 = .ok (.aload_n 0, 1) := by decide +kernel
theorem dX7_next_132 : decode cX7_next 132 = .ok (.aload_n 0, 1) := by decide +kernel
theorem dX7_next_133 : decode cX7_next 133 = .ok (.getfield 218, 3) := by decide +kernel
theorem dX7_next_136 : decode cX7_next 136 = .ok (.invokevirtual 224, 3) := by decide +kernel
theorem dX7_next_139 : decode cX7_next 139 = .ok (.iastore, 1) := by decide +kernel
theorem dX7_next_140 : decode cX7_next 140 = .ok (.goto (-140), 3) := by decide +kernel
theorem dX7_next_143 : decode cX7_next 143 = .ok (.iconst 0, 1) := by decide +kernel
theorem dX7_next_144 : decode cX7_next 144 = .ok (.ireturn, 1) := by decide +kernel
noncomputable def f_X7_next_L0 (x0 : Nat) (v : (Unit)) (σ : Hp) : Option (((Unit) ⊕ ((Unit) ⊕ (Unit))) × Hp) := gO (getI shM 7 x0 13 σ) fun v1 => if v1 < 0 then (some (Sum.inr (Sum.inr ()), σ)) else (gO (getR shM 7 x0 10 σ) fun v2 => gO (getI shM 7 x0 13 σ) fun v3 => gO (aldI shM 0 v2 v3 σ) fun v4 => if v4 = 0 then (gO (getI shM 7 x0 13 σ) fun v37 => gO (putI shM 7 x0 13 (v37 - 1) σ) fun σ38 => some (Sum.inl (), σ38)) else (gO (getR shM 7 x0 9 σ) fun v5 => gO (getI shM 7 x0 13 σ) fun v6 => gO (getR shM 7 x0 10 σ) fun v7 => gO (getI shM 7 x0 13 σ) fun v8 => gO (aldI shM 0 v7 v8 σ) fun v9 => bO (f_X7_lowest v9 σ) fun r10 σ11 => gO (astI shM 0 v5 v6 r10 σ11) fun σ12 => gO (getR shM 7 x0 10 σ12) fun v13 => gO (getI shM 7 x0 13 σ12) fun v14 => gO (getR shM 7 x0 10 σ12) fun v15 => gO (getI shM 7 x0 13 σ12) fun v16 => gO (aldI shM 0 v15 v16 σ12) fun v17 => gO (getR shM 7 x0 10 σ12) fun v18 => gO (getI shM 7 x0 13 σ12) fun v19 => gO (aldI shM 0 v18 v19 σ12) fun v20 => gO (astI shM 0 v13 v14 (v17 &&& (v20 - 1)) σ12) fun σ21 => gO (getI shM 7 x0 14 σ21) fun v22 => gO (putI shM 7 x0 14 (v22 + 1) σ21) fun σ23 => gO (getI shM 7 x0 13 σ23) fun v24 => gO (getR shM 7 x0 0 σ23) fun v25 => gO (getI shM 7 x0 11 σ23) fun v26 => gO (aldI shM 0 v25 v26 σ23) fun v27 => if v24 = (v27 - 1) then (some (Sum.inr (Sum.inl ()), σ23)) else (gO (getI shM 7 x0 13 σ23) fun v28 => gO (putI shM 7 x0 13 (v28 + 1) σ23) fun σ29 => gO (getR shM 7 x0 10 σ29) fun v30 => gO (getI shM 7 x0 13 σ29) fun v31 => gO (getI shM 7 x0 13 σ29) fun v32 => gO (chk shM x0 7) fun _ => bO (f_X7_mayBe x0 v32 σ29) fun r33 σ34 => gO (astI shM 0 v30 v31 r33 σ34) fun σ36 => some (Sum.inl (), σ36))))
set_option maxRecDepth 100000 in
set_option maxHeartbeats 4000000 in
theorem t_X7_next_L0 {l : Launch} {γ : Gm} {ad : Nat → Nat} {K : Option Value → Hp → Prop}  (hc : Cx l γ 4 1 ad shM RX7 cX7_next (some .boolean) K) {x0 : Nat} {v : (Unit)} {σ : Hp} {KX : ((Unit) ⊕ (Unit)) → Hp → Prop} (h : wpO (wh (f_X7_next_L0 x0) v σ) KX) (kx111 : ∀ (v : Unit) (σ : Hp), KX (Sum.inl v) σ → WW l γ 4 1 ad shM 111 [] [] σ) (kx143 : ∀ (v : Unit) (σ : Hp), KX (Sum.inr v) σ → WW l γ 4 1 ad shM 143 [] [] σ) : WW l γ 4 1 ad shM 0 [(0, .ref (ad x0))] [] σ := by
  refine wh_W (P := fun v σ => WW l γ 4 1 ad shM 0 [(0, .ref (ad x0))] [] σ) (fun v σ h => ?_) h
  have kn : ∀ (v : (Unit)) (σ : Hp), WW l γ 4 1 ad shM 0 [(0, .ref (ad x0))] [] σ → WW l γ 4 1 ad shM 0 [(0, .ref (ad x0))] [] σ := fun _ _ h => h
  · unfold f_X7_next_L0 at h
    refine r_aload_n hc 0 rfl rfl dX7_next_0 ?_
    obtain ⟨v1, ev1, h⟩ := wp_g h
    refine r_getI hc ev1 fl_X7_218 rfl dX7_next_1 ?_
    refine r_if_lt hc (tgt := 143) dX7_next_4 (by decide) (fun c => ?_) (fun c => ?_)
    · have h := wp_t c h
      refine r_sub [] (lv' := []) rfl ?_
      have h := wp_v h
      exact kx143 () _ h
    · have h := wp_f c h
      refine r_aload_n hc 0 rfl rfl dX7_next_7 ?_
      obtain ⟨v2, ev2, h⟩ := wp_g h
      refine r_getR hc ev2 fl_X7_32 rfl dX7_next_8 ?_
      refine r_aload_n hc 0 rfl rfl dX7_next_11 ?_
      obtain ⟨v3, ev3, h⟩ := wp_g h
      refine r_getI hc ev3 fl_X7_218 rfl dX7_next_12 ?_
      obtain ⟨v4, ev4, h⟩ := wp_g h
      refine r_iald hc ev4 dX7_next_15 ?_
      refine r_if_ne hc (tgt := 32) dX7_next_16 (by decide) (fun c => ?_) (fun c => ?_)
      · have h := wp_f c h
        refine r_aload_n hc 0 rfl rfl dX7_next_32 ?_
        obtain ⟨v5, ev5, h⟩ := wp_g h
        refine r_getR hc ev5 fl_X7_29 rfl dX7_next_33 ?_
        refine r_aload_n hc 0 rfl rfl dX7_next_36 ?_
        obtain ⟨v6, ev6, h⟩ := wp_g h
        refine r_getI hc ev6 fl_X7_218 rfl dX7_next_37 ?_
        refine r_aload_n hc 0 rfl rfl dX7_next_40 ?_
        obtain ⟨v7, ev7, h⟩ := wp_g h
        refine r_getR hc ev7 fl_X7_32 rfl dX7_next_41 ?_
        refine r_aload_n hc 0 rfl rfl dX7_next_44 ?_
        obtain ⟨v8, ev8, h⟩ := wp_g h
        refine r_getI hc ev8 fl_X7_218 rfl dX7_next_45 ?_
        obtain ⟨v9, ev9, h⟩ := wp_g h
        refine r_iald hc ev9 dX7_next_48 ?_
        obtain ⟨r10, σ11, er10, h⟩ := wp_b h
        refine r_callS hc ms_X7_lowest ml_X7_227 (c_X7_lowest er10) rfl rfl (by decide) rfl (Nat.le_of_ble_eq_true rfl) dX7_next_49 ?_
        obtain ⟨σ12, eσ12, h⟩ := wp_g h
        refine r_iast hc eσ12 dX7_next_52 ?_
        refine r_aload_n hc 0 rfl rfl dX7_next_53 ?_
        obtain ⟨v13, ev13, h⟩ := wp_g h
        refine r_getR hc ev13 fl_X7_32 rfl dX7_next_54 ?_
        refine r_aload_n hc 0 rfl rfl dX7_next_57 ?_
        obtain ⟨v14, ev14, h⟩ := wp_g h
        refine r_getI hc ev14 fl_X7_218 rfl dX7_next_58 ?_
        refine r_aload_n hc 0 rfl rfl dX7_next_61 ?_
        obtain ⟨v15, ev15, h⟩ := wp_g h
        refine r_getR hc ev15 fl_X7_32 rfl dX7_next_62 ?_
        refine r_aload_n hc 0 rfl rfl dX7_next_65 ?_
        obtain ⟨v16, ev16, h⟩ := wp_g h
        refine r_getI hc ev16 fl_X7_218 rfl dX7_next_66 ?_
        obtain ⟨v17, ev17, h⟩ := wp_g h
        refine r_iald hc ev17 dX7_next_69 ?_
        refine r_aload_n hc 0 rfl rfl dX7_next_70 ?_
        obtain ⟨v18, ev18, h⟩ := wp_g h
        refine r_getR hc ev18 fl_X7_32 rfl dX7_next_71 ?_
        refine r_aload_n hc 0 rfl rfl dX7_next_74 ?_
        obtain ⟨v19, ev19, h⟩ := wp_g h
        refine r_getI hc ev19 fl_X7_218 rfl dX7_next_75 ?_
        obtain ⟨v20, ev20, h⟩ := wp_g h
        refine r_iald hc ev20 dX7_next_78 ?_
        refine r_iconst hc (v := 1) (by decide) dX7_next_79 ?_
        refine r_isub hc dX7_next_80 ?_
        refine r_iand hc dX7_next_81 ?_
        obtain ⟨σ21, eσ21, h⟩ := wp_g h
        refine r_iast hc eσ21 dX7_next_82 ?_
        refine r_aload_n hc 0 rfl rfl dX7_next_83 ?_
        refine r_aload_n hc 0 rfl rfl dX7_next_84 ?_
        obtain ⟨v22, ev22, h⟩ := wp_g h
        refine r_getI hc ev22 fl_X7_221 rfl dX7_next_85 ?_
        refine r_iconst hc (v := 1) (by decide) dX7_next_88 ?_
        refine r_iadd hc dX7_next_89 ?_
        obtain ⟨σ23, eσ23, h⟩ := wp_g h
        refine r_putI hc eσ23 fp_X7_221 rfl dX7_next_90 ?_
        refine r_aload_n hc 0 rfl rfl dX7_next_93 ?_
        obtain ⟨v24, ev24, h⟩ := wp_g h
        refine r_getI hc ev24 fl_X7_218 rfl dX7_next_94 ?_
        refine r_aload_n hc 0 rfl rfl dX7_next_97 ?_
        obtain ⟨v25, ev25, h⟩ := wp_g h
        refine r_getR hc ev25 fl_X7_7 rfl dX7_next_98 ?_
        refine r_aload_n hc 0 rfl rfl dX7_next_101 ?_
        obtain ⟨v26, ev26, h⟩ := wp_g h
        refine r_getI hc ev26 fl_X7_215 rfl dX7_next_102 ?_
        obtain ⟨v27, ev27, h⟩ := wp_g h
        refine r_iald hc ev27 dX7_next_105 ?_
        refine r_iconst hc (v := 1) (by decide) dX7_next_106 ?_
        refine r_isub hc dX7_next_107 ?_
        refine r_icmp_ne hc (tgt := 113) dX7_next_108 (by decide) (fun c => ?_) (fun c => ?_)
        · have h := wp_f c h
          refine r_aload_n hc 0 rfl rfl dX7_next_113 ?_
          refine r_aload_n hc 0 rfl rfl dX7_next_114 ?_
          obtain ⟨v28, ev28, h⟩ := wp_g h
          refine r_getI hc ev28 fl_X7_218 rfl dX7_next_115 ?_
          refine r_iconst hc (v := 1) (by decide) dX7_next_118 ?_
          refine r_iadd hc dX7_next_119 ?_
          obtain ⟨σ29, eσ29, h⟩ := wp_g h
          refine r_putI hc eσ29 fp_X7_218 rfl dX7_next_120 ?_
          refine r_aload_n hc 0 rfl rfl dX7_next_123 ?_
          obtain ⟨v30, ev30, h⟩ := wp_g h
          refine r_getR hc ev30 fl_X7_32 rfl dX7_next_124 ?_
          refine r_aload_n hc 0 rfl rfl dX7_next_127 ?_
          obtain ⟨v31, ev31, h⟩ := wp_g h
          refine r_getI hc ev31 fl_X7_218 rfl dX7_next_128 ?_
          refine r_aload_n hc 0 rfl rfl dX7_next_131 ?_
          refine r_aload_n hc 0 rfl rfl dX7_next_132 ?_
          obtain ⟨v32, ev32, h⟩ := wp_g h
          refine r_getI hc ev32 fl_X7_218 rfl dX7_next_133 ?_
          obtain ⟨_, ek35, h⟩ := wp_g h
          obtain ⟨r33, σ34, er33, h⟩ := wp_b h
          refine r_callV hc (k0 := x0) mv_X7_mayBe ml_X7_224 (c_X7_mayBe er33) (chk_of ek35) cls_7.1 rfl rfl rfl (by decide) rfl (Nat.le_of_ble_eq_true rfl) dX7_next_136 ?_
          obtain ⟨σ36, eσ36, h⟩ := wp_g h
          refine r_iast hc eσ36 dX7_next_139 ?_
          refine r_goto hc (tgt := 0) dX7_next_140 (by decide) ?_
          have h := wp_v h
          exact kn () _ h
        · have h := wp_t c h
          refine r_sub [] (lv' := []) rfl ?_
          have h := wp_v h
          exact kx111 () _ h
      · have h := wp_t c h
        refine r_aload_n hc 0 rfl rfl dX7_next_19 ?_
        refine r_aload_n hc 0 rfl rfl dX7_next_20 ?_
        obtain ⟨v37, ev37, h⟩ := wp_g h
        refine r_getI hc ev37 fl_X7_218 rfl dX7_next_21 ?_
        refine r_iconst hc (v := 1) (by decide) dX7_next_24 ?_
        refine r_isub hc dX7_next_25 ?_
        obtain ⟨σ38, eσ38, h⟩ := wp_g h
        refine r_putI hc eσ38 fp_X7_218 rfl dX7_next_26 ?_
        refine r_goto hc (tgt := 0) dX7_next_29 (by decide) ?_
        have h := wp_v h
        exact kn () _ h
noncomputable def f_X7_next (x0 : Nat) (σ : Hp) : Option (Int32 × Hp) := bO (wh (f_X7_next_L0 x0) () σ) fun y1 σ2 => (Sum.elim (fun y1' => (some (1, σ2))) (fun y3 => (some (0, σ2))) y1)
set_option maxRecDepth 100000 in
set_option maxHeartbeats 4000000 in
theorem t_X7_next {l : Launch} {γ : Gm} {ad : Nat → Nat} {K : Option Value → Hp → Prop} (hc : Cx l γ 4 1 ad shM RX7 cX7_next (some .boolean) K) {x0 : Nat} {σ : Hp} (h : wpO (f_X7_next x0 σ) (KI K)) : WW l γ 4 1 ad shM 0 [(0, .ref (ad x0))] [] σ := by
  unfold f_X7_next at h
  refine t_X7_next_L0 hc (wp_bb h) ?_ ?_
  · intro y1' σ2 h
    have h := wp_sl h
    refine r_iconst hc (v := 1) (by decide) dX7_next_111 ?_
    have h := wp_v h
    exact r_zret hc h (by decide) dX7_next_112
  · intro y3 σ2 h
    have h := wp_sr h
    refine r_iconst hc (v := 0) (by decide) dX7_next_143 ?_
    have h := wp_v h
    exact r_zret hc h (by decide) dX7_next_144
theorem c_X7_next {l : Launch} {x0 : Nat} {σ σ' : Hp} {r : Int32} (h : f_X7_next x0 σ = some (r, σ')) : Mt l yX7_next cX7_next 1 (some .boolean) 4 shM (fun ad => [.ref (ad x0)]) σ (fun ad => some (.int r)) σ' := mt_i (own := RX7) (by decide) rfl (fun _ => Nat.le_of_ble_eq_true rfl) (fun γ ad K hc hk => t_X7_next hc ⟨_, _, h, hk⟩)

-- NetMapsModel.starts(IIZ)V
theorem dX7_starts_0 : decode cX7_starts 0 = .ok (.aload_n 0, 1) := by decide +kernel
theorem dX7_starts_1 : decode cX7_starts 1 = .ok (.iload_n 1, 1) := by decide +kernel
theorem dX7_starts_2 : decode cX7_starts 2 = .ok (.putfield 215, 3) := by decide +kernel
theorem dX7_starts_5 : decode cX7_starts 5 = .ok (.aload_n 0, 1) := by decide +kernel
theorem dX7_starts_6 : decode cX7_starts 6 = .ok (.iload_n 2, 1) := by decide +kernel
theorem dX7_starts_7 : decode cX7_starts 7 = .ok (.putfield 212, 3) := by decide +kernel
theorem dX7_starts_10 : decode cX7_starts 10 = .ok (.aload_n 0, 1) := by decide +kernel
theorem dX7_starts_11 : decode cX7_starts 11 = .ok (.iload_n 3, 1) := by decide +kernel
theorem dX7_starts_12 : decode cX7_starts 12 = .ok (.putfield 208, 3) := by decide +kernel
theorem dX7_starts_15 : decode cX7_starts 15 = .ok (.aload_n 0, 1) := by decide +kernel
theorem dX7_starts_16 : decode cX7_starts 16 = .ok (.iconst 0, 1) := by decide +kernel
theorem dX7_starts_17 : decode cX7_starts 17 = .ok (.putfield 218, 3) := by decide +kernel
theorem dX7_starts_20 : decode cX7_starts 20 = .ok (.aload_n 0, 1) := by decide +kernel
theorem dX7_starts_21 : decode cX7_starts 21 = .ok (.iconst 0, 1) := by decide +kernel
theorem dX7_starts_22 : decode cX7_starts 22 = .ok (.putfield 221, 3) := by decide +kernel
theorem dX7_starts_25 : decode cX7_starts 25 = .ok (.aload_n 0, 1) := by decide +kernel
theorem dX7_starts_26 : decode cX7_starts 26 = .ok (.getfield 32, 3) := by decide +kernel
theorem dX7_starts_29 : decode cX7_starts 29 = .ok (.iconst 0, 1) := by decide +kernel
theorem dX7_starts_30 : decode cX7_starts 30 = .ok (.aload_n 0, 1) := by decide +kernel
theorem dX7_starts_31 : decode cX7_starts 31 = .ok (.iconst 0, 1) := by decide +kernel
theorem dX7_starts_32 : decode cX7_starts 32 = .ok (.invokevirtual 224, 3) := by decide +kernel
theorem dX7_starts_35 : decode cX7_starts 35 = .ok (.iastore, 1) := by decide +kernel
theorem dX7_starts_36 : decode cX7_starts 36 = .ok (.return_, 1) := by decide +kernel
noncomputable def f_X7_starts (x0 : Nat) (x1 : Int32) (x2 : Int32) (x3 : Int32) (σ : Hp) : Option (Unit × Hp) := gO (putI shM 7 x0 11 x1 σ) fun σ1 => gO (putI shM 7 x0 12 x2 σ1) fun σ2 => gO (putZ shM 7 x0 15 x3 σ2) fun σ3 => gO (putI shM 7 x0 13 0 σ3) fun σ4 => gO (putI shM 7 x0 14 0 σ4) fun σ5 => gO (getR shM 7 x0 10 σ5) fun v6 => gO (chk shM x0 7) fun _ => bO (f_X7_mayBe x0 0 σ5) fun r7 σ8 => gO (astI shM 0 v6 0 r7 σ8) fun σ10 => some ((), σ10)
set_option maxRecDepth 100000 in
set_option maxHeartbeats 4000000 in
theorem t_X7_starts {l : Launch} {γ : Gm} {ad : Nat → Nat} {K : Option Value → Hp → Prop} (hc : Cx l γ 4 4 ad shM RX7 cX7_starts none K) {x0 : Nat} {x1 : Int32} {x2 : Int32} {x3 : Int32} {σ : Hp} (h : wpO (f_X7_starts x0 x1 x2 x3 σ) (KU K)) : WW l γ 4 4 ad shM 0 [(0, .ref (ad x0)), (1, .int x1), (2, .int x2), (3, .int x3)] [] σ := by
  unfold f_X7_starts at h
  refine r_aload_n hc 0 rfl rfl dX7_starts_0 ?_
  refine r_iload_n hc 1 rfl rfl dX7_starts_1 ?_
  obtain ⟨σ1, eσ1, h⟩ := wp_g h
  refine r_putI hc eσ1 fp_X7_215 rfl dX7_starts_2 ?_
  refine r_aload_n hc 0 rfl rfl dX7_starts_5 ?_
  refine r_iload_n hc 2 rfl rfl dX7_starts_6 ?_
  obtain ⟨σ2, eσ2, h⟩ := wp_g h
  refine r_putI hc eσ2 fp_X7_212 rfl dX7_starts_7 ?_
  refine r_aload_n hc 0 rfl rfl dX7_starts_10 ?_
  refine r_iload_n hc 3 rfl rfl dX7_starts_11 ?_
  obtain ⟨σ3, eσ3, h⟩ := wp_g h
  refine r_putZ hc eσ3 fp_X7_208 rfl dX7_starts_12 ?_
  refine r_aload_n hc 0 rfl rfl dX7_starts_15 ?_
  refine r_iconst hc (v := 0) (by decide) dX7_starts_16 ?_
  obtain ⟨σ4, eσ4, h⟩ := wp_g h
  refine r_putI hc eσ4 fp_X7_218 rfl dX7_starts_17 ?_
  refine r_aload_n hc 0 rfl rfl dX7_starts_20 ?_
  refine r_iconst hc (v := 0) (by decide) dX7_starts_21 ?_
  obtain ⟨σ5, eσ5, h⟩ := wp_g h
  refine r_putI hc eσ5 fp_X7_221 rfl dX7_starts_22 ?_
  refine r_aload_n hc 0 rfl rfl dX7_starts_25 ?_
  obtain ⟨v6, ev6, h⟩ := wp_g h
  refine r_getR hc ev6 fl_X7_32 rfl dX7_starts_26 ?_
  refine r_iconst hc (v := 0) (by decide) dX7_starts_29 ?_
  refine r_aload_n hc 0 rfl rfl dX7_starts_30 ?_
  refine r_iconst hc (v := 0) (by decide) dX7_starts_31 ?_
  obtain ⟨_, ek9, h⟩ := wp_g h
  obtain ⟨r7, σ8, er7, h⟩ := wp_b h
  refine r_callV hc (k0 := x0) mv_X7_mayBe ml_X7_224 (c_X7_mayBe er7) (chk_of ek9) cls_7.1 rfl rfl rfl (by decide) rfl (Nat.le_of_ble_eq_true rfl) dX7_starts_32 ?_
  obtain ⟨σ10, eσ10, h⟩ := wp_g h
  refine r_iast hc eσ10 dX7_starts_35 ?_
  have h := wp_v h
  exact r_vret hc h dX7_starts_36
theorem c_X7_starts {l : Launch} {x0 : Nat} {x1 : Int32} {x2 : Int32} {x3 : Int32} {σ σ' : Hp} {r : Unit} (h : f_X7_starts x0 x1 x2 x3 σ = some (r, σ')) : Mt l yX7_starts cX7_starts 4 none 4 shM (fun ad => [.ref (ad x0), .int x1, .int x2, .int x3]) σ (fun ad => none) σ' := mt_i (own := RX7) (by decide) rfl (fun _ => Nat.le_of_ble_eq_true rfl) (fun γ ad K hc hk => t_X7_starts hc ⟨_, _, h, hk⟩)

-- NetMapsModel.laysCore(I)V
theorem dX7_laysCore_0 : decode cX7_laysCore 0 = .ok (.iconst 0, 1) := by decide +kernel
theorem dX7_laysCore_1 : decode cX7_laysCore 1 = .ok (.istore_n 2, 1) := by decide +kernel
theorem dX7_laysCore_2 : decode cX7_laysCore 2 = .ok (.iload_n 2, 1) := by decide +kernel
theorem dX7_laysCore_3 : decode cX7_laysCore 3 = .ok (.sipush 128, 3) := by decide +kernel
theorem dX7_laysCore_6 : decode cX7_laysCore 6 = .ok (.if_icmp .ge 16, 3) := by decide +kernel
theorem dX7_laysCore_9 : decode cX7_laysCore 9 = .ok (.aload_n 0, 1) := by decide +kernel
theorem dX7_laysCore_10 : decode cX7_laysCore 10 = .ok (.getfield 41, 3) := by decide +kernel
theorem dX7_laysCore_13 : decode cX7_laysCore 13 = .ok (.iload_n 2, 1) := by decide +kernel
theorem dX7_laysCore_14 : decode cX7_laysCore 14 = .ok (.iconst 0, 1) := by decide +kernel
theorem dX7_laysCore_15 : decode cX7_laysCore 15 = .ok (.bastore, 1) := by decide +kernel
theorem dX7_laysCore_16 : decode cX7_laysCore 16 = .ok (.iinc 2 1, 3) := by decide +kernel
theorem dX7_laysCore_19 : decode cX7_laysCore 19 = .ok (.goto (-17), 3) := by decide +kernel
theorem dX7_laysCore_22 : decode cX7_laysCore 22 = .ok (.aload_n 0, 1) := by decide +kernel
theorem dX7_laysCore_23 : decode cX7_laysCore 23 = .ok (.iconst 0, 1) := by decide +kernel
theorem dX7_laysCore_24 : decode cX7_laysCore 24 = .ok (.putfield 276, 3) := by decide +kernel
theorem dX7_laysCore_27 : decode cX7_laysCore 27 = .ok (.aload_n 0, 1) := by decide +kernel
theorem dX7_laysCore_28 : decode cX7_laysCore 28 = .ok (.bipush 127, 2) := by decide +kernel
theorem dX7_laysCore_30 : decode cX7_laysCore 30 = .ok (.putfield 200, 3) := by decide +kernel
theorem dX7_laysCore_33 : decode cX7_laysCore 33 = .ok (.aload_n 0, 1) := by decide +kernel
theorem dX7_laysCore_34 : decode cX7_laysCore 34 = .ok (.iload_n 1, 1) := by decide +kernel
theorem dX7_laysCore_35 : decode cX7_laysCore 35 = .ok (.iload_n 1, 1) := by decide +kernel
theorem dX7_laysCore_36 : decode cX7_laysCore 36 = .ok (.iconst 0, 1) := by decide +kernel
theorem dX7_laysCore_37 : decode cX7_laysCore 37 = .ok (.invokevirtual 237, 3) := by decide +kernel
theorem dX7_laysCore_40 : decode cX7_laysCore 40 = .ok (.aload_n 0, 1) := by decide +kernel
theorem dX7_laysCore_41 : decode cX7_laysCore 41 = .ok (.invokevirtual 240, 3) := by decide +kernel
theorem dX7_laysCore_44 : decode cX7_laysCore 44 = .ok (.ifCond .eq 79, 3) := by decide +kernel
theorem dX7_laysCore_47 : decode cX7_laysCore 47 = .ok (.aload_n 0, 1) := by decide +kernel
theorem dX7_laysCore_48 : decode cX7_laysCore 48 = .ok (.invokevirtual 279, 3) := by decide +kernel
theorem dX7_laysCore_51 : decode cX7_laysCore 51 = .ok (.ifCond .ne 6, 3) := by decide +kernel
theorem dX7_laysCore_54 : decode cX7_laysCore 54 = .ok (.goto (-14), 3) := by decide +kernel
theorem dX7_laysCore_57 : decode cX7_laysCore 57 = .ok (.aload_n 0, 1) := by decide +kernel
theorem dX7_laysCore_58 : decode cX7_laysCore 58 = .ok (.invokevirtual 230, 3) := by decide +kernel
theorem dX7_laysCore_61 : decode cX7_laysCore 61 = .ok (.istore_n 2, 1) := by decide +kernel
theorem dX7_laysCore_62 : decode cX7_laysCore 62 = .ok (.aload_n 0, 1) := by decide +kernel
theorem dX7_laysCore_63 : decode cX7_laysCore 63 = .ok (.aload_n 0, 1) := by decide +kernel
theorem dX7_laysCore_64 : decode cX7_laysCore 64 = .ok (.getfield 276, 3) := by decide +kernel
theorem dX7_laysCore_67 : decode cX7_laysCore 67 = .ok (.iconst 1, 1) := by decide +kernel
theorem dX7_laysCore_68 : decode cX7_laysCore 68 = .ok (.iadd, 1) := by decide +kernel
theorem dX7_laysCore_69 : decode cX7_laysCore 69 = .ok (.putfield 276, 3) := by decide +kernel
theorem dX7_laysCore_72 : decode cX7_laysCore 72 = .ok (.aload_n 0, 1) := by decide +kernel
theorem dX7_laysCore_73 : decode cX7_laysCore 73 = .ok (.getfield 41, 3) := by decide +kernel
theorem dX7_laysCore_76 : decode cX7_laysCore 76 = .ok (.iload_n 2, 1) := by decide +kernel
theorem dX7_laysCore_77 : decode cX7_laysCore 77 = .ok (.iconst 1, 1) := by decide +kernel
theorem dX7_laysCore_78 : decode cX7_laysCore 78 = .ok (.bastore, 1) := by decide +kernel
theorem dX7_laysCore_79 : decode cX7_laysCore 79 = .ok (.iload_n 2, 1) := by decide +kernel
theorem dX7_laysCore_80 : decode cX7_laysCore 80 = .ok (.invokestatic 93, 3) := by decide +kernel
theorem dX7_laysCore_83 : decode cX7_laysCore 83 = .ok (.aload_n 0, 1) := by decide +kernel
theorem dX7_laysCore_84 : decode cX7_laysCore 84 = .ok (.getfield 200, 3) := by decide +kernel
theorem dX7_laysCore_87 : decode cX7_laysCore 87 = .ok (.invokestatic 93, 3) := by decide +kernel
theorem dX7_laysCore_90 : decode cX7_laysCore 90 = .ok (.if_icmp .lt 25, 3) := by decide +kernel
theorem dX7_laysCore_93 : decode cX7_laysCore 93 = .ok (.iload_n 2, 1) := by decide +kernel
theorem dX7_laysCore_94 : decode cX7_laysCore 94 = .ok (.invokestatic 93, 3) := by decide +kernel
theorem dX7_laysCore_97 : decode cX7_laysCore 97 = .ok (.aload_n 0, 1) := by decide +kernel
theorem dX7_laysCore_98 : decode cX7_laysCore 98 = .ok (.getfield 200, 3) := by decide +kernel
theorem dX7_laysCore_101 : decode cX7_laysCore 101 = .ok (.invokestatic 93, 3) := by decide +kernel
theorem dX7_laysCore_104 : decode cX7_laysCore 104 = .ok (.if_icmp .ne 16, 3) := by decide +kernel
theorem dX7_laysCore_107 : decode cX7_laysCore 107 = .ok (.iload_n 2, 1) := by decide +kernel
theorem dX7_laysCore_108 : decode cX7_laysCore 108 = .ok (.aload_n 0, 1) := by decide +kernel
theorem dX7_laysCore_109 : decode cX7_laysCore 109 = .ok (.getfield 200, 3) := by decide +kernel
theorem dX7_laysCore_112 : decode cX7_laysCore 112 = .ok (.if_icmp .ge 8, 3) := by decide +kernel
theorem dX7_laysCore_115 : decode cX7_laysCore 115 = .ok (.aload_n 0, 1) := by decide +kernel
theorem dX7_laysCore_116 : decode cX7_laysCore 116 = .ok (.iload_n 2, 1) := by decide +kernel
theorem dX7_laysCore_117 : decode cX7_laysCore 117 = .ok (.putfield 200, 3) := by decide +kernel
theorem dX7_laysCore_120 : decode cX7_laysCore 120 = .ok (.goto (-80), 3) := by decide +kernel
theorem dX7_laysCore_123 : decode cX7_laysCore 123 = .ok (.return_, 1) := by decide +kernel
noncomputable def f_X7_laysCore_L2 (x0 : Nat) (x1 : Int32) (v : (Int32)) (σ : Hp) : Option (((Int32) ⊕ (Unit)) × Hp) := if 128 ≤ v then (some (Sum.inr (), σ)) else (gO (getR shM 7 x0 18 σ) fun v1 => gO (astI shM 2 v1 v 0 σ) fun σ2 => some (Sum.inl (v + 1), σ2))
set_option maxRecDepth 100000 in
set_option maxHeartbeats 4000000 in
theorem t_X7_laysCore_L2 {l : Launch} {γ : Gm} {ad : Nat → Nat} {K : Option Value → Hp → Prop}  (hc : Cx l γ 5 3 ad shM RX7 cX7_laysCore none K) {x0 : Nat} {x1 : Int32} {v : (Int32)} {σ : Hp} {KX : (Unit) → Hp → Prop} (h : wpO (wh (f_X7_laysCore_L2 x0 x1) v σ) KX) (kx22 : ∀ (v : Unit) (σ : Hp), KX v σ → WW l γ 5 3 ad shM 22 [(0, .ref (ad x0)), (1, .int x1)] [] σ) : WW l γ 5 3 ad shM 2 [(0, .ref (ad x0)), (1, .int x1), (2, .int v)] [] σ := by
  refine wh_W (P := fun v σ => WW l γ 5 3 ad shM 2 [(0, .ref (ad x0)), (1, .int x1), (2, .int v)] [] σ) (fun v σ h => ?_) h
  have kn : ∀ (v : (Int32)) (σ : Hp), WW l γ 5 3 ad shM 2 [(0, .ref (ad x0)), (1, .int x1), (2, .int v)] [] σ → WW l γ 5 3 ad shM 2 [(0, .ref (ad x0)), (1, .int x1), (2, .int v)] [] σ := fun _ _ h => h
  · unfold f_X7_laysCore_L2 at h
    refine r_iload_n hc 2 rfl rfl dX7_laysCore_2 ?_
    refine r_sipush hc (v := 128) (by decide) dX7_laysCore_3 ?_
    refine r_icmp_ge hc (tgt := 22) dX7_laysCore_6 (by decide) (fun c => ?_) (fun c => ?_)
    · have h := wp_t c h
      refine r_sub [0, 1] (lv' := [(0, .ref (ad x0)), (1, .int x1)]) rfl ?_
      have h := wp_v h
      exact kx22 () _ h
    · have h := wp_f c h
      refine r_aload_n hc 0 rfl rfl dX7_laysCore_9 ?_
      obtain ⟨v1, ev1, h⟩ := wp_g h
      refine r_getR hc ev1 fl_X7_41 rfl dX7_laysCore_10 ?_
      refine r_iload_n hc 2 rfl rfl dX7_laysCore_13 ?_
      refine r_iconst hc (v := 0) (by decide) dX7_laysCore_14 ?_
      obtain ⟨σ2, eσ2, h⟩ := wp_g h
      refine r_zast hc eσ2 dX7_laysCore_15 ?_
      refine r_iincE hc (j := 2) (w := 1) (lv' := [(2, .int (v + 1)), (0, .ref (ad x0)), (1, .int x1)]) rfl (by decide) rfl (by decide) rfl dX7_laysCore_16 ?_
      refine r_goto hc (tgt := 2) dX7_laysCore_19 (by decide) ?_
      refine r_sub [1, 2, 0] (lv' := [(0, .ref (ad x0)), (1, .int x1), (2, .int (v + 1))]) rfl ?_
      have h := wp_v h
      exact kn (v + 1) _ h
noncomputable def f_X7_laysCore_b120 (x0 : Nat) (σ : Hp) : Option (((Unit) ⊕ (Unit)) × Hp) := some (Sum.inl (), σ)
set_option maxRecDepth 100000 in
set_option maxHeartbeats 4000000 in
theorem t_X7_laysCore_b120 {l : Launch} {γ : Gm} {ad : Nat → Nat} {K : Option Value → Hp → Prop} (hc : Cx l γ 5 3 ad shM RX7 cX7_laysCore none K) {x0 : Nat}  {σ : Hp} {KL : ((Unit) ⊕ (Unit)) → Hp → Prop} (h : wpO (f_X7_laysCore_b120 x0 σ) KL) (kn : ∀ (v : (Unit)) (σ : Hp), KL (Sum.inl v) σ → WW l γ 5 3 ad shM 40 [(0, .ref (ad x0))] [] σ) (kx123 : ∀ (v : Unit) (σ : Hp), KL (Sum.inr v) σ → WW l γ 5 3 ad shM 123 [] [] σ) : WW l γ 5 3 ad shM 120 [(0, .ref (ad x0))] [] σ := by
  unfold f_X7_laysCore_b120 at h
  refine r_goto hc (tgt := 40) dX7_laysCore_120 (by decide) ?_
  have h := wp_v h
  exact kn () _ h
noncomputable def f_X7_laysCore_b115 (x0 : Nat) (x2 : Int32) (σ : Hp) : Option (((Unit) ⊕ (Unit)) × Hp) := gO (putI shM 7 x0 19 x2 σ) fun σ1 => f_X7_laysCore_b120 x0 σ1
set_option maxRecDepth 100000 in
set_option maxHeartbeats 4000000 in
theorem t_X7_laysCore_b115 {l : Launch} {γ : Gm} {ad : Nat → Nat} {K : Option Value → Hp → Prop} (hc : Cx l γ 5 3 ad shM RX7 cX7_laysCore none K) {x0 : Nat} {x2 : Int32}  {σ : Hp} {KL : ((Unit) ⊕ (Unit)) → Hp → Prop} (h : wpO (f_X7_laysCore_b115 x0 x2 σ) KL) (kn : ∀ (v : (Unit)) (σ : Hp), KL (Sum.inl v) σ → WW l γ 5 3 ad shM 40 [(0, .ref (ad x0))] [] σ) (kx123 : ∀ (v : Unit) (σ : Hp), KL (Sum.inr v) σ → WW l γ 5 3 ad shM 123 [] [] σ) : WW l γ 5 3 ad shM 115 [(0, .ref (ad x0)), (2, .int x2)] [] σ := by
  unfold f_X7_laysCore_b115 at h
  refine r_aload_n hc 0 rfl rfl dX7_laysCore_115 ?_
  refine r_iload_n hc 1 rfl rfl dX7_laysCore_116 ?_
  obtain ⟨σ1, eσ1, h⟩ := wp_g h
  refine r_putI hc eσ1 fp_X7_200 rfl dX7_laysCore_117 ?_
  refine r_sub [0] (lv' := [(0, .ref (ad x0))]) rfl ?_
  exact t_X7_laysCore_b120 hc h kn kx123
noncomputable def f_X7_laysCore_L40 (x0 : Nat) (v : (Unit)) (σ : Hp) : Option (((Unit) ⊕ (Unit)) × Hp) := gO (chk shM x0 7) fun _ => bO (f_X7_next x0 σ) fun r1 σ2 => if r1 = 0 then (some (Sum.inr (), σ2)) else (gO (chk shM x0 7) fun _ => bO (f_X7_isRetraction x0 σ2) fun r4 σ5 => if r4 = 0 then (some (Sum.inl (), σ5)) else (gO (chk shM x0 7) fun _ => bO (f_X7_became x0 σ5) fun r7 σ8 => gO (getI shM 7 x0 20 σ8) fun v10 => gO (putI shM 7 x0 20 (v10 + 1) σ8) fun σ11 => gO (getR shM 7 x0 18 σ11) fun v12 => gO (astI shM 2 v12 r7 1 σ11) fun σ13 => bO (f_X7_bits r7 σ13) fun r14 σ15 => gO (getI shM 7 x0 19 σ15) fun v16 => bO (f_X7_bits v16 σ15) fun r17 σ18 => if r14 < r17 then (f_X7_laysCore_b115 x0 r7 σ18) else (bO (f_X7_bits r7 σ18) fun r19 σ20 => gO (getI shM 7 x0 19 σ20) fun v21 => bO (f_X7_bits v21 σ20) fun r22 σ23 => if r19 = r22 then (gO (getI shM 7 x0 19 σ23) fun v24 => if v24 ≤ r7 then (f_X7_laysCore_b120 x0 σ23) else (f_X7_laysCore_b115 x0 r7 σ23)) else (f_X7_laysCore_b120 x0 σ23))))
set_option maxRecDepth 100000 in
set_option maxHeartbeats 4000000 in
theorem t_X7_laysCore_L40 {l : Launch} {γ : Gm} {ad : Nat → Nat} {K : Option Value → Hp → Prop}  (hc : Cx l γ 5 3 ad shM RX7 cX7_laysCore none K) {x0 : Nat} {v : (Unit)} {σ : Hp} {KX : (Unit) → Hp → Prop} (h : wpO (wh (f_X7_laysCore_L40 x0) v σ) KX) (kx123 : ∀ (v : Unit) (σ : Hp), KX v σ → WW l γ 5 3 ad shM 123 [] [] σ) : WW l γ 5 3 ad shM 40 [(0, .ref (ad x0))] [] σ := by
  refine wh_W (P := fun v σ => WW l γ 5 3 ad shM 40 [(0, .ref (ad x0))] [] σ) (fun v σ h => ?_) h
  have kn : ∀ (v : (Unit)) (σ : Hp), WW l γ 5 3 ad shM 40 [(0, .ref (ad x0))] [] σ → WW l γ 5 3 ad shM 40 [(0, .ref (ad x0))] [] σ := fun _ _ h => h
  · unfold f_X7_laysCore_L40 at h
    refine r_aload_n hc 0 rfl rfl dX7_laysCore_40 ?_
    obtain ⟨_, ek3, h⟩ := wp_g h
    obtain ⟨r1, σ2, er1, h⟩ := wp_b h
    refine r_callV hc (k0 := x0) mv_X7_next ml_X7_240 (c_X7_next er1) (chk_of ek3) cls_7.1 rfl rfl rfl (by decide) rfl (Nat.le_of_ble_eq_true rfl) dX7_laysCore_41 ?_
    refine r_if_eq hc (tgt := 123) dX7_laysCore_44 (by decide) (fun c => ?_) (fun c => ?_)
    · have h := wp_t c h
      refine r_sub [] (lv' := []) rfl ?_
      have h := wp_v h
      exact kx123 () _ h
    · have h := wp_f c h
      refine r_aload_n hc 0 rfl rfl dX7_laysCore_47 ?_
      obtain ⟨_, ek6, h⟩ := wp_g h
      obtain ⟨r4, σ5, er4, h⟩ := wp_b h
      refine r_callV hc (k0 := x0) mv_X7_isRetraction ml_X7_279 (c_X7_isRetraction er4) (chk_of ek6) cls_7.1 rfl rfl rfl (by decide) rfl (Nat.le_of_ble_eq_true rfl) dX7_laysCore_48 ?_
      refine r_if_ne hc (tgt := 57) dX7_laysCore_51 (by decide) (fun c => ?_) (fun c => ?_)
      · have h := wp_f c h
        refine r_aload_n hc 0 rfl rfl dX7_laysCore_57 ?_
        obtain ⟨_, ek9, h⟩ := wp_g h
        obtain ⟨r7, σ8, er7, h⟩ := wp_b h
        refine r_callV hc (k0 := x0) mv_X7_became ml_X7_230 (c_X7_became er7) (chk_of ek9) cls_7.1 rfl rfl rfl (by decide) rfl (Nat.le_of_ble_eq_true rfl) dX7_laysCore_58 ?_
        refine r_istore_nE hc (i := 2) (lv' := [(2, .int r7), (0, .ref (ad x0))]) rfl rfl (by decide) rfl dX7_laysCore_61 ?_
        refine r_aload_n hc 1 rfl rfl dX7_laysCore_62 ?_
        refine r_aload_n hc 1 rfl rfl dX7_laysCore_63 ?_
        obtain ⟨v10, ev10, h⟩ := wp_g h
        refine r_getI hc ev10 fl_X7_276 rfl dX7_laysCore_64 ?_
        refine r_iconst hc (v := 1) (by decide) dX7_laysCore_67 ?_
        refine r_iadd hc dX7_laysCore_68 ?_
        obtain ⟨σ11, eσ11, h⟩ := wp_g h
        refine r_putI hc eσ11 fp_X7_276 rfl dX7_laysCore_69 ?_
        refine r_aload_n hc 1 rfl rfl dX7_laysCore_72 ?_
        obtain ⟨v12, ev12, h⟩ := wp_g h
        refine r_getR hc ev12 fl_X7_41 rfl dX7_laysCore_73 ?_
        refine r_iload_n hc 0 rfl rfl dX7_laysCore_76 ?_
        refine r_iconst hc (v := 1) (by decide) dX7_laysCore_77 ?_
        obtain ⟨σ13, eσ13, h⟩ := wp_g h
        refine r_zast hc eσ13 dX7_laysCore_78 ?_
        refine r_iload_n hc 0 rfl rfl dX7_laysCore_79 ?_
        obtain ⟨r14, σ15, er14, h⟩ := wp_b h
        refine r_callS hc ms_X7_bits ml_X7_93 (c_X7_bits er14) rfl rfl (by decide) rfl (Nat.le_of_ble_eq_true rfl) dX7_laysCore_80 ?_
        refine r_aload_n hc 1 rfl rfl dX7_laysCore_83 ?_
        obtain ⟨v16, ev16, h⟩ := wp_g h
        refine r_getI hc ev16 fl_X7_200 rfl dX7_laysCore_84 ?_
        obtain ⟨r17, σ18, er17, h⟩ := wp_b h
        refine r_callS hc ms_X7_bits ml_X7_93 (c_X7_bits er17) rfl rfl (by decide) rfl (Nat.le_of_ble_eq_true rfl) dX7_laysCore_87 ?_
        refine r_icmp_lt hc (tgt := 115) dX7_laysCore_90 (by decide) (fun c => ?_) (fun c => ?_)
        · have h := wp_t c h
          refine r_sub [1, 0] (lv' := [(0, .ref (ad x0)), (2, .int r7)]) rfl ?_
          exact t_X7_laysCore_b115 hc h kn kx123
        · have h := wp_f c h
          refine r_iload_n hc 0 rfl rfl dX7_laysCore_93 ?_
          obtain ⟨r19, σ20, er19, h⟩ := wp_b h
          refine r_callS hc ms_X7_bits ml_X7_93 (c_X7_bits er19) rfl rfl (by decide) rfl (Nat.le_of_ble_eq_true rfl) dX7_laysCore_94 ?_
          refine r_aload_n hc 1 rfl rfl dX7_laysCore_97 ?_
          obtain ⟨v21, ev21, h⟩ := wp_g h
          refine r_getI hc ev21 fl_X7_200 rfl dX7_laysCore_98 ?_
          obtain ⟨r22, σ23, er22, h⟩ := wp_b h
          refine r_callS hc ms_X7_bits ml_X7_93 (c_X7_bits er22) rfl rfl (by decide) rfl (Nat.le_of_ble_eq_true rfl) dX7_laysCore_101 ?_
          refine r_icmp_ne hc (tgt := 120) dX7_laysCore_104 (by decide) (fun c => ?_) (fun c => ?_)
          · have h := wp_f c h
            refine r_sub [1] (lv' := [(0, .ref (ad x0))]) rfl ?_
            exact t_X7_laysCore_b120 hc h kn kx123
          · have h := wp_t c h
            refine r_iload_n hc 0 rfl rfl dX7_laysCore_107 ?_
            refine r_aload_n hc 1 rfl rfl dX7_laysCore_108 ?_
            obtain ⟨v24, ev24, h⟩ := wp_g h
            refine r_getI hc ev24 fl_X7_200 rfl dX7_laysCore_109 ?_
            refine r_icmp_ge hc (tgt := 120) dX7_laysCore_112 (by decide) (fun c => ?_) (fun c => ?_)
            · have h := wp_t c h
              refine r_sub [1] (lv' := [(0, .ref (ad x0))]) rfl ?_
              exact t_X7_laysCore_b120 hc h kn kx123
            · have h := wp_f c h
              refine r_sub [1, 0] (lv' := [(0, .ref (ad x0)), (2, .int r7)]) rfl ?_
              exact t_X7_laysCore_b115 hc h kn kx123
      · have h := wp_t c h
        refine r_goto hc (tgt := 40) dX7_laysCore_54 (by decide) ?_
        have h := wp_v h
        exact kn () _ h
noncomputable def f_X7_laysCore (x0 : Nat) (x1 : Int32) (σ : Hp) : Option (Unit × Hp) := bO (wh (f_X7_laysCore_L2 x0 x1) 0 σ) fun y1 σ2 => (gO (putI shM 7 x0 20 0 σ2) fun σ3 => gO (putI shM 7 x0 19 127 σ3) fun σ4 => gO (chk shM x0 7) fun _ => bO (f_X7_starts x0 x1 x1 0 σ4) fun _ σ6 => bO (wh (f_X7_laysCore_L40 x0) () σ6) fun y8 σ9 => (some ((), σ9)))
set_option maxRecDepth 100000 in
set_option maxHeartbeats 4000000 in
theorem t_X7_laysCore {l : Launch} {γ : Gm} {ad : Nat → Nat} {K : Option Value → Hp → Prop} (hc : Cx l γ 5 3 ad shM RX7 cX7_laysCore none K) {x0 : Nat} {x1 : Int32} {σ : Hp} (h : wpO (f_X7_laysCore x0 x1 σ) (KU K)) : WW l γ 5 3 ad shM 0 [(0, .ref (ad x0)), (1, .int x1)] [] σ := by
  unfold f_X7_laysCore at h
  refine r_iconst hc (v := 0) (by decide) dX7_laysCore_0 ?_
  refine r_istore_nE hc (i := 2) (lv' := [(2, .int 0), (0, .ref (ad x0)), (1, .int x1)]) rfl rfl (by decide) rfl dX7_laysCore_1 ?_
  refine r_sub [1, 2, 0] (lv' := [(0, .ref (ad x0)), (1, .int x1), (2, .int 0)]) rfl ?_
  refine t_X7_laysCore_L2 hc (wp_bb h) ?_
  · intro y1 σ2 h
    refine r_aload_n hc 0 rfl rfl dX7_laysCore_22 ?_
    refine r_iconst hc (v := 0) (by decide) dX7_laysCore_23 ?_
    obtain ⟨σ3, eσ3, h⟩ := wp_g h
    refine r_putI hc eσ3 fp_X7_276 rfl dX7_laysCore_24 ?_
    refine r_aload_n hc 0 rfl rfl dX7_laysCore_27 ?_
    refine r_bipush hc (v := 127) (by decide) dX7_laysCore_28 ?_
    obtain ⟨σ4, eσ4, h⟩ := wp_g h
    refine r_putI hc eσ4 fp_X7_200 rfl dX7_laysCore_30 ?_
    refine r_aload_n hc 0 rfl rfl dX7_laysCore_33 ?_
    refine r_iload_n hc 1 rfl rfl dX7_laysCore_34 ?_
    refine r_iload_n hc 1 rfl rfl dX7_laysCore_35 ?_
    refine r_iconst hc (v := 0) (by decide) dX7_laysCore_36 ?_
    obtain ⟨_, ek7, h⟩ := wp_g h
    obtain ⟨_, σ6, er5, h⟩ := wp_b h
    refine r_callV hc (k0 := x0) mv_X7_starts ml_X7_237 (c_X7_starts er5) (chk_of ek7) cls_7.1 rfl rfl rfl (by decide) rfl (Nat.le_of_ble_eq_true rfl) dX7_laysCore_37 ?_
    refine r_sub [0] (lv' := [(0, .ref (ad x0))]) rfl ?_
    refine t_X7_laysCore_L40 hc (wp_bb h) ?_
    · intro y8 σ9 h
      have h := wp_v h
      exact r_vret hc h dX7_laysCore_123
theorem c_X7_laysCore {l : Launch} {x0 : Nat} {x1 : Int32} {σ σ' : Hp} {r : Unit} (h : f_X7_laysCore x0 x1 σ = some (r, σ')) : Mt l yX7_laysCore cX7_laysCore 3 none 5 shM (fun ad => [.ref (ad x0), .int x1]) σ (fun ad => none) σ' := mt_i (own := RX7) (by decide) rfl (fun _ => Nat.le_of_ble_eq_true rfl) (fun γ ad K hc hk => t_X7_laysCore hc ⟨_, _, h, hk⟩)

-- NetMapsModel.change(II)I
theorem dX7_change_0 : decode cX7_change 0 = .ok (.iload_n 1, 1) := by decide +kernel
theorem dX7_change_1 : decode cX7_change 1 = .ok (.invokestatic 132, 3) := by decide +kernel
theorem dX7_change_4 : decode cX7_change 4 = .ok (.ifCond .eq 13, 3) := by decide +kernel
theorem dX7_change_7 : decode cX7_change 7 = .ok (.iload_n 2, 1) := by decide +kernel
theorem dX7_change_8 : decode cX7_change 8 = .ok (.iconst 0, 1) := by decide +kernel
theorem dX7_change_9 : decode cX7_change 9 = .ok (.bipush 6, 2) := by decide +kernel
theorem dX7_change_11 : decode cX7_change 11 = .ok (.invokestatic 81, 3) := by decide +kernel
theorem dX7_change_14 : decode cX7_change 14 = .ok (.ifCond .ne 5, 3) := by decide +kernel
theorem dX7_change_17 : decode cX7_change 17 = .ok (.iconst (-1), 1) := by decide +kernel
theorem dX7_change_18 : decode cX7_change 18 = .ok (.ireturn, 1) := by decide +kernel
theorem dX7_change_19 : decode cX7_change 19 = .ok (.aload_n 0, 1) := by decide +kernel
theorem dX7_change_20 : decode cX7_change 20 = .ok (.iload_n 1, 1) := by decide +kernel
theorem dX7_change_21 : decode cX7_change 21 = .ok (.invokevirtual 85, 3) := by decide +kernel
theorem dX7_change_24 : decode cX7_change 24 = .ok (.ifCond .eq 6, 3) := by decide +kernel
theorem dX7_change_27 : decode cX7_change 27 = .ok (.bipush (-2), 2) := by decide +kernel
theorem dX7_change_29 : decode cX7_change 29 = .ok (.ireturn, 1) := by decide +kernel
theorem dX7_change_30 : decode cX7_change 30 = .ok (.iload_n 2, 1) := by decide +kernel
theorem dX7_change_31 : decode cX7_change 31 = .ok (.iconst 5, 1) := by decide +kernel
theorem dX7_change_32 : decode cX7_change 32 = .ok (.if_icmp .ne 20, 3) := by decide +kernel
theorem dX7_change_35 : decode cX7_change 35 = .ok (.aload_n 0, 1) := by decide +kernel
theorem dX7_change_36 : decode cX7_change 36 = .ok (.iload_n 1, 1) := by decide +kernel
theorem dX7_change_37 : decode cX7_change 37 = .ok (.invokevirtual 197, 3) := by decide +kernel
theorem dX7_change_40 : decode cX7_change 40 = .ok (.aload_n 0, 1) := by decide +kernel
theorem dX7_change_41 : decode cX7_change 41 = .ok (.iload_n 1, 1) := by decide +kernel
theorem dX7_change_42 : decode cX7_change 42 = .ok (.aload_n 0, 1) := by decide +kernel
theorem dX7_change_43 : decode cX7_change 43 = .ok (.getfield 200, 3) := by decide +kernel
theorem dX7_change_46 : decode cX7_change 46 = .ok (.invokevirtual 194, 3) := by decide +kernel
theorem dX7_change_49 : decode cX7_change 49 = .ok (.goto 75, 3) := by decide +kernel
theorem dX7_change_52 : decode cX7_change 52 = .ok (.aload_n 0, 1) := by decide +kernel
theorem dX7_change_53 : decode cX7_change 53 = .ok (.bipush 7, 2) := by decide +kernel
theorem dX7_change_55 : decode cX7_change 55 = .ok (.aload_n 0, 1) := by decide +kernel
theorem dX7_change_56 : decode cX7_change 56 = .ok (.getfield 7, 3) := by decide +kernel
theorem dX7_change_59 : decode cX7_change 59 = .ok (.iload_n 1, 1) := by decide +kernel
theorem dX7_change_60 : decode cX7_change 60 = .ok (.iaload, 1) := by decide +kernel
theorem dX7_change_61 : decode cX7_change 61 = .ok (.invokevirtual 121, 3) := by decide +kernel
theorem dX7_change_64 : decode cX7_change 64 = .ok (.iconst 0, 1) := by decide +kernel
theorem dX7_change_65 : decode cX7_change 65 = .ok (.istore_n 3, 1) := by decide +kernel
theorem dX7_change_66 : decode cX7_change 66 = .ok (.iload_n 3, 1) := by decide +kernel
theorem dX7_change_67 : decode cX7_change 67 = .ok (.aload_n 0, 1) := by decide +kernel
theorem dX7_change_68 : decode cX7_change 68 = .ok (.getfield 7, 3) := by decide +kernel
theorem dX7_change_71 : decode cX7_change 71 = .ok (.iload_n 1, 1) := by decide +kernel
theorem dX7_change_72 : decode cX7_change 72 = .ok (.iaload, 1) := by decide +kernel
theorem dX7_change_73 : decode cX7_change 73 = .ok (.if_icmp .ge 51, 3) := by decide +kernel
theorem dX7_change_76 : decode cX7_change 76 = .ok (.iconst 0, 1) := by decide +kernel
theorem dX7_change_77 : decode cX7_change 77 = .ok (.istore 4, 2) := by decide +kernel
theorem dX7_change_79 : decode cX7_change 79 = .ok (.iload 4, 2) := by decide +kernel
theorem dX7_change_81 : decode cX7_change 81 = .ok (.aload_n 0, 1) := by decide +kernel
theorem dX7_change_82 : decode cX7_change 82 = .ok (.getfield 7, 3) := by decide +kernel
theorem dX7_change_85 : decode cX7_change 85 = .ok (.iload_n 1, 1) := by decide +kernel
theorem dX7_change_86 : decode cX7_change 86 = .ok (.iaload, 1) := by decide +kernel
theorem dX7_change_87 : decode cX7_change 87 = .ok (.if_icmp .ge 31, 3) := by decide +kernel
theorem dX7_change_90 : decode cX7_change 90 = .ok (.aload_n 0, 1) := by decide +kernel
theorem dX7_change_91 : decode cX7_change 91 = .ok (.iload_n 1, 1) := by decide +kernel
theorem dX7_change_92 : decode cX7_change 92 = .ok (.iload_n 3, 1) := by decide +kernel
theorem dX7_change_93 : decode cX7_change 93 = .ok (.iload 4, 2) := by decide +kernel
theorem dX7_change_95 : decode cX7_change 95 = .ok (.iload_n 2, 1) := by decide +kernel
theorem dX7_change_96 : decode cX7_change 96 = .ok (.invokevirtual 203, 3) := by decide +kernel
theorem dX7_change_99 : decode cX7_change 99 = .ok (.ifCond .eq 13, 3) := by decide +kernel
theorem dX7_change_102 : decode cX7_change 102 = .ok (.aload_n 0, 1) := by decide +kernel
theorem dX7_change_103 : decode cX7_change 103 = .ok (.bipush 7, 2) := by decide +kernel
theorem dX7_change_105 : decode cX7_change 105 = .ok (.iload_n 3, 1) := by decide +kernel
theorem dX7_change_106 : decode cX7_change 106 = .ok (.iload 4, 2) := by decide +kernel
theorem dX7_change_108 : decode cX7_change 108 = .ok (.iconst 1, 1) := by decide +kernel
theorem dX7_change_109 : decode cX7_change 109 = .ok (.invokevirtual 128, 3) := by decide +kernel
theorem dX7_change_112 : decode cX7_change 112 = .ok (.iinc 4 1, 3) := by decide +kernel
theorem dX7_change_115 : decode cX7_change 115 = .ok (.goto (-36), 3) := by decide +kernel
theorem dX7_change_118 : decode cX7_change 118 = .ok (.iinc 3 1, 3) := by decide +kernel
theorem dX7_change_121 : decode cX7_change 121 = .ok (.goto (-55), 3) := by decide +kernel
theorem dX7_change_124 : decode cX7_change 124 = .ok (.aload_n 0, 1) := by decide +kernel
theorem dX7_change_125 : decode cX7_change 125 = .ok (.bipush 7, 2) := by decide +kernel
theorem dX7_change_127 : decode cX7_change 127 = .ok (.iload_n 1, 1) := by decide +kernel
theorem dX7_change_128 : decode cX7_change 128 = .ok (.invokevirtual 138, 3) := by decide +kernel
theorem dX7_change_131 : decode cX7_change 131 = .ok (.aload_n 0, 1) := by decide +kernel
theorem dX7_change_132 : decode cX7_change 132 = .ok (.iload_n 1, 1) := by decide +kernel
theorem dX7_change_133 : decode cX7_change 133 = .ok (.invokevirtual 141, 3) := by decide +kernel
theorem dX7_change_136 : decode cX7_change 136 = .ok (.ireturn, 1) := by decide +kernel
noncomputable def f_X7_change_b17  (σ : Hp) : Option (Int32 × Hp) := some ((-1), σ)
set_option maxRecDepth 100000 in
set_option maxHeartbeats 4000000 in
theorem t_X7_change_b17 {l : Launch} {γ : Gm} {ad : Nat → Nat} {K : Option Value → Hp → Prop} (hc : Cx l γ 6 5 ad shM RX7 cX7_change (some .int) K)  {σ : Hp} (h : wpO (f_X7_change_b17  σ) (KI K)) : WW l γ 6 5 ad shM 17 [] [] σ := by
  unfold f_X7_change_b17 at h
  refine r_iconst hc (v := (-1)) (by decide) dX7_change_17 ?_
  have h := wp_v h
  exact r_iret hc h dX7_change_18
noncomputable def f_X7_change_b112 (x0 : Nat) (x1 : Int32) (x2 : Int32) (x3 : Int32) (x4 : Int32) (σ : Hp) : Option (((Int32) ⊕ (Unit)) × Hp) := some (Sum.inl (x4 + 1), σ)
set_option maxRecDepth 100000 in
set_option maxHeartbeats 4000000 in
theorem t_X7_change_b112 {l : Launch} {γ : Gm} {ad : Nat → Nat} {K : Option Value → Hp → Prop} (hc : Cx l γ 6 5 ad shM RX7 cX7_change (some .int) K) {x0 : Nat} {x1 : Int32} {x2 : Int32} {x3 : Int32} {x4 : Int32}  {σ : Hp} {KL : ((Int32) ⊕ (Unit)) → Hp → Prop} (h : wpO (f_X7_change_b112 x0 x1 x2 x3 x4 σ) KL) (kn : ∀ (v : (Int32)) (σ : Hp), KL (Sum.inl v) σ → WW l γ 6 5 ad shM 79 [(0, .ref (ad x0)), (1, .int x1), (2, .int x2), (3, .int x3), (4, .int v)] [] σ) (kx118 : ∀ (v : Unit) (σ : Hp), KL (Sum.inr v) σ → WW l γ 6 5 ad shM 118 [(0, .ref (ad x0)), (1, .int x1), (2, .int x2), (3, .int x3)] [] σ) : WW l γ 6 5 ad shM 112 [(0, .ref (ad x0)), (1, .int x1), (2, .int x2), (3, .int x3), (4, .int x4)] [] σ := by
  unfold f_X7_change_b112 at h
  refine r_iincE hc (j := 4) (w := 1) (lv' := [(4, .int (x4 + 1)), (0, .ref (ad x0)), (1, .int x1), (2, .int x2), (3, .int x3)]) rfl (by decide) rfl (by decide) rfl dX7_change_112 ?_
  refine r_goto hc (tgt := 79) dX7_change_115 (by decide) ?_
  refine r_sub [1, 2, 3, 4, 0] (lv' := [(0, .ref (ad x0)), (1, .int x1), (2, .int x2), (3, .int x3), (4, .int (x4 + 1))]) rfl ?_
  have h := wp_v h
  exact kn (x4 + 1) _ h
noncomputable def f_X7_change_L79 (x0 : Nat) (x1 : Int32) (x2 : Int32) (x3 : Int32) (v : (Int32)) (σ : Hp) : Option (((Int32) ⊕ (Unit)) × Hp) := gO (getR shM 7 x0 0 σ) fun v1 => gO (aldI shM 0 v1 x1 σ) fun v2 => if v2 ≤ v then (some (Sum.inr (), σ)) else (gO (chk shM x0 7) fun _ => bO (f_X7_isThen x0 x1 x3 v x2 σ) fun r3 σ4 => if r3 = 0 then (f_X7_change_b112 x0 x1 x2 x3 v σ4) else (gO (chk shM x0 7) fun _ => bO (f_X7_sets x0 7 x3 v 1 σ4) fun _ σ7 => f_X7_change_b112 x0 x1 x2 x3 v σ7))
set_option maxRecDepth 100000 in
set_option maxHeartbeats 4000000 in
theorem t_X7_change_L79 {l : Launch} {γ : Gm} {ad : Nat → Nat} {K : Option Value → Hp → Prop}  (hc : Cx l γ 6 5 ad shM RX7 cX7_change (some .int) K) {x0 : Nat} {x1 : Int32} {x2 : Int32} {x3 : Int32} {v : (Int32)} {σ : Hp} {KX : (Unit) → Hp → Prop} (h : wpO (wh (f_X7_change_L79 x0 x1 x2 x3) v σ) KX) (kx118 : ∀ (v : Unit) (σ : Hp), KX v σ → WW l γ 6 5 ad shM 118 [(0, .ref (ad x0)), (1, .int x1), (2, .int x2), (3, .int x3)] [] σ) : WW l γ 6 5 ad shM 79 [(0, .ref (ad x0)), (1, .int x1), (2, .int x2), (3, .int x3), (4, .int v)] [] σ := by
  refine wh_W (P := fun v σ => WW l γ 6 5 ad shM 79 [(0, .ref (ad x0)), (1, .int x1), (2, .int x2), (3, .int x3), (4, .int v)] [] σ) (fun v σ h => ?_) h
  have kn : ∀ (v : (Int32)) (σ : Hp), WW l γ 6 5 ad shM 79 [(0, .ref (ad x0)), (1, .int x1), (2, .int x2), (3, .int x3), (4, .int v)] [] σ → WW l γ 6 5 ad shM 79 [(0, .ref (ad x0)), (1, .int x1), (2, .int x2), (3, .int x3), (4, .int v)] [] σ := fun _ _ h => h
  · unfold f_X7_change_L79 at h
    refine r_iload hc 4 rfl dX7_change_79 ?_
    refine r_aload_n hc 0 rfl rfl dX7_change_81 ?_
    obtain ⟨v1, ev1, h⟩ := wp_g h
    refine r_getR hc ev1 fl_X7_7 rfl dX7_change_82 ?_
    refine r_iload_n hc 1 rfl rfl dX7_change_85 ?_
    obtain ⟨v2, ev2, h⟩ := wp_g h
    refine r_iald hc ev2 dX7_change_86 ?_
    refine r_icmp_ge hc (tgt := 118) dX7_change_87 (by decide) (fun c => ?_) (fun c => ?_)
    · have h := wp_t c h
      refine r_sub [0, 1, 2, 3] (lv' := [(0, .ref (ad x0)), (1, .int x1), (2, .int x2), (3, .int x3)]) rfl ?_
      have h := wp_v h
      exact kx118 () _ h
    · have h := wp_f c h
      refine r_aload_n hc 0 rfl rfl dX7_change_90 ?_
      refine r_iload_n hc 1 rfl rfl dX7_change_91 ?_
      refine r_iload_n hc 3 rfl rfl dX7_change_92 ?_
      refine r_iload hc 4 rfl dX7_change_93 ?_
      refine r_iload_n hc 2 rfl rfl dX7_change_95 ?_
      obtain ⟨_, ek5, h⟩ := wp_g h
      obtain ⟨r3, σ4, er3, h⟩ := wp_b h
      refine r_callV hc (k0 := x0) mv_X7_isThen ml_X7_203 (c_X7_isThen er3) (chk_of ek5) cls_7.1 rfl rfl rfl (by decide) rfl (Nat.le_of_ble_eq_true rfl) dX7_change_96 ?_
      refine r_if_eq hc (tgt := 112) dX7_change_99 (by decide) (fun c => ?_) (fun c => ?_)
      · have h := wp_t c h
        exact t_X7_change_b112 hc h kn kx118
      · have h := wp_f c h
        refine r_aload_n hc 0 rfl rfl dX7_change_102 ?_
        refine r_bipush hc (v := 7) (by decide) dX7_change_103 ?_
        refine r_iload_n hc 3 rfl rfl dX7_change_105 ?_
        refine r_iload hc 4 rfl dX7_change_106 ?_
        refine r_iconst hc (v := 1) (by decide) dX7_change_108 ?_
        obtain ⟨_, ek8, h⟩ := wp_g h
        obtain ⟨_, σ7, er6, h⟩ := wp_b h
        refine r_callV hc (k0 := x0) mv_X7_sets ml_X7_128 (c_X7_sets er6) (chk_of ek8) cls_7.1 rfl rfl rfl (by decide) rfl (Nat.le_of_ble_eq_true rfl) dX7_change_109 ?_
        exact t_X7_change_b112 hc h kn kx118
noncomputable def f_X7_change_L66 (x0 : Nat) (x1 : Int32) (x2 : Int32) (v : (Int32)) (σ : Hp) : Option (((Int32) ⊕ (Unit)) × Hp) := gO (getR shM 7 x0 0 σ) fun v1 => gO (aldI shM 0 v1 x1 σ) fun v2 => if v2 ≤ v then (some (Sum.inr (), σ)) else (bO (wh (f_X7_change_L79 x0 x1 x2 v) 0 σ) fun y3 σ4 => (some (Sum.inl (v + 1), σ4)))
set_option maxRecDepth 100000 in
set_option maxHeartbeats 4000000 in
theorem t_X7_change_L66 {l : Launch} {γ : Gm} {ad : Nat → Nat} {K : Option Value → Hp → Prop}  (hc : Cx l γ 6 5 ad shM RX7 cX7_change (some .int) K) {x0 : Nat} {x1 : Int32} {x2 : Int32} {v : (Int32)} {σ : Hp} {KX : (Unit) → Hp → Prop} (h : wpO (wh (f_X7_change_L66 x0 x1 x2) v σ) KX) (kx124 : ∀ (v : Unit) (σ : Hp), KX v σ → WW l γ 6 5 ad shM 124 [(0, .ref (ad x0)), (1, .int x1)] [] σ) : WW l γ 6 5 ad shM 66 [(0, .ref (ad x0)), (1, .int x1), (2, .int x2), (3, .int v)] [] σ := by
  refine wh_W (P := fun v σ => WW l γ 6 5 ad shM 66 [(0, .ref (ad x0)), (1, .int x1), (2, .int x2), (3, .int v)] [] σ) (fun v σ h => ?_) h
  have kn : ∀ (v : (Int32)) (σ : Hp), WW l γ 6 5 ad shM 66 [(0, .ref (ad x0)), (1, .int x1), (2, .int x2), (3, .int v)] [] σ → WW l γ 6 5 ad shM 66 [(0, .ref (ad x0)), (1, .int x1), (2, .int x2), (3, .int v)] [] σ := fun _ _ h => h
  · unfold f_X7_change_L66 at h
    refine r_iload_n hc 3 rfl rfl dX7_change_66 ?_
    refine r_aload_n hc 0 rfl rfl dX7_change_67 ?_
    obtain ⟨v1, ev1, h⟩ := wp_g h
    refine r_getR hc ev1 fl_X7_7 rfl dX7_change_68 ?_
    refine r_iload_n hc 1 rfl rfl dX7_change_71 ?_
    obtain ⟨v2, ev2, h⟩ := wp_g h
    refine r_iald hc ev2 dX7_change_72 ?_
    refine r_icmp_ge hc (tgt := 124) dX7_change_73 (by decide) (fun c => ?_) (fun c => ?_)
    · have h := wp_t c h
      refine r_sub [0, 1] (lv' := [(0, .ref (ad x0)), (1, .int x1)]) rfl ?_
      have h := wp_v h
      exact kx124 () _ h
    · have h := wp_f c h
      refine r_iconst hc (v := 0) (by decide) dX7_change_76 ?_
      refine r_istoreE hc (i := 4) (lv' := [(4, .int 0), (0, .ref (ad x0)), (1, .int x1), (2, .int x2), (3, .int v)]) rfl (by decide) rfl dX7_change_77 ?_
      refine r_sub [1, 2, 3, 4, 0] (lv' := [(0, .ref (ad x0)), (1, .int x1), (2, .int x2), (3, .int v), (4, .int 0)]) rfl ?_
      refine t_X7_change_L79 hc (wp_bb h) ?_
      · intro y3 σ4 h
        refine r_iincE hc (j := 3) (w := 1) (lv' := [(3, .int (v + 1)), (0, .ref (ad x0)), (1, .int x1), (2, .int x2)]) rfl (by decide) rfl (by decide) rfl dX7_change_118 ?_
        refine r_goto hc (tgt := 66) dX7_change_121 (by decide) ?_
        refine r_sub [1, 2, 3, 0] (lv' := [(0, .ref (ad x0)), (1, .int x1), (2, .int x2), (3, .int (v + 1))]) rfl ?_
        have h := wp_v h
        exact kn (v + 1) _ h
noncomputable def f_X7_change_b124 (x0 : Nat) (x1 : Int32) (σ : Hp) : Option (Int32 × Hp) := gO (chk shM x0 7) fun _ => bO (f_X7_copies x0 7 x1 σ) fun _ σ2 => gO (chk shM x0 7) fun _ => bO (f_X7_lines x0 x1 σ2) fun r4 σ5 => some (r4, σ5)
set_option maxRecDepth 100000 in
set_option maxHeartbeats 4000000 in
theorem t_X7_change_b124 {l : Launch} {γ : Gm} {ad : Nat → Nat} {K : Option Value → Hp → Prop} (hc : Cx l γ 6 5 ad shM RX7 cX7_change (some .int) K) {x0 : Nat} {x1 : Int32} {σ : Hp} (h : wpO (f_X7_change_b124 x0 x1 σ) (KI K)) : WW l γ 6 5 ad shM 124 [(0, .ref (ad x0)), (1, .int x1)] [] σ := by
  unfold f_X7_change_b124 at h
  refine r_aload_n hc 0 rfl rfl dX7_change_124 ?_
  refine r_bipush hc (v := 7) (by decide) dX7_change_125 ?_
  refine r_iload_n hc 1 rfl rfl dX7_change_127 ?_
  obtain ⟨_, ek3, h⟩ := wp_g h
  obtain ⟨_, σ2, er1, h⟩ := wp_b h
  refine r_callV hc (k0 := x0) mv_X7_copies ml_X7_138 (c_X7_copies er1) (chk_of ek3) cls_7.1 rfl rfl rfl (by decide) rfl (Nat.le_of_ble_eq_true rfl) dX7_change_128 ?_
  refine r_aload_n hc 0 rfl rfl dX7_change_131 ?_
  refine r_iload_n hc 1 rfl rfl dX7_change_132 ?_
  obtain ⟨_, ek6, h⟩ := wp_g h
  obtain ⟨r4, σ5, er4, h⟩ := wp_b h
  refine r_callV hc (k0 := x0) mv_X7_lines ml_X7_141 (c_X7_lines er4) (chk_of ek6) cls_7.1 rfl rfl rfl (by decide) rfl (Nat.le_of_ble_eq_true rfl) dX7_change_133 ?_
  have h := wp_v h
  exact r_iret hc h dX7_change_136
noncomputable def f_X7_change (x0 : Nat) (x1 : Int32) (x2 : Int32) (σ : Hp) : Option (Int32 × Hp) := bO (f_X7_isDrawer x1 σ) fun r1 σ2 => if r1 = 0 then (f_X7_change_b17  σ2) else (bO (f_X7_in x2 0 6 σ2) fun r3 σ4 => if r3 = 0 then (f_X7_change_b17  σ4) else (gO (chk shM x0 7) fun _ => bO (f_X7_isEmpty x0 x1 σ4) fun r5 σ6 => if r5 = 0 then (if x2 = 5 then (gO (chk shM x0 7) fun _ => bO (f_X7_laysCore x0 x1 σ6) fun _ σ16 => gO (getI shM 7 x0 19 σ16) fun v18 => gO (chk shM x0 7) fun _ => bO (f_X7_parts x0 x1 v18 σ16) fun _ σ20 => f_X7_change_b124 x0 x1 σ20) else (gO (getR shM 7 x0 0 σ6) fun v8 => gO (aldI shM 0 v8 x1 σ6) fun v9 => gO (chk shM x0 7) fun _ => bO (f_X7_begins x0 7 v9 σ6) fun _ σ11 => bO (wh (f_X7_change_L66 x0 x1 x2) 0 σ11) fun y13 σ14 => (f_X7_change_b124 x0 x1 σ14))) else (some ((-2), σ6))))
set_option maxRecDepth 100000 in
set_option maxHeartbeats 4000000 in
theorem t_X7_change {l : Launch} {γ : Gm} {ad : Nat → Nat} {K : Option Value → Hp → Prop} (hc : Cx l γ 6 5 ad shM RX7 cX7_change (some .int) K) {x0 : Nat} {x1 : Int32} {x2 : Int32} {σ : Hp} (h : wpO (f_X7_change x0 x1 x2 σ) (KI K)) : WW l γ 6 5 ad shM 0 [(0, .ref (ad x0)), (1, .int x1), (2, .int x2)] [] σ := by
  unfold f_X7_change at h
  refine r_iload_n hc 1 rfl rfl dX7_change_0 ?_
  obtain ⟨r1, σ2, er1, h⟩ := wp_b h
  refine r_callS hc ms_X7_isDrawer ml_X7_132 (c_X7_isDrawer er1) rfl rfl (by decide) rfl (Nat.le_of_ble_eq_true rfl) dX7_change_1 ?_
  refine r_if_eq hc (tgt := 17) dX7_change_4 (by decide) (fun c => ?_) (fun c => ?_)
  · have h := wp_t c h
    refine r_sub [] (lv' := []) rfl ?_
    exact t_X7_change_b17 hc h
  · have h := wp_f c h
    refine r_iload_n hc 2 rfl rfl dX7_change_7 ?_
    refine r_iconst hc (v := 0) (by decide) dX7_change_8 ?_
    refine r_bipush hc (v := 6) (by decide) dX7_change_9 ?_
    obtain ⟨r3, σ4, er3, h⟩ := wp_b h
    refine r_callS hc ms_X7_in ml_X7_81 (c_X7_in er3) rfl rfl (by decide) rfl (Nat.le_of_ble_eq_true rfl) dX7_change_11 ?_
    refine r_if_ne hc (tgt := 19) dX7_change_14 (by decide) (fun c => ?_) (fun c => ?_)
    · have h := wp_f c h
      refine r_aload_n hc 0 rfl rfl dX7_change_19 ?_
      refine r_iload_n hc 1 rfl rfl dX7_change_20 ?_
      obtain ⟨_, ek7, h⟩ := wp_g h
      obtain ⟨r5, σ6, er5, h⟩ := wp_b h
      refine r_callV hc (k0 := x0) mv_X7_isEmpty ml_X7_85 (c_X7_isEmpty er5) (chk_of ek7) cls_7.1 rfl rfl rfl (by decide) rfl (Nat.le_of_ble_eq_true rfl) dX7_change_21 ?_
      refine r_if_eq hc (tgt := 30) dX7_change_24 (by decide) (fun c => ?_) (fun c => ?_)
      · have h := wp_t c h
        refine r_iload_n hc 2 rfl rfl dX7_change_30 ?_
        refine r_iconst hc (v := 5) (by decide) dX7_change_31 ?_
        refine r_icmp_ne hc (tgt := 52) dX7_change_32 (by decide) (fun c => ?_) (fun c => ?_)
        · have h := wp_f c h
          refine r_aload_n hc 0 rfl rfl dX7_change_52 ?_
          refine r_bipush hc (v := 7) (by decide) dX7_change_53 ?_
          refine r_aload_n hc 0 rfl rfl dX7_change_55 ?_
          obtain ⟨v8, ev8, h⟩ := wp_g h
          refine r_getR hc ev8 fl_X7_7 rfl dX7_change_56 ?_
          refine r_iload_n hc 1 rfl rfl dX7_change_59 ?_
          obtain ⟨v9, ev9, h⟩ := wp_g h
          refine r_iald hc ev9 dX7_change_60 ?_
          obtain ⟨_, ek12, h⟩ := wp_g h
          obtain ⟨_, σ11, er10, h⟩ := wp_b h
          refine r_callV hc (k0 := x0) mv_X7_begins ml_X7_121 (c_X7_begins er10) (chk_of ek12) cls_7.1 rfl rfl rfl (by decide) rfl (Nat.le_of_ble_eq_true rfl) dX7_change_61 ?_
          refine r_iconst hc (v := 0) (by decide) dX7_change_64 ?_
          refine r_istore_nE hc (i := 3) (lv' := [(3, .int 0), (0, .ref (ad x0)), (1, .int x1), (2, .int x2)]) rfl rfl (by decide) rfl dX7_change_65 ?_
          refine r_sub [1, 2, 3, 0] (lv' := [(0, .ref (ad x0)), (1, .int x1), (2, .int x2), (3, .int 0)]) rfl ?_
          refine t_X7_change_L66 hc (wp_bb h) ?_
          · intro y13 σ14 h
            exact t_X7_change_b124 hc h
        · have h := wp_t c h
          refine r_aload_n hc 0 rfl rfl dX7_change_35 ?_
          refine r_iload_n hc 1 rfl rfl dX7_change_36 ?_
          obtain ⟨_, ek17, h⟩ := wp_g h
          obtain ⟨_, σ16, er15, h⟩ := wp_b h
          refine r_callV hc (k0 := x0) mv_X7_laysCore ml_X7_197 (c_X7_laysCore er15) (chk_of ek17) cls_7.1 rfl rfl rfl (by decide) rfl (Nat.le_of_ble_eq_true rfl) dX7_change_37 ?_
          refine r_aload_n hc 0 rfl rfl dX7_change_40 ?_
          refine r_iload_n hc 1 rfl rfl dX7_change_41 ?_
          refine r_aload_n hc 0 rfl rfl dX7_change_42 ?_
          obtain ⟨v18, ev18, h⟩ := wp_g h
          refine r_getI hc ev18 fl_X7_200 rfl dX7_change_43 ?_
          obtain ⟨_, ek21, h⟩ := wp_g h
          obtain ⟨_, σ20, er19, h⟩ := wp_b h
          refine r_callV hc (k0 := x0) mv_X7_parts ml_X7_194 (c_X7_parts er19) (chk_of ek21) cls_7.1 rfl rfl rfl (by decide) rfl (Nat.le_of_ble_eq_true rfl) dX7_change_46 ?_
          refine r_goto hc (tgt := 124) dX7_change_49 (by decide) ?_
          refine r_sub [0, 1] (lv' := [(0, .ref (ad x0)), (1, .int x1)]) rfl ?_
          exact t_X7_change_b124 hc h
      · have h := wp_f c h
        refine r_bipush hc (v := (-2)) (by decide) dX7_change_27 ?_
        have h := wp_v h
        exact r_iret hc h dX7_change_29
    · have h := wp_t c h
      refine r_sub [] (lv' := []) rfl ?_
      exact t_X7_change_b17 hc h
theorem c_X7_change {l : Launch} {x0 : Nat} {x1 : Int32} {x2 : Int32} {σ σ' : Hp} {r : Int32} (h : f_X7_change x0 x1 x2 σ = some (r, σ')) : Mt l yX7_change cX7_change 5 (some .int) 6 shM (fun ad => [.ref (ad x0), .int x1, .int x2]) σ (fun ad => some (.int r)) σ' := mt_i (own := RX7) (by decide) rfl (fun _ => Nat.le_of_ble_eq_true rfl) (fun γ ad K hc hk => t_X7_change hc ⟨_, _, h, hk⟩)

-- NetMapsModel.drawn(IIII)I
theorem dX7_drawn_0 : decode cX7_drawn 0 = .ok (.iload_n 1, 1) := by decide +kernel
theorem dX7_drawn_1 : decode cX7_drawn 1 = .ok (.invokestatic 132, 3) := by decide +kernel
theorem dX7_drawn_4 : decode cX7_drawn 4 = .ok (.ifCond .eq 24, 3) := by decide +kernel
theorem dX7_drawn_7 : decode cX7_drawn 7 = .ok (.iload_n 2, 1) := by decide +kernel
theorem dX7_drawn_8 : decode cX7_drawn 8 = .ok (.iconst 1, 1) := by decide +kernel
theorem dX7_drawn_9 : decode cX7_drawn 9 = .ok (.bipush 7, 2) := by decide +kernel
theorem dX7_drawn_11 : decode cX7_drawn 11 = .ok (.invokestatic 81, 3) := by decide +kernel
theorem dX7_drawn_14 : decode cX7_drawn 14 = .ok (.ifCond .eq 14, 3) := by decide +kernel
theorem dX7_drawn_17 : decode cX7_drawn 17 = .ok (.iload 4, 2) := by decide +kernel
theorem dX7_drawn_19 : decode cX7_drawn 19 = .ok (.iconst 0, 1) := by decide +kernel
theorem dX7_drawn_20 : decode cX7_drawn 20 = .ok (.bipush 10, 2) := by decide +kernel
theorem dX7_drawn_22 : decode cX7_drawn 22 = .ok (.invokestatic 81, 3) := by decide +kernel
theorem dX7_drawn_25 : decode cX7_drawn 25 = .ok (.ifCond .ne 5, 3) := by decide +kernel
theorem dX7_drawn_28 : decode cX7_drawn 28 = .ok (.iconst (-1), 1) := by decide +kernel
theorem dX7_drawn_29 : decode cX7_drawn 29 = .ok (.ireturn, 1) := by decide +kernel
theorem dX7_drawn_30 : decode cX7_drawn 30 = .ok (.aload_n 0, 1) := by decide +kernel
theorem dX7_drawn_31 : decode cX7_drawn 31 = .ok (.iload_n 1, 1) := by decide +kernel
theorem dX7_drawn_32 : decode cX7_drawn 32 = .ok (.iload_n 2, 1) := by decide +kernel
theorem dX7_drawn_33 : decode cX7_drawn 33 = .ok (.invokevirtual 121, 3) := by decide +kernel
theorem dX7_drawn_36 : decode cX7_drawn 36 = .ok (.iload_n 3, 1) := by decide +kernel
theorem dX7_drawn_37 : decode cX7_drawn 37 = .ok (.ldc 206, 2) := by decide +kernel
theorem dX7_drawn_39 : decode cX7_drawn 39 = .ok (.iand, 1) := by decide +kernel
theorem dX7_drawn_40 : decode cX7_drawn 40 = .ok (.istore 5, 2) := by decide +kernel
theorem dX7_drawn_42 : decode cX7_drawn 42 = .ok (.iconst 0, 1) := by decide +kernel
theorem dX7_drawn_43 : decode cX7_drawn 43 = .ok (.istore 6, 2) := by decide +kernel
theorem dX7_drawn_45 : decode cX7_drawn 45 = .ok (.iload 6, 2) := by decide +kernel
theorem dX7_drawn_47 : decode cX7_drawn 47 = .ok (.iload_n 2, 1) := by decide +kernel
theorem dX7_drawn_48 : decode cX7_drawn 48 = .ok (.if_icmp .ge 71, 3) := by decide +kernel
theorem dX7_drawn_51 : decode cX7_drawn 51 = .ok (.iconst 0, 1) := by decide +kernel
theorem dX7_drawn_52 : decode cX7_drawn 52 = .ok (.istore 7, 2) := by decide +kernel
theorem dX7_drawn_54 : decode cX7_drawn 54 = .ok (.iload 7, 2) := by decide +kernel
theorem dX7_drawn_56 : decode cX7_drawn 56 = .ok (.iload_n 2, 1) := by decide +kernel
theorem dX7_drawn_57 : decode cX7_drawn 57 = .ok (.if_icmp .ge 56, 3) := by decide +kernel
theorem dX7_drawn_60 : decode cX7_drawn 60 = .ok (.iload 6, 2) := by decide +kernel
theorem dX7_drawn_62 : decode cX7_drawn 62 = .ok (.iload 7, 2) := by decide +kernel
theorem dX7_drawn_64 : decode cX7_drawn 64 = .ok (.if_icmp .ne 6, 3) := by decide +kernel
theorem dX7_drawn_67 : decode cX7_drawn 67 = .ok (.goto 40, 3) := by decide +kernel
theorem dX7_drawn_70 : decode cX7_drawn 70 = .ok (.sipush 25173, 3) := by decide +kernel
theorem dX7_drawn_73 : decode cX7_drawn 73 = .ok (.iload 5, 2) := by decide +kernel
theorem dX7_drawn_75 : decode cX7_drawn 75 = .ok (.imul, 1) := by decide +kernel
theorem dX7_drawn_76 : decode cX7_drawn 76 = .ok (.sipush 13849, 3) := by decide +kernel
theorem dX7_drawn_79 : decode cX7_drawn 79 = .ok (.iadd, 1) := by decide +kernel
theorem dX7_drawn_80 : decode cX7_drawn 80 = .ok (.ldc 207, 2) := by decide +kernel
theorem dX7_drawn_82 : decode cX7_drawn 82 = .ok (.irem, 1) := by decide +kernel
theorem dX7_drawn_83 : decode cX7_drawn 83 = .ok (.istore 5, 2) := by decide +kernel
theorem dX7_drawn_85 : decode cX7_drawn 85 = .ok (.iload 5, 2) := by decide +kernel
theorem dX7_drawn_87 : decode cX7_drawn 87 = .ok (.iconst 4, 1) := by decide +kernel
theorem dX7_drawn_88 : decode cX7_drawn 88 = .ok (.idiv, 1) := by decide +kernel
theorem dX7_drawn_89 : decode cX7_drawn 89 = .ok (.bipush 10, 2) := by decide +kernel
theorem dX7_drawn_91 : decode cX7_drawn 91 = .ok (.irem, 1) := by decide +kernel
theorem dX7_drawn_92 : decode cX7_drawn 92 = .ok (.iload 4, 2) := by decide +kernel
theorem dX7_drawn_94 : decode cX7_drawn 94 = .ok (.if_icmp .ge 13, 3) := by decide +kernel
theorem dX7_drawn_97 : decode cX7_drawn 97 = .ok (.aload_n 0, 1) := by decide +kernel
theorem dX7_drawn_98 : decode cX7_drawn 98 = .ok (.iload_n 1, 1) := by decide +kernel
theorem dX7_drawn_99 : decode cX7_drawn 99 = .ok (.iload 6, 2) := by decide +kernel
theorem dX7_drawn_101 : decode cX7_drawn 101 = .ok (.iload 7, 2) := by decide +kernel
theorem dX7_drawn_103 : decode cX7_drawn 103 = .ok (.iconst 1, 1) := by decide +kernel
theorem dX7_drawn_104 : decode cX7_drawn 104 = .ok (.invokevirtual 128, 3) := by decide +kernel
theorem dX7_drawn_107 : decode cX7_drawn 107 = .ok (.iinc 7 1, 3) := by decide +kernel
theorem dX7_drawn_110 : decode cX7_drawn 110 = .ok (.goto (-56), 3) := by decide +kernel
theorem dX7_drawn_113 : decode cX7_drawn 113 = .ok (.iinc 6 1, 3) := by decide +kernel
theorem dX7_drawn_116 : decode cX7_drawn 116 = .ok (.goto (-71), 3) := by decide +kernel
theorem dX7_drawn_119 : decode cX7_drawn 119 = .ok (.aload_n 0, 1) := by decide +kernel
theorem dX7_drawn_120 : decode cX7_drawn 120 = .ok (.iload_n 1, 1) := by decide +kernel
theorem dX7_drawn_121 : decode cX7_drawn 121 = .ok (.invokevirtual 141, 3) := by decide +kernel
theorem dX7_drawn_124 : decode cX7_drawn 124 = .ok (.ireturn, 1) := by decide +kernel
noncomputable def f_X7_drawn_b28  (σ : Hp) : Option (Int32 × Hp) := some ((-1), σ)
set_option maxRecDepth 100000 in
set_option maxHeartbeats 4000000 in
theorem t_X7_drawn_b28 {l : Launch} {γ : Gm} {ad : Nat → Nat} {K : Option Value → Hp → Prop} (hc : Cx l γ 3 8 ad shM RX7 cX7_drawn (some .int) K)  {σ : Hp} (h : wpO (f_X7_drawn_b28  σ) (KI K)) : WW l γ 3 8 ad shM 28 [] [] σ := by
  unfold f_X7_drawn_b28 at h
  refine r_iconst hc (v := (-1)) (by decide) dX7_drawn_28 ?_
  have h := wp_v h
  exact r_iret hc h dX7_drawn_29
noncomputable def f_X7_drawn_b107 (x0 : Nat) (x1 : Int32) (x2 : Int32) (x4 : Int32) (x5 : Int32) (x6 : Int32) (x7 : Int32) (σ : Hp) : Option (((Int32 × Int32) ⊕ (Int32)) × Hp) := some (Sum.inl (x5, (x7 + 1)), σ)
set_option maxRecDepth 100000 in
set_option maxHeartbeats 4000000 in
theorem t_X7_drawn_b107 {l : Launch} {γ : Gm} {ad : Nat → Nat} {K : Option Value → Hp → Prop} (hc : Cx l γ 3 8 ad shM RX7 cX7_drawn (some .int) K) {x0 : Nat} {x1 : Int32} {x2 : Int32} {x4 : Int32} {x5 : Int32} {x6 : Int32} {x7 : Int32}  {σ : Hp} {KL : ((Int32 × Int32) ⊕ (Int32)) → Hp → Prop} (h : wpO (f_X7_drawn_b107 x0 x1 x2 x4 x5 x6 x7 σ) KL) (kn : ∀ (v : (Int32 × Int32)) (σ : Hp), KL (Sum.inl v) σ → WW l γ 3 8 ad shM 54 [(0, .ref (ad x0)), (1, .int x1), (2, .int x2), (4, .int x4), (5, .int v.1), (6, .int x6), (7, .int v.2)] [] σ) (kx113 : ∀ (v : Int32) (σ : Hp), KL (Sum.inr v) σ → WW l γ 3 8 ad shM 113 [(0, .ref (ad x0)), (1, .int x1), (2, .int x2), (4, .int x4), (5, .int v), (6, .int x6)] [] σ) : WW l γ 3 8 ad shM 107 [(0, .ref (ad x0)), (1, .int x1), (2, .int x2), (4, .int x4), (5, .int x5), (6, .int x6), (7, .int x7)] [] σ := by
  unfold f_X7_drawn_b107 at h
  refine r_iincE hc (j := 6) (w := 1) (lv' := [(7, .int (x7 + 1)), (0, .ref (ad x0)), (1, .int x1), (2, .int x2), (4, .int x4), (5, .int x5), (6, .int x6)]) rfl (by decide) rfl (by decide) rfl dX7_drawn_107 ?_
  refine r_goto hc (tgt := 54) dX7_drawn_110 (by decide) ?_
  refine r_sub [1, 2, 3, 4, 5, 6, 0] (lv' := [(0, .ref (ad x0)), (1, .int x1), (2, .int x2), (4, .int x4), (5, .int x5), (6, .int x6), (7, .int (x7 + 1))]) rfl ?_
  have h := wp_v h
  exact kn (x5, (x7 + 1)) _ h
noncomputable def f_X7_drawn_L54 (x0 : Nat) (x1 : Int32) (x2 : Int32) (x4 : Int32) (x6 : Int32) (v : (Int32 × Int32)) (σ : Hp) : Option (((Int32 × Int32) ⊕ (Int32)) × Hp) := if x2 ≤ v.2 then (some (Sum.inr v.1, σ)) else (if x6 = v.2 then (f_X7_drawn_b107 x0 x1 x2 x4 v.1 x6 v.2 σ) else (gO (nz 65536) fun z1 => lt' ((irm ((25173 * v.1) + 13849) 65536)) fun t2 => gO (nz 4) fun z3 => gO (nz 10) fun z4 => if x4 ≤ (irm (t2 / 4) 10) then (f_X7_drawn_b107 x0 x1 x2 x4 t2 x6 v.2 σ) else (gO (chk shM x0 7) fun _ => bO (f_X7_sets x0 x1 x6 v.2 1 σ) fun _ σ6 => f_X7_drawn_b107 x0 x1 x2 x4 t2 x6 v.2 σ6)))
set_option maxRecDepth 100000 in
set_option maxHeartbeats 4000000 in
theorem t_X7_drawn_L54 {l : Launch} {γ : Gm} {ad : Nat → Nat} {K : Option Value → Hp → Prop}  (hc : Cx l γ 3 8 ad shM RX7 cX7_drawn (some .int) K) {x0 : Nat} {x1 : Int32} {x2 : Int32} {x4 : Int32} {x6 : Int32} {v : (Int32 × Int32)} {σ : Hp} {KX : (Int32) → Hp → Prop} (h : wpO (wh (f_X7_drawn_L54 x0 x1 x2 x4 x6) v σ) KX) (kx113 : ∀ (v : Int32) (σ : Hp), KX v σ → WW l γ 3 8 ad shM 113 [(0, .ref (ad x0)), (1, .int x1), (2, .int x2), (4, .int x4), (5, .int v), (6, .int x6)] [] σ) : WW l γ 3 8 ad shM 54 [(0, .ref (ad x0)), (1, .int x1), (2, .int x2), (4, .int x4), (5, .int v.1), (6, .int x6), (7, .int v.2)] [] σ := by
  refine wh_W (P := fun v σ => WW l γ 3 8 ad shM 54 [(0, .ref (ad x0)), (1, .int x1), (2, .int x2), (4, .int x4), (5, .int v.1), (6, .int x6), (7, .int v.2)] [] σ) (fun v σ h => ?_) h
  have kn : ∀ (v : (Int32 × Int32)) (σ : Hp), WW l γ 3 8 ad shM 54 [(0, .ref (ad x0)), (1, .int x1), (2, .int x2), (4, .int x4), (5, .int v.1), (6, .int x6), (7, .int v.2)] [] σ → WW l γ 3 8 ad shM 54 [(0, .ref (ad x0)), (1, .int x1), (2, .int x2), (4, .int x4), (5, .int v.1), (6, .int x6), (7, .int v.2)] [] σ := fun _ _ h => h
  · unfold f_X7_drawn_L54 at h
    refine r_iload hc 6 rfl dX7_drawn_54 ?_
    refine r_iload_n hc 2 rfl rfl dX7_drawn_56 ?_
    refine r_icmp_ge hc (tgt := 113) dX7_drawn_57 (by decide) (fun c => ?_) (fun c => ?_)
    · have h := wp_t c h
      refine r_sub [0, 1, 2, 3, 4, 5] (lv' := [(0, .ref (ad x0)), (1, .int x1), (2, .int x2), (4, .int x4), (5, .int v.1), (6, .int x6)]) rfl ?_
      have h := wp_v h
      exact kx113 v.1 _ h
    · have h := wp_f c h
      refine r_iload hc 5 rfl dX7_drawn_60 ?_
      refine r_iload hc 6 rfl dX7_drawn_62 ?_
      refine r_icmp_ne hc (tgt := 70) dX7_drawn_64 (by decide) (fun c => ?_) (fun c => ?_)
      · have h := wp_f c h
        refine r_sipush hc (v := 25173) (by decide) dX7_drawn_70 ?_
        refine r_iload hc 4 rfl dX7_drawn_73 ?_
        refine r_imul hc dX7_drawn_75 ?_
        refine r_sipush hc (v := 13849) (by decide) dX7_drawn_76 ?_
        refine r_iadd hc dX7_drawn_79 ?_
        refine r_ldc hc kc_X7_207 dX7_drawn_80 ?_
        obtain ⟨z1, ez1, h⟩ := wp_g h
        refine r_irem hc ez1 dX7_drawn_82 ?_
        obtain ⟨t2, et2, h⟩ := wp_l h
        refine r_istoreE hc (i := 5) (lv' := [(5, .int t2), (0, .ref (ad x0)), (1, .int x1), (2, .int x2), (4, .int x4), (6, .int x6), (7, .int v.2)]) et2 (by decide) rfl dX7_drawn_83 ?_
        refine r_iload hc 0 rfl dX7_drawn_85 ?_
        refine r_iconst hc (v := 4) (by decide) dX7_drawn_87 ?_
        obtain ⟨z3, ez3, h⟩ := wp_g h
        refine r_idiv hc ez3 dX7_drawn_88 ?_
        refine r_bipush hc (v := 10) (by decide) dX7_drawn_89 ?_
        obtain ⟨z4, ez4, h⟩ := wp_g h
        refine r_irem hc ez4 dX7_drawn_91 ?_
        refine r_iload hc 4 rfl dX7_drawn_92 ?_
        refine r_icmp_ge hc (tgt := 107) dX7_drawn_94 (by decide) (fun c => ?_) (fun c => ?_)
        · have h := wp_t c h
          refine r_sub [1, 2, 3, 4, 0, 5, 6] (lv' := [(0, .ref (ad x0)), (1, .int x1), (2, .int x2), (4, .int x4), (5, .int t2), (6, .int x6), (7, .int v.2)]) rfl ?_
          exact t_X7_drawn_b107 hc h kn kx113
        · have h := wp_f c h
          refine r_aload_n hc 1 rfl rfl dX7_drawn_97 ?_
          refine r_iload_n hc 2 rfl rfl dX7_drawn_98 ?_
          refine r_iload hc 5 rfl dX7_drawn_99 ?_
          refine r_iload hc 6 rfl dX7_drawn_101 ?_
          refine r_iconst hc (v := 1) (by decide) dX7_drawn_103 ?_
          obtain ⟨_, ek7, h⟩ := wp_g h
          obtain ⟨_, σ6, er5, h⟩ := wp_b h
          refine r_callV hc (k0 := x0) mv_X7_sets ml_X7_128 (c_X7_sets er5) (chk_of ek7) cls_7.1 rfl rfl rfl (by decide) rfl (Nat.le_of_ble_eq_true rfl) dX7_drawn_104 ?_
          refine r_sub [1, 2, 3, 4, 0, 5, 6] (lv' := [(0, .ref (ad x0)), (1, .int x1), (2, .int x2), (4, .int x4), (5, .int t2), (6, .int x6), (7, .int v.2)]) rfl ?_
          exact t_X7_drawn_b107 hc h kn kx113
      · have h := wp_t c h
        refine r_goto hc (tgt := 107) dX7_drawn_67 (by decide) ?_
        exact t_X7_drawn_b107 hc h kn kx113
noncomputable def f_X7_drawn_L45 (x0 : Nat) (x1 : Int32) (x2 : Int32) (x4 : Int32) (v : (Int32 × Int32)) (σ : Hp) : Option (((Int32 × Int32) ⊕ (Unit)) × Hp) := if x2 ≤ v.2 then (some (Sum.inr (), σ)) else (bO (wh (f_X7_drawn_L54 x0 x1 x2 x4 v.2) (v.1, 0) σ) fun y1 σ2 => (some (Sum.inl (y1, (v.2 + 1)), σ2)))
set_option maxRecDepth 100000 in
set_option maxHeartbeats 4000000 in
theorem t_X7_drawn_L45 {l : Launch} {γ : Gm} {ad : Nat → Nat} {K : Option Value → Hp → Prop}  (hc : Cx l γ 3 8 ad shM RX7 cX7_drawn (some .int) K) {x0 : Nat} {x1 : Int32} {x2 : Int32} {x4 : Int32} {v : (Int32 × Int32)} {σ : Hp} {KX : (Unit) → Hp → Prop} (h : wpO (wh (f_X7_drawn_L45 x0 x1 x2 x4) v σ) KX) (kx119 : ∀ (v : Unit) (σ : Hp), KX v σ → WW l γ 3 8 ad shM 119 [(0, .ref (ad x0)), (1, .int x1)] [] σ) : WW l γ 3 8 ad shM 45 [(0, .ref (ad x0)), (1, .int x1), (2, .int x2), (4, .int x4), (5, .int v.1), (6, .int v.2)] [] σ := by
  refine wh_W (P := fun v σ => WW l γ 3 8 ad shM 45 [(0, .ref (ad x0)), (1, .int x1), (2, .int x2), (4, .int x4), (5, .int v.1), (6, .int v.2)] [] σ) (fun v σ h => ?_) h
  have kn : ∀ (v : (Int32 × Int32)) (σ : Hp), WW l γ 3 8 ad shM 45 [(0, .ref (ad x0)), (1, .int x1), (2, .int x2), (4, .int x4), (5, .int v.1), (6, .int v.2)] [] σ → WW l γ 3 8 ad shM 45 [(0, .ref (ad x0)), (1, .int x1), (2, .int x2), (4, .int x4), (5, .int v.1), (6, .int v.2)] [] σ := fun _ _ h => h
  · unfold f_X7_drawn_L45 at h
    refine r_iload hc 5 rfl dX7_drawn_45 ?_
    refine r_iload_n hc 2 rfl rfl dX7_drawn_47 ?_
    refine r_icmp_ge hc (tgt := 119) dX7_drawn_48 (by decide) (fun c => ?_) (fun c => ?_)
    · have h := wp_t c h
      refine r_sub [0, 1] (lv' := [(0, .ref (ad x0)), (1, .int x1)]) rfl ?_
      have h := wp_v h
      exact kx119 () _ h
    · have h := wp_f c h
      refine r_iconst hc (v := 0) (by decide) dX7_drawn_51 ?_
      refine r_istoreE hc (i := 7) (lv' := [(7, .int 0), (0, .ref (ad x0)), (1, .int x1), (2, .int x2), (4, .int x4), (5, .int v.1), (6, .int v.2)]) rfl (by decide) rfl dX7_drawn_52 ?_
      refine r_sub [1, 2, 3, 4, 5, 6, 0] (lv' := [(0, .ref (ad x0)), (1, .int x1), (2, .int x2), (4, .int x4), (5, .int v.1), (6, .int v.2), (7, .int 0)]) rfl ?_
      refine t_X7_drawn_L54 hc (wp_bb h) ?_
      · intro y1 σ2 h
        refine r_iincE hc (j := 5) (w := 1) (lv' := [(6, .int (v.2 + 1)), (0, .ref (ad x0)), (1, .int x1), (2, .int x2), (4, .int x4), (5, .int y1)]) rfl (by decide) rfl (by decide) rfl dX7_drawn_113 ?_
        refine r_goto hc (tgt := 45) dX7_drawn_116 (by decide) ?_
        refine r_sub [1, 2, 3, 4, 5, 0] (lv' := [(0, .ref (ad x0)), (1, .int x1), (2, .int x2), (4, .int x4), (5, .int y1), (6, .int (v.2 + 1))]) rfl ?_
        have h := wp_v h
        exact kn (y1, (v.2 + 1)) _ h
noncomputable def f_X7_drawn (x0 : Nat) (x1 : Int32) (x2 : Int32) (x3 : Int32) (x4 : Int32) (σ : Hp) : Option (Int32 × Hp) := bO (f_X7_isDrawer x1 σ) fun r1 σ2 => if r1 = 0 then (f_X7_drawn_b28  σ2) else (bO (f_X7_in x2 1 7 σ2) fun r3 σ4 => if r3 = 0 then (f_X7_drawn_b28  σ4) else (bO (f_X7_in x4 0 10 σ4) fun r5 σ6 => if r5 = 0 then (f_X7_drawn_b28  σ6) else (gO (chk shM x0 7) fun _ => bO (f_X7_begins x0 x1 x2 σ6) fun _ σ8 => bO (wh (f_X7_drawn_L45 x0 x1 x2 x4) ((x3 &&& 65535), 0) σ8) fun y10 σ11 => (gO (chk shM x0 7) fun _ => bO (f_X7_lines x0 x1 σ11) fun r12 σ13 => some (r12, σ13)))))
set_option maxRecDepth 100000 in
set_option maxHeartbeats 4000000 in
theorem t_X7_drawn {l : Launch} {γ : Gm} {ad : Nat → Nat} {K : Option Value → Hp → Prop} (hc : Cx l γ 3 8 ad shM RX7 cX7_drawn (some .int) K) {x0 : Nat} {x1 : Int32} {x2 : Int32} {x3 : Int32} {x4 : Int32} {σ : Hp} (h : wpO (f_X7_drawn x0 x1 x2 x3 x4 σ) (KI K)) : WW l γ 3 8 ad shM 0 [(0, .ref (ad x0)), (1, .int x1), (2, .int x2), (3, .int x3), (4, .int x4)] [] σ := by
  unfold f_X7_drawn at h
  refine r_iload_n hc 1 rfl rfl dX7_drawn_0 ?_
  obtain ⟨r1, σ2, er1, h⟩ := wp_b h
  refine r_callS hc ms_X7_isDrawer ml_X7_132 (c_X7_isDrawer er1) rfl rfl (by decide) rfl (Nat.le_of_ble_eq_true rfl) dX7_drawn_1 ?_
  refine r_if_eq hc (tgt := 28) dX7_drawn_4 (by decide) (fun c => ?_) (fun c => ?_)
  · have h := wp_t c h
    refine r_sub [] (lv' := []) rfl ?_
    exact t_X7_drawn_b28 hc h
  · have h := wp_f c h
    refine r_iload_n hc 2 rfl rfl dX7_drawn_7 ?_
    refine r_iconst hc (v := 1) (by decide) dX7_drawn_8 ?_
    refine r_bipush hc (v := 7) (by decide) dX7_drawn_9 ?_
    obtain ⟨r3, σ4, er3, h⟩ := wp_b h
    refine r_callS hc ms_X7_in ml_X7_81 (c_X7_in er3) rfl rfl (by decide) rfl (Nat.le_of_ble_eq_true rfl) dX7_drawn_11 ?_
    refine r_if_eq hc (tgt := 28) dX7_drawn_14 (by decide) (fun c => ?_) (fun c => ?_)
    · have h := wp_t c h
      refine r_sub [] (lv' := []) rfl ?_
      exact t_X7_drawn_b28 hc h
    · have h := wp_f c h
      refine r_iload hc 4 rfl dX7_drawn_17 ?_
      refine r_iconst hc (v := 0) (by decide) dX7_drawn_19 ?_
      refine r_bipush hc (v := 10) (by decide) dX7_drawn_20 ?_
      obtain ⟨r5, σ6, er5, h⟩ := wp_b h
      refine r_callS hc ms_X7_in ml_X7_81 (c_X7_in er5) rfl rfl (by decide) rfl (Nat.le_of_ble_eq_true rfl) dX7_drawn_22 ?_
      refine r_if_ne hc (tgt := 30) dX7_drawn_25 (by decide) (fun c => ?_) (fun c => ?_)
      · have h := wp_f c h
        refine r_aload_n hc 0 rfl rfl dX7_drawn_30 ?_
        refine r_iload_n hc 1 rfl rfl dX7_drawn_31 ?_
        refine r_iload_n hc 2 rfl rfl dX7_drawn_32 ?_
        obtain ⟨_, ek9, h⟩ := wp_g h
        obtain ⟨_, σ8, er7, h⟩ := wp_b h
        refine r_callV hc (k0 := x0) mv_X7_begins ml_X7_121 (c_X7_begins er7) (chk_of ek9) cls_7.1 rfl rfl rfl (by decide) rfl (Nat.le_of_ble_eq_true rfl) dX7_drawn_33 ?_
        refine r_iload_n hc 3 rfl rfl dX7_drawn_36 ?_
        refine r_ldc hc kc_X7_206 dX7_drawn_37 ?_
        refine r_iand hc dX7_drawn_39 ?_
        refine r_istoreE hc (i := 5) (lv' := [(5, .int (x3 &&& 65535)), (0, .ref (ad x0)), (1, .int x1), (2, .int x2), (3, .int x3), (4, .int x4)]) rfl (by decide) rfl dX7_drawn_40 ?_
        refine r_iconst hc (v := 0) (by decide) dX7_drawn_42 ?_
        refine r_istoreE hc (i := 6) (lv' := [(6, .int 0), (5, .int (x3 &&& 65535)), (0, .ref (ad x0)), (1, .int x1), (2, .int x2), (3, .int x3), (4, .int x4)]) rfl (by decide) rfl dX7_drawn_43 ?_
        refine r_sub [2, 3, 4, 6, 1, 0] (lv' := [(0, .ref (ad x0)), (1, .int x1), (2, .int x2), (4, .int x4), (5, .int (x3 &&& 65535)), (6, .int 0)]) rfl ?_
        refine t_X7_drawn_L45 hc (wp_bb h) ?_
        · intro y10 σ11 h
          refine r_aload_n hc 0 rfl rfl dX7_drawn_119 ?_
          refine r_iload_n hc 1 rfl rfl dX7_drawn_120 ?_
          obtain ⟨_, ek14, h⟩ := wp_g h
          obtain ⟨r12, σ13, er12, h⟩ := wp_b h
          refine r_callV hc (k0 := x0) mv_X7_lines ml_X7_141 (c_X7_lines er12) (chk_of ek14) cls_7.1 rfl rfl rfl (by decide) rfl (Nat.le_of_ble_eq_true rfl) dX7_drawn_121 ?_
          have h := wp_v h
          exact r_iret hc h dX7_drawn_124
      · have h := wp_t c h
        refine r_sub [] (lv' := []) rfl ?_
        exact t_X7_drawn_b28 hc h
theorem c_X7_drawn {l : Launch} {x0 : Nat} {x1 : Int32} {x2 : Int32} {x3 : Int32} {x4 : Int32} {σ σ' : Hp} {r : Int32} (h : f_X7_drawn x0 x1 x2 x3 x4 σ = some (r, σ')) : Mt l yX7_drawn cX7_drawn 8 (some .int) 3 shM (fun ad => [.ref (ad x0), .int x1, .int x2, .int x3, .int x4]) σ (fun ad => some (.int r)) σ' := mt_i (own := RX7) (by decide) rfl (fun _ => Nat.le_of_ble_eq_true rfl) (fun γ ad K hc hk => t_X7_drawn hc ⟨_, _, h, hk⟩)

-- NetMapsModel.hasAllLines()Z
theorem dX7_hasAllLines_0 : decode cX7_hasAllLines 0 = .ok (.iconst 0, 1) := by decide +kernel
theorem dX7_hasAllLines_1 : decode cX7_hasAllLines 1 = .ok (.istore_n 1, 1) := by decide +kernel
theorem dX7_hasAllLines_2 : decode cX7_hasAllLines 2 = .ok (.iconst 0, 1) := by decide +kernel
theorem dX7_hasAllLines_3 : decode cX7_hasAllLines 3 = .ok (.istore_n 2, 1) := by decide +kernel
theorem dX7_hasAllLines_4 : decode cX7_hasAllLines 4 = .ok (.iload_n 2, 1) := by decide +kernel
theorem dX7_hasAllLines_5 : decode cX7_hasAllLines 5 = .ok (.aload_n 0, 1) := by decide +kernel
theorem dX7_hasAllLines_6 : decode cX7_hasAllLines 6 = .ok (.getfield 7, 3) := by decide +kernel
theorem dX7_hasAllLines_9 : decode cX7_hasAllLines 9 = .ok (.aload_n 0, 1) := by decide +kernel
theorem dX7_hasAllLines_10 : decode cX7_hasAllLines 10 = .ok (.getfield 212, 3) := by decide +kernel
theorem dX7_hasAllLines_13 : decode cX7_hasAllLines 13 = .ok (.iaload, 1) := by decide +kernel
theorem dX7_hasAllLines_14 : decode cX7_hasAllLines 14 = .ok (.if_icmp .ge 105, 3) := by decide +kernel
theorem dX7_hasAllLines_17 : decode cX7_hasAllLines 17 = .ok (.iconst 0, 1) := by decide +kernel
theorem dX7_hasAllLines_18 : decode cX7_hasAllLines 18 = .ok (.istore_n 3, 1) := by decide +kernel
theorem dX7_hasAllLines_19 : decode cX7_hasAllLines 19 = .ok (.iconst 0, 1) := by decide +kernel
theorem dX7_hasAllLines_20 : decode cX7_hasAllLines 20 = .ok (.istore 4, 2) := by decide +kernel
theorem dX7_hasAllLines_22 : decode cX7_hasAllLines 22 = .ok (.iload 4, 2) := by decide +kernel
theorem dX7_hasAllLines_24 : decode cX7_hasAllLines 24 = .ok (.aload_n 0, 1) := by decide +kernel
theorem dX7_hasAllLines_25 : decode cX7_hasAllLines 25 = .ok (.getfield 7, 3) := by decide +kernel
theorem dX7_hasAllLines_28 : decode cX7_hasAllLines 28 = .ok (.aload_n 0, 1) := by decide +kernel
theorem dX7_hasAllLines_29 : decode cX7_hasAllLines 29 = .ok (.getfield 215, 3) := by decide +kernel
theorem dX7_hasAllLines_32 : decode cX7_hasAllLines 32 = .ok (.iaload, 1) := by decide +kernel
theorem dX7_hasAllLines_33 : decode cX7_hasAllLines 33 = .ok (.if_icmp .ge 73, 3) := by decide +kernel
theorem dX7_hasAllLines_36 : decode cX7_hasAllLines 36 = .ok (.aload_n 0, 1) := by decide +kernel
theorem dX7_hasAllLines_37 : decode cX7_hasAllLines 37 = .ok (.getfield 29, 3) := by decide +kernel
theorem dX7_hasAllLines_40 : decode cX7_hasAllLines 40 = .ok (.iload 4, 2) := by decide +kernel
theorem dX7_hasAllLines_42 : decode cX7_hasAllLines 42 = .ok (.iaload, 1) := by decide +kernel
theorem dX7_hasAllLines_43 : decode cX7_hasAllLines 43 = .ok (.iload_n 2, 1) := by decide +kernel
theorem dX7_hasAllLines_44 : decode cX7_hasAllLines 44 = .ok (.if_icmp .eq 6, 3) := by decide +kernel
theorem dX7_hasAllLines_47 : decode cX7_hasAllLines 47 = .ok (.goto 53, 3) := by decide +kernel
theorem dX7_hasAllLines_50 : decode cX7_hasAllLines 50 = .ok (.iconst 0, 1) := by decide +kernel
theorem dX7_hasAllLines_51 : decode cX7_hasAllLines 51 = .ok (.istore 5, 2) := by decide +kernel
theorem dX7_hasAllLines_53 : decode cX7_hasAllLines 53 = .ok (.iload 5, 2) := by decide +kernel
theorem dX7_hasAllLines_55 : decode cX7_hasAllLines 55 = .ok (.aload_n 0, 1) := by decide +kernel
theorem dX7_hasAllLines_56 : decode cX7_hasAllLines 56 = .ok (.getfield 7, 3) := by decide +kernel
theorem dX7_hasAllLines_59 : decode cX7_hasAllLines 59 = .ok (.aload_n 0, 1) := by decide +kernel
theorem dX7_hasAllLines_60 : decode cX7_hasAllLines 60 = .ok (.getfield 215, 3) := by decide +kernel
theorem dX7_hasAllLines_63 : decode cX7_hasAllLines 63 = .ok (.iaload, 1) := by decide +kernel
theorem dX7_hasAllLines_64 : decode cX7_hasAllLines 64 = .ok (.if_icmp .ge 36, 3) := by decide +kernel
theorem dX7_hasAllLines_67 : decode cX7_hasAllLines 67 = .ok (.aload_n 0, 1) := by decide +kernel
theorem dX7_hasAllLines_68 : decode cX7_hasAllLines 68 = .ok (.aload_n 0, 1) := by decide +kernel
theorem dX7_hasAllLines_69 : decode cX7_hasAllLines 69 = .ok (.getfield 215, 3) := by decide +kernel
theorem dX7_hasAllLines_72 : decode cX7_hasAllLines 72 = .ok (.iload 4, 2) := by decide +kernel
theorem dX7_hasAllLines_74 : decode cX7_hasAllLines 74 = .ok (.iload 5, 2) := by decide +kernel
theorem dX7_hasAllLines_76 : decode cX7_hasAllLines 76 = .ok (.invokevirtual 125, 3) := by decide +kernel
theorem dX7_hasAllLines_79 : decode cX7_hasAllLines 79 = .ok (.ifCond .eq 15, 3) := by decide +kernel
theorem dX7_hasAllLines_82 : decode cX7_hasAllLines 82 = .ok (.iload_n 3, 1) := by decide +kernel
theorem dX7_hasAllLines_83 : decode cX7_hasAllLines 83 = .ok (.iconst 1, 1) := by decide +kernel
theorem dX7_hasAllLines_84 : decode cX7_hasAllLines 84 = .ok (.aload_n 0, 1) := by decide +kernel
theorem dX7_hasAllLines_85 : decode cX7_hasAllLines 85 = .ok (.getfield 29, 3) := by decide +kernel
theorem dX7_hasAllLines_88 : decode cX7_hasAllLines 88 = .ok (.iload 5, 2) := by decide +kernel
theorem dX7_hasAllLines_90 : decode cX7_hasAllLines 90 = .ok (.iaload, 1) := by decide +kernel
theorem dX7_hasAllLines_91 : decode cX7_hasAllLines 91 = .ok (.ishl, 1) := by decide +kernel
theorem dX7_hasAllLines_92 : decode cX7_hasAllLines 92 = .ok (.ior, 1) := by decide +kernel
theorem dX7_hasAllLines_93 : decode cX7_hasAllLines 93 = .ok (.istore_n 3, 1) := by decide +kernel
theorem dX7_hasAllLines_94 : decode cX7_hasAllLines 94 = .ok (.iinc 5 1, 3) := by decide +kernel
theorem dX7_hasAllLines_97 : decode cX7_hasAllLines 97 = .ok (.goto (-44), 3) := by decide +kernel
theorem dX7_hasAllLines_100 : decode cX7_hasAllLines 100 = .ok (.iinc 4 1, 3) := by decide +kernel
theorem dX7_hasAllLines_103 : decode cX7_hasAllLines 103 = .ok (.goto (-81), 3) := by decide +kernel
theorem dX7_hasAllLines_106 : decode cX7_hasAllLines 106 = .ok (.iload_n 1, 1) := by decide +kernel
theorem dX7_hasAllLines_107 : decode cX7_hasAllLines 107 = .ok (.iload_n 3, 1) := by decide +kernel
theorem dX7_hasAllLines_108 : decode cX7_hasAllLines 108 = .ok (.invokestatic 93, 3) := by decide +kernel
theorem dX7_hasAllLines_111 : decode cX7_hasAllLines 111 = .ok (.iadd, 1) := by decide +kernel
theorem dX7_hasAllLines_112 : decode cX7_hasAllLines 112 = .ok (.istore_n 1, 1) := by decide +kernel
theorem dX7_hasAllLines_113 : decode cX7_hasAllLines 113 = .ok (.iinc 2 1, 3) := by decide +kernel
theorem dX7_hasAllLines_116 : decode cX7_hasAllLines 116 = .ok (.goto (-112), 3) := by decide +kernel
theorem dX7_hasAllLines_119 : decode cX7_hasAllLines 119 = .ok (.iload_n 1, 1) := by decide +kernel
theorem dX7_hasAllLines_120 : decode cX7_hasAllLines 120 = .ok (.aload_n 0, 1) := by decide +kernel
theorem dX7_hasAllLines_121 : decode cX7_hasAllLines 121 = .ok (.aload_n 0, 1) := by decide +kernel
theorem dX7_hasAllLines_122 : decode cX7_hasAllLines 122 = .ok (.getfield 212, 3) := by decide +kernel
theorem dX7_hasAllLines_125 : decode cX7_hasAllLines 125 = .ok (.invokevirtual 141, 3) := by decide +kernel
theorem dX7_hasAllLines_128 : decode cX7_hasAllLines 128 = .ok (.if_icmp .ne 7, 3) := by decide +kernel
theorem dX7_hasAllLines_131 : decode cX7_hasAllLines 131 = .ok (.iconst 1, 1) := by decide +kernel
theorem dX7_hasAllLines_132 : decode cX7_hasAllLines 132 = .ok (.goto 4, 3) := by decide +kernel
theorem dX7_hasAllLines_135 : decode cX7_hasAllLines 135 = .ok (.iconst 0, 1) := by decide +kernel
theorem dX7_hasAllLines_136 : decode cX7_hasAllLines 136 = .ok (.ireturn, 1) := by decide +kernel
noncomputable def f_X7_hasAllLines_b94 (x0 : Nat) (x1 : Int32) (x2 : Int32) (x3 : Int32) (x4 : Int32) (x5 : Int32) (σ : Hp) : Option (((Int32 × Int32) ⊕ (Int32)) × Hp) := some (Sum.inl (x3, (x5 + 1)), σ)
set_option maxRecDepth 100000 in
set_option maxHeartbeats 4000000 in
theorem t_X7_hasAllLines_b94 {l : Launch} {γ : Gm} {ad : Nat → Nat} {K : Option Value → Hp → Prop} (hc : Cx l γ 3 6 ad shM RX7 cX7_hasAllLines (some .boolean) K) {x0 : Nat} {x1 : Int32} {x2 : Int32} {x3 : Int32} {x4 : Int32} {x5 : Int32}  {σ : Hp} {KL : ((Int32 × Int32) ⊕ (Int32)) → Hp → Prop} (h : wpO (f_X7_hasAllLines_b94 x0 x1 x2 x3 x4 x5 σ) KL) (kn : ∀ (v : (Int32 × Int32)) (σ : Hp), KL (Sum.inl v) σ → WW l γ 3 6 ad shM 53 [(0, .ref (ad x0)), (1, .int x1), (2, .int x2), (3, .int v.1), (4, .int x4), (5, .int v.2)] [] σ) (kx100 : ∀ (v : Int32) (σ : Hp), KL (Sum.inr v) σ → WW l γ 3 6 ad shM 100 [(0, .ref (ad x0)), (1, .int x1), (2, .int x2), (3, .int v), (4, .int x4)] [] σ) : WW l γ 3 6 ad shM 94 [(0, .ref (ad x0)), (1, .int x1), (2, .int x2), (3, .int x3), (4, .int x4), (5, .int x5)] [] σ := by
  unfold f_X7_hasAllLines_b94 at h
  refine r_iincE hc (j := 5) (w := 1) (lv' := [(5, .int (x5 + 1)), (0, .ref (ad x0)), (1, .int x1), (2, .int x2), (3, .int x3), (4, .int x4)]) rfl (by decide) rfl (by decide) rfl dX7_hasAllLines_94 ?_
  refine r_goto hc (tgt := 53) dX7_hasAllLines_97 (by decide) ?_
  refine r_sub [1, 2, 3, 4, 5, 0] (lv' := [(0, .ref (ad x0)), (1, .int x1), (2, .int x2), (3, .int x3), (4, .int x4), (5, .int (x5 + 1))]) rfl ?_
  have h := wp_v h
  exact kn (x3, (x5 + 1)) _ h
noncomputable def f_X7_hasAllLines_L53 (x0 : Nat) (x1 : Int32) (x2 : Int32) (x4 : Int32) (v : (Int32 × Int32)) (σ : Hp) : Option (((Int32 × Int32) ⊕ (Int32)) × Hp) := gO (getR shM 7 x0 0 σ) fun v1 => gO (getI shM 7 x0 11 σ) fun v2 => gO (aldI shM 0 v1 v2 σ) fun v3 => if v3 ≤ v.2 then (some (Sum.inr v.1, σ)) else (gO (getI shM 7 x0 11 σ) fun v4 => gO (chk shM x0 7) fun _ => bO (f_X7_isLine x0 v4 x4 v.2 σ) fun r5 σ6 => if r5 = 0 then (f_X7_hasAllLines_b94 x0 x1 x2 v.1 x4 v.2 σ6) else (gO (getR shM 7 x0 9 σ6) fun v8 => gO (aldI shM 0 v8 v.2 σ6) fun v9 => lt' ((v.1 ||| ((1 : Int32) <<< (v9 &&& 31)))) fun t10 => f_X7_hasAllLines_b94 x0 x1 x2 t10 x4 v.2 σ6))
set_option maxRecDepth 100000 in
set_option maxHeartbeats 4000000 in
theorem t_X7_hasAllLines_L53 {l : Launch} {γ : Gm} {ad : Nat → Nat} {K : Option Value → Hp → Prop}  (hc : Cx l γ 3 6 ad shM RX7 cX7_hasAllLines (some .boolean) K) {x0 : Nat} {x1 : Int32} {x2 : Int32} {x4 : Int32} {v : (Int32 × Int32)} {σ : Hp} {KX : (Int32) → Hp → Prop} (h : wpO (wh (f_X7_hasAllLines_L53 x0 x1 x2 x4) v σ) KX) (kx100 : ∀ (v : Int32) (σ : Hp), KX v σ → WW l γ 3 6 ad shM 100 [(0, .ref (ad x0)), (1, .int x1), (2, .int x2), (3, .int v), (4, .int x4)] [] σ) : WW l γ 3 6 ad shM 53 [(0, .ref (ad x0)), (1, .int x1), (2, .int x2), (3, .int v.1), (4, .int x4), (5, .int v.2)] [] σ := by
  refine wh_W (P := fun v σ => WW l γ 3 6 ad shM 53 [(0, .ref (ad x0)), (1, .int x1), (2, .int x2), (3, .int v.1), (4, .int x4), (5, .int v.2)] [] σ) (fun v σ h => ?_) h
  have kn : ∀ (v : (Int32 × Int32)) (σ : Hp), WW l γ 3 6 ad shM 53 [(0, .ref (ad x0)), (1, .int x1), (2, .int x2), (3, .int v.1), (4, .int x4), (5, .int v.2)] [] σ → WW l γ 3 6 ad shM 53 [(0, .ref (ad x0)), (1, .int x1), (2, .int x2), (3, .int v.1), (4, .int x4), (5, .int v.2)] [] σ := fun _ _ h => h
  · unfold f_X7_hasAllLines_L53 at h
    refine r_iload hc 5 rfl dX7_hasAllLines_53 ?_
    refine r_aload_n hc 0 rfl rfl dX7_hasAllLines_55 ?_
    obtain ⟨v1, ev1, h⟩ := wp_g h
    refine r_getR hc ev1 fl_X7_7 rfl dX7_hasAllLines_56 ?_
    refine r_aload_n hc 0 rfl rfl dX7_hasAllLines_59 ?_
    obtain ⟨v2, ev2, h⟩ := wp_g h
    refine r_getI hc ev2 fl_X7_215 rfl dX7_hasAllLines_60 ?_
    obtain ⟨v3, ev3, h⟩ := wp_g h
    refine r_iald hc ev3 dX7_hasAllLines_63 ?_
    refine r_icmp_ge hc (tgt := 100) dX7_hasAllLines_64 (by decide) (fun c => ?_) (fun c => ?_)
    · have h := wp_t c h
      refine r_sub [0, 1, 2, 3, 4] (lv' := [(0, .ref (ad x0)), (1, .int x1), (2, .int x2), (3, .int v.1), (4, .int x4)]) rfl ?_
      have h := wp_v h
      exact kx100 v.1 _ h
    · have h := wp_f c h
      refine r_aload_n hc 0 rfl rfl dX7_hasAllLines_67 ?_
      refine r_aload_n hc 0 rfl rfl dX7_hasAllLines_68 ?_
      obtain ⟨v4, ev4, h⟩ := wp_g h
      refine r_getI hc ev4 fl_X7_215 rfl dX7_hasAllLines_69 ?_
      refine r_iload hc 4 rfl dX7_hasAllLines_72 ?_
      refine r_iload hc 5 rfl dX7_hasAllLines_74 ?_
      obtain ⟨_, ek7, h⟩ := wp_g h
      obtain ⟨r5, σ6, er5, h⟩ := wp_b h
      refine r_callV hc (k0 := x0) mv_X7_isLine ml_X7_125 (c_X7_isLine er5) (chk_of ek7) cls_7.1 rfl rfl rfl (by decide) rfl (Nat.le_of_ble_eq_true rfl) dX7_hasAllLines_76 ?_
      refine r_if_eq hc (tgt := 94) dX7_hasAllLines_79 (by decide) (fun c => ?_) (fun c => ?_)
      · have h := wp_t c h
        exact t_X7_hasAllLines_b94 hc h kn kx100
      · have h := wp_f c h
        refine r_iload_n hc 3 rfl rfl dX7_hasAllLines_82 ?_
        refine r_iconst hc (v := 1) (by decide) dX7_hasAllLines_83 ?_
        refine r_aload_n hc 0 rfl rfl dX7_hasAllLines_84 ?_
        obtain ⟨v8, ev8, h⟩ := wp_g h
        refine r_getR hc ev8 fl_X7_29 rfl dX7_hasAllLines_85 ?_
        refine r_iload hc 5 rfl dX7_hasAllLines_88 ?_
        obtain ⟨v9, ev9, h⟩ := wp_g h
        refine r_iald hc ev9 dX7_hasAllLines_90 ?_
        refine r_ishl hc dX7_hasAllLines_91 ?_
        refine r_ior hc dX7_hasAllLines_92 ?_
        obtain ⟨t10, et10, h⟩ := wp_l h
        refine r_istore_nE hc (i := 3) (lv' := [(3, .int t10), (0, .ref (ad x0)), (1, .int x1), (2, .int x2), (4, .int x4), (5, .int v.2)]) et10 rfl (by decide) rfl dX7_hasAllLines_93 ?_
        refine r_sub [1, 2, 3, 0, 4, 5] (lv' := [(0, .ref (ad x0)), (1, .int x1), (2, .int x2), (3, .int t10), (4, .int x4), (5, .int v.2)]) rfl ?_
        exact t_X7_hasAllLines_b94 hc h kn kx100
noncomputable def f_X7_hasAllLines_b100 (x0 : Nat) (x1 : Int32) (x2 : Int32) (x3 : Int32) (x4 : Int32) (σ : Hp) : Option (((Int32 × Int32) ⊕ (Int32)) × Hp) := some (Sum.inl (x3, (x4 + 1)), σ)
set_option maxRecDepth 100000 in
set_option maxHeartbeats 4000000 in
theorem t_X7_hasAllLines_b100 {l : Launch} {γ : Gm} {ad : Nat → Nat} {K : Option Value → Hp → Prop} (hc : Cx l γ 3 6 ad shM RX7 cX7_hasAllLines (some .boolean) K) {x0 : Nat} {x1 : Int32} {x2 : Int32} {x3 : Int32} {x4 : Int32}  {σ : Hp} {KL : ((Int32 × Int32) ⊕ (Int32)) → Hp → Prop} (h : wpO (f_X7_hasAllLines_b100 x0 x1 x2 x3 x4 σ) KL) (kn : ∀ (v : (Int32 × Int32)) (σ : Hp), KL (Sum.inl v) σ → WW l γ 3 6 ad shM 22 [(0, .ref (ad x0)), (1, .int x1), (2, .int x2), (3, .int v.1), (4, .int v.2)] [] σ) (kx106 : ∀ (v : Int32) (σ : Hp), KL (Sum.inr v) σ → WW l γ 3 6 ad shM 106 [(0, .ref (ad x0)), (1, .int x1), (2, .int x2), (3, .int v)] [] σ) : WW l γ 3 6 ad shM 100 [(0, .ref (ad x0)), (1, .int x1), (2, .int x2), (3, .int x3), (4, .int x4)] [] σ := by
  unfold f_X7_hasAllLines_b100 at h
  refine r_iincE hc (j := 4) (w := 1) (lv' := [(4, .int (x4 + 1)), (0, .ref (ad x0)), (1, .int x1), (2, .int x2), (3, .int x3)]) rfl (by decide) rfl (by decide) rfl dX7_hasAllLines_100 ?_
  refine r_goto hc (tgt := 22) dX7_hasAllLines_103 (by decide) ?_
  refine r_sub [1, 2, 3, 4, 0] (lv' := [(0, .ref (ad x0)), (1, .int x1), (2, .int x2), (3, .int x3), (4, .int (x4 + 1))]) rfl ?_
  have h := wp_v h
  exact kn (x3, (x4 + 1)) _ h
noncomputable def f_X7_hasAllLines_L22 (x0 : Nat) (x1 : Int32) (x2 : Int32) (v : (Int32 × Int32)) (σ : Hp) : Option (((Int32 × Int32) ⊕ (Int32)) × Hp) := gO (getR shM 7 x0 0 σ) fun v1 => gO (getI shM 7 x0 11 σ) fun v2 => gO (aldI shM 0 v1 v2 σ) fun v3 => if v3 ≤ v.2 then (some (Sum.inr v.1, σ)) else (gO (getR shM 7 x0 9 σ) fun v4 => gO (aldI shM 0 v4 v.2 σ) fun v5 => if v5 = x2 then (bO (wh (f_X7_hasAllLines_L53 x0 x1 x2 v.2) (v.1, 0) σ) fun y6 σ7 => (f_X7_hasAllLines_b100 x0 x1 x2 y6 v.2 σ7)) else (f_X7_hasAllLines_b100 x0 x1 x2 v.1 v.2 σ))
set_option maxRecDepth 100000 in
set_option maxHeartbeats 4000000 in
theorem t_X7_hasAllLines_L22 {l : Launch} {γ : Gm} {ad : Nat → Nat} {K : Option Value → Hp → Prop}  (hc : Cx l γ 3 6 ad shM RX7 cX7_hasAllLines (some .boolean) K) {x0 : Nat} {x1 : Int32} {x2 : Int32} {v : (Int32 × Int32)} {σ : Hp} {KX : (Int32) → Hp → Prop} (h : wpO (wh (f_X7_hasAllLines_L22 x0 x1 x2) v σ) KX) (kx106 : ∀ (v : Int32) (σ : Hp), KX v σ → WW l γ 3 6 ad shM 106 [(0, .ref (ad x0)), (1, .int x1), (2, .int x2), (3, .int v)] [] σ) : WW l γ 3 6 ad shM 22 [(0, .ref (ad x0)), (1, .int x1), (2, .int x2), (3, .int v.1), (4, .int v.2)] [] σ := by
  refine wh_W (P := fun v σ => WW l γ 3 6 ad shM 22 [(0, .ref (ad x0)), (1, .int x1), (2, .int x2), (3, .int v.1), (4, .int v.2)] [] σ) (fun v σ h => ?_) h
  have kn : ∀ (v : (Int32 × Int32)) (σ : Hp), WW l γ 3 6 ad shM 22 [(0, .ref (ad x0)), (1, .int x1), (2, .int x2), (3, .int v.1), (4, .int v.2)] [] σ → WW l γ 3 6 ad shM 22 [(0, .ref (ad x0)), (1, .int x1), (2, .int x2), (3, .int v.1), (4, .int v.2)] [] σ := fun _ _ h => h
  · unfold f_X7_hasAllLines_L22 at h
    refine r_iload hc 4 rfl dX7_hasAllLines_22 ?_
    refine r_aload_n hc 0 rfl rfl dX7_hasAllLines_24 ?_
    obtain ⟨v1, ev1, h⟩ := wp_g h
    refine r_getR hc ev1 fl_X7_7 rfl dX7_hasAllLines_25 ?_
    refine r_aload_n hc 0 rfl rfl dX7_hasAllLines_28 ?_
    obtain ⟨v2, ev2, h⟩ := wp_g h
    refine r_getI hc ev2 fl_X7_215 rfl dX7_hasAllLines_29 ?_
    obtain ⟨v3, ev3, h⟩ := wp_g h
    refine r_iald hc ev3 dX7_hasAllLines_32 ?_
    refine r_icmp_ge hc (tgt := 106) dX7_hasAllLines_33 (by decide) (fun c => ?_) (fun c => ?_)
    · have h := wp_t c h
      refine r_sub [0, 1, 2, 3] (lv' := [(0, .ref (ad x0)), (1, .int x1), (2, .int x2), (3, .int v.1)]) rfl ?_
      have h := wp_v h
      exact kx106 v.1 _ h
    · have h := wp_f c h
      refine r_aload_n hc 0 rfl rfl dX7_hasAllLines_36 ?_
      obtain ⟨v4, ev4, h⟩ := wp_g h
      refine r_getR hc ev4 fl_X7_29 rfl dX7_hasAllLines_37 ?_
      refine r_iload hc 4 rfl dX7_hasAllLines_40 ?_
      obtain ⟨v5, ev5, h⟩ := wp_g h
      refine r_iald hc ev5 dX7_hasAllLines_42 ?_
      refine r_iload_n hc 2 rfl rfl dX7_hasAllLines_43 ?_
      refine r_icmp_eq hc (tgt := 50) dX7_hasAllLines_44 (by decide) (fun c => ?_) (fun c => ?_)
      · have h := wp_t c h
        refine r_iconst hc (v := 0) (by decide) dX7_hasAllLines_50 ?_
        refine r_istoreE hc (i := 5) (lv' := [(5, .int 0), (0, .ref (ad x0)), (1, .int x1), (2, .int x2), (3, .int v.1), (4, .int v.2)]) rfl (by decide) rfl dX7_hasAllLines_51 ?_
        refine r_sub [1, 2, 3, 4, 5, 0] (lv' := [(0, .ref (ad x0)), (1, .int x1), (2, .int x2), (3, .int v.1), (4, .int v.2), (5, .int 0)]) rfl ?_
        refine t_X7_hasAllLines_L53 hc (wp_bb h) ?_
        · intro y6 σ7 h
          exact t_X7_hasAllLines_b100 hc h kn kx106
      · have h := wp_f c h
        refine r_goto hc (tgt := 100) dX7_hasAllLines_47 (by decide) ?_
        exact t_X7_hasAllLines_b100 hc h kn kx106
noncomputable def f_X7_hasAllLines_L4 (x0 : Nat) (v : (Int32 × Int32)) (σ : Hp) : Option (((Int32 × Int32) ⊕ (Int32)) × Hp) := gO (getR shM 7 x0 0 σ) fun v1 => gO (getI shM 7 x0 12 σ) fun v2 => gO (aldI shM 0 v1 v2 σ) fun v3 => if v3 ≤ v.2 then (some (Sum.inr v.1, σ)) else (bO (wh (f_X7_hasAllLines_L22 x0 v.1 v.2) (0, 0) σ) fun y4 σ5 => (bO (f_X7_bits y4 σ5) fun r6 σ7 => some (Sum.inl ((v.1 + r6), (v.2 + 1)), σ7)))
set_option maxRecDepth 100000 in
set_option maxHeartbeats 4000000 in
theorem t_X7_hasAllLines_L4 {l : Launch} {γ : Gm} {ad : Nat → Nat} {K : Option Value → Hp → Prop}  (hc : Cx l γ 3 6 ad shM RX7 cX7_hasAllLines (some .boolean) K) {x0 : Nat} {v : (Int32 × Int32)} {σ : Hp} {KX : (Int32) → Hp → Prop} (h : wpO (wh (f_X7_hasAllLines_L4 x0) v σ) KX) (kx119 : ∀ (v : Int32) (σ : Hp), KX v σ → WW l γ 3 6 ad shM 119 [(0, .ref (ad x0)), (1, .int v)] [] σ) : WW l γ 3 6 ad shM 4 [(0, .ref (ad x0)), (1, .int v.1), (2, .int v.2)] [] σ := by
  refine wh_W (P := fun v σ => WW l γ 3 6 ad shM 4 [(0, .ref (ad x0)), (1, .int v.1), (2, .int v.2)] [] σ) (fun v σ h => ?_) h
  have kn : ∀ (v : (Int32 × Int32)) (σ : Hp), WW l γ 3 6 ad shM 4 [(0, .ref (ad x0)), (1, .int v.1), (2, .int v.2)] [] σ → WW l γ 3 6 ad shM 4 [(0, .ref (ad x0)), (1, .int v.1), (2, .int v.2)] [] σ := fun _ _ h => h
  · unfold f_X7_hasAllLines_L4 at h
    refine r_iload_n hc 2 rfl rfl dX7_hasAllLines_4 ?_
    refine r_aload_n hc 0 rfl rfl dX7_hasAllLines_5 ?_
    obtain ⟨v1, ev1, h⟩ := wp_g h
    refine r_getR hc ev1 fl_X7_7 rfl dX7_hasAllLines_6 ?_
    refine r_aload_n hc 0 rfl rfl dX7_hasAllLines_9 ?_
    obtain ⟨v2, ev2, h⟩ := wp_g h
    refine r_getI hc ev2 fl_X7_212 rfl dX7_hasAllLines_10 ?_
    obtain ⟨v3, ev3, h⟩ := wp_g h
    refine r_iald hc ev3 dX7_hasAllLines_13 ?_
    refine r_icmp_ge hc (tgt := 119) dX7_hasAllLines_14 (by decide) (fun c => ?_) (fun c => ?_)
    · have h := wp_t c h
      refine r_sub [0, 1] (lv' := [(0, .ref (ad x0)), (1, .int v.1)]) rfl ?_
      have h := wp_v h
      exact kx119 v.1 _ h
    · have h := wp_f c h
      refine r_iconst hc (v := 0) (by decide) dX7_hasAllLines_17 ?_
      refine r_istore_nE hc (i := 3) (lv' := [(3, .int 0), (0, .ref (ad x0)), (1, .int v.1), (2, .int v.2)]) rfl rfl (by decide) rfl dX7_hasAllLines_18 ?_
      refine r_iconst hc (v := 0) (by decide) dX7_hasAllLines_19 ?_
      refine r_istoreE hc (i := 4) (lv' := [(4, .int 0), (3, .int 0), (0, .ref (ad x0)), (1, .int v.1), (2, .int v.2)]) rfl (by decide) rfl dX7_hasAllLines_20 ?_
      refine r_sub [2, 3, 4, 1, 0] (lv' := [(0, .ref (ad x0)), (1, .int v.1), (2, .int v.2), (3, .int 0), (4, .int 0)]) rfl ?_
      refine t_X7_hasAllLines_L22 hc (wp_bb h) ?_
      · intro y4 σ5 h
        refine r_iload_n hc 1 rfl rfl dX7_hasAllLines_106 ?_
        refine r_iload_n hc 3 rfl rfl dX7_hasAllLines_107 ?_
        obtain ⟨r6, σ7, er6, h⟩ := wp_b h
        refine r_callS hc ms_X7_bits ml_X7_93 (c_X7_bits er6) rfl rfl (by decide) rfl (Nat.le_of_ble_eq_true rfl) dX7_hasAllLines_108 ?_
        refine r_iadd hc dX7_hasAllLines_111 ?_
        refine r_istore_nE hc (i := 1) (lv' := [(1, .int (v.1 + r6)), (0, .ref (ad x0)), (2, .int v.2), (3, .int y4)]) rfl rfl (by decide) rfl dX7_hasAllLines_112 ?_
        refine r_iincE hc (j := 2) (w := 1) (lv' := [(2, .int (v.2 + 1)), (1, .int (v.1 + r6)), (0, .ref (ad x0)), (3, .int y4)]) rfl (by decide) rfl (by decide) rfl dX7_hasAllLines_113 ?_
        refine r_goto hc (tgt := 4) dX7_hasAllLines_116 (by decide) ?_
        refine r_sub [2, 1, 0] (lv' := [(0, .ref (ad x0)), (1, .int (v.1 + r6)), (2, .int (v.2 + 1))]) rfl ?_
        have h := wp_v h
        exact kn ((v.1 + r6), (v.2 + 1)) _ h
noncomputable def f_X7_hasAllLines_b136 (s0 : Int32) (σ : Hp) : Option (Int32 × Hp) := gO (zz s0) fun _ => some (s0, σ)
set_option maxRecDepth 100000 in
set_option maxHeartbeats 4000000 in
theorem t_X7_hasAllLines_b136 {l : Launch} {γ : Gm} {ad : Nat → Nat} {K : Option Value → Hp → Prop} (hc : Cx l γ 3 6 ad shM RX7 cX7_hasAllLines (some .boolean) K) {s0 : Int32} {σ : Hp} (h : wpO (f_X7_hasAllLines_b136 s0 σ) (KI K)) : WW l γ 3 6 ad shM 136 [] [.int s0] σ := by
  unfold f_X7_hasAllLines_b136 at h
  obtain ⟨_, ek1, h⟩ := wp_g h
  have h := wp_v h
  exact r_zret hc h (zz_of ek1) dX7_hasAllLines_136
noncomputable def f_X7_hasAllLines (x0 : Nat) (σ : Hp) : Option (Int32 × Hp) := bO (wh (f_X7_hasAllLines_L4 x0) (0, 0) σ) fun y1 σ2 => (gO (getI shM 7 x0 12 σ2) fun v3 => gO (chk shM x0 7) fun _ => bO (f_X7_lines x0 v3 σ2) fun r4 σ5 => if y1 = r4 then (f_X7_hasAllLines_b136 1 σ5) else (f_X7_hasAllLines_b136 0 σ5))
set_option maxRecDepth 100000 in
set_option maxHeartbeats 4000000 in
theorem t_X7_hasAllLines {l : Launch} {γ : Gm} {ad : Nat → Nat} {K : Option Value → Hp → Prop} (hc : Cx l γ 3 6 ad shM RX7 cX7_hasAllLines (some .boolean) K) {x0 : Nat} {σ : Hp} (h : wpO (f_X7_hasAllLines x0 σ) (KI K)) : WW l γ 3 6 ad shM 0 [(0, .ref (ad x0))] [] σ := by
  unfold f_X7_hasAllLines at h
  refine r_iconst hc (v := 0) (by decide) dX7_hasAllLines_0 ?_
  refine r_istore_nE hc (i := 1) (lv' := [(1, .int 0), (0, .ref (ad x0))]) rfl rfl (by decide) rfl dX7_hasAllLines_1 ?_
  refine r_iconst hc (v := 0) (by decide) dX7_hasAllLines_2 ?_
  refine r_istore_nE hc (i := 2) (lv' := [(2, .int 0), (1, .int 0), (0, .ref (ad x0))]) rfl rfl (by decide) rfl dX7_hasAllLines_3 ?_
  refine r_sub [2, 1, 0] (lv' := [(0, .ref (ad x0)), (1, .int 0), (2, .int 0)]) rfl ?_
  refine t_X7_hasAllLines_L4 hc (wp_bb h) ?_
  · intro y1 σ2 h
    refine r_iload_n hc 1 rfl rfl dX7_hasAllLines_119 ?_
    refine r_aload_n hc 0 rfl rfl dX7_hasAllLines_120 ?_
    refine r_aload_n hc 0 rfl rfl dX7_hasAllLines_121 ?_
    obtain ⟨v3, ev3, h⟩ := wp_g h
    refine r_getI hc ev3 fl_X7_212 rfl dX7_hasAllLines_122 ?_
    obtain ⟨_, ek6, h⟩ := wp_g h
    obtain ⟨r4, σ5, er4, h⟩ := wp_b h
    refine r_callV hc (k0 := x0) mv_X7_lines ml_X7_141 (c_X7_lines er4) (chk_of ek6) cls_7.1 rfl rfl rfl (by decide) rfl (Nat.le_of_ble_eq_true rfl) dX7_hasAllLines_125 ?_
    refine r_icmp_ne hc (tgt := 135) dX7_hasAllLines_128 (by decide) (fun c => ?_) (fun c => ?_)
    · have h := wp_f c h
      refine r_iconst hc (v := 0) (by decide) dX7_hasAllLines_135 ?_
      refine r_sub [] (lv' := []) rfl ?_
      exact t_X7_hasAllLines_b136 hc h
    · have h := wp_t c h
      refine r_iconst hc (v := 1) (by decide) dX7_hasAllLines_131 ?_
      refine r_goto hc (tgt := 136) dX7_hasAllLines_132 (by decide) ?_
      refine r_sub [] (lv' := []) rfl ?_
      exact t_X7_hasAllLines_b136 hc h
theorem c_X7_hasAllLines {l : Launch} {x0 : Nat} {σ σ' : Hp} {r : Int32} (h : f_X7_hasAllLines x0 σ = some (r, σ')) : Mt l yX7_hasAllLines cX7_hasAllLines 6 (some .boolean) 3 shM (fun ad => [.ref (ad x0)]) σ (fun ad => some (.int r)) σ' := mt_i (own := RX7) (by decide) rfl (fun _ => Nat.le_of_ble_eq_true rfl) (fun γ ad K hc hk => t_X7_hasAllLines hc ⟨_, _, h, hk⟩)

-- NetMapsModel.isOf(I)Z
theorem dX7_isOf_0 : decode cX7_isOf 0 = .ok (.aload_n 0, 1) := by decide +kernel
theorem dX7_isOf_1 : decode cX7_isOf 1 = .ok (.invokevirtual 230, 3) := by decide +kernel
theorem dX7_isOf_4 : decode cX7_isOf 4 = .ok (.invokestatic 93, 3) := by decide +kernel
theorem dX7_isOf_7 : decode cX7_isOf 7 = .ok (.istore_n 2, 1) := by decide +kernel
theorem dX7_isOf_8 : decode cX7_isOf 8 = .ok (.iload_n 1, 1) := by decide +kernel
theorem dX7_isOf_9 : decode cX7_isOf 9 = .ok (.tableswitch 97 0 3 #[31, 33, 52, 71], 31) := by decide +kernel
theorem dX7_isOf_40 : decode cX7_isOf 40 = .ok (.iconst 1, 1) := by decide +kernel
theorem dX7_isOf_41 : decode cX7_isOf 41 = .ok (.ireturn, 1) := by decide +kernel
theorem dX7_isOf_42 : decode cX7_isOf 42 = .ok (.iload_n 2, 1) := by decide +kernel
theorem dX7_isOf_43 : decode cX7_isOf 43 = .ok (.aload_n 0, 1) := by decide +kernel
theorem dX7_isOf_44 : decode cX7_isOf 44 = .ok (.getfield 7, 3) := by decide +kernel
theorem dX7_isOf_47 : decode cX7_isOf 47 = .ok (.aload_n 0, 1) := by decide +kernel
theorem dX7_isOf_48 : decode cX7_isOf 48 = .ok (.getfield 215, 3) := by decide +kernel
theorem dX7_isOf_51 : decode cX7_isOf 51 = .ok (.iaload, 1) := by decide +kernel
theorem dX7_isOf_52 : decode cX7_isOf 52 = .ok (.if_icmp .ne 7, 3) := by decide +kernel
theorem dX7_isOf_55 : decode cX7_isOf 55 = .ok (.iconst 1, 1) := by decide +kernel
theorem dX7_isOf_56 : decode cX7_isOf 56 = .ok (.goto 4, 3) := by decide +kernel
theorem dX7_isOf_59 : decode cX7_isOf 59 = .ok (.iconst 0, 1) := by decide +kernel
theorem dX7_isOf_60 : decode cX7_isOf 60 = .ok (.ireturn, 1) := by decide +kernel
theorem dX7_isOf_61 : decode cX7_isOf 61 = .ok (.iload_n 2, 1) := by decide +kernel
theorem dX7_isOf_62 : decode cX7_isOf 62 = .ok (.aload_n 0, 1) := by decide +kernel
theorem dX7_isOf_63 : decode cX7_isOf 63 = .ok (.getfield 7, 3) := by decide +kernel
theorem dX7_isOf_66 : decode cX7_isOf 66 = .ok (.aload_n 0, 1) := by decide +kernel
theorem dX7_isOf_67 : decode cX7_isOf 67 = .ok (.getfield 212, 3) := by decide +kernel
theorem dX7_isOf_70 : decode cX7_isOf 70 = .ok (.iaload, 1) := by decide +kernel
theorem dX7_isOf_71 : decode cX7_isOf 71 = .ok (.if_icmp .ne 7, 3) := by decide +kernel
theorem dX7_isOf_74 : decode cX7_isOf 74 = .ok (.iconst 1, 1) := by decide +kernel
theorem dX7_isOf_75 : decode cX7_isOf 75 = .ok (.goto 4, 3) := by decide +kernel
theorem dX7_isOf_78 : decode cX7_isOf 78 = .ok (.iconst 0, 1) := by decide +kernel
theorem dX7_isOf_79 : decode cX7_isOf 79 = .ok (.ireturn, 1) := by decide +kernel
theorem dX7_isOf_80 : decode cX7_isOf 80 = .ok (.iload_n 2, 1) := by decide +kernel
theorem dX7_isOf_81 : decode cX7_isOf 81 = .ok (.aload_n 0, 1) := by decide +kernel
theorem dX7_isOf_82 : decode cX7_isOf 82 = .ok (.getfield 7, 3) := by decide +kernel
theorem dX7_isOf_85 : decode cX7_isOf 85 = .ok (.aload_n 0, 1) := by decide +kernel
theorem dX7_isOf_86 : decode cX7_isOf 86 = .ok (.getfield 212, 3) := by decide +kernel
theorem dX7_isOf_89 : decode cX7_isOf 89 = .ok (.iaload, 1) := by decide +kernel
theorem dX7_isOf_90 : decode cX7_isOf 90 = .ok (.if_icmp .ne 14, 3) := by decide +kernel
theorem dX7_isOf_93 : decode cX7_isOf 93 = .ok (.aload_n 0, 1) := by decide +kernel
theorem dX7_isOf_94 : decode cX7_isOf 94 = .ok (.invokevirtual 233, 3) := by decide +kernel
theorem dX7_isOf_97 : decode cX7_isOf 97 = .ok (.ifCond .eq 7, 3) := by decide +kernel
theorem dX7_isOf_100 : decode cX7_isOf 100 = .ok (.iconst 1, 1) := by decide +kernel
theorem dX7_isOf_101 : decode cX7_isOf 101 = .ok (.goto 4, 3) := by decide +kernel
theorem dX7_isOf_104 : decode cX7_isOf 104 = .ok (.iconst 0, 1) := by decide +kernel
theorem dX7_isOf_105 : decode cX7_isOf 105 = .ok (.ireturn, 1) := by decide +kernel
theorem dX7_isOf_106 : decode cX7_isOf 106 = .ok (.iload_n 2, 1) := by decide +kernel
theorem dX7_isOf_107 : decode cX7_isOf 107 = .ok (.aload_n 0, 1) := by decide +kernel
theorem dX7_isOf_108 : decode cX7_isOf 108 = .ok (.getfield 7, 3) := by decide +kernel
theorem dX7_isOf_111 : decode cX7_isOf 111 = .ok (.aload_n 0, 1) := by decide +kernel
theorem dX7_isOf_112 : decode cX7_isOf 112 = .ok (.getfield 215, 3) := by decide +kernel
theorem dX7_isOf_115 : decode cX7_isOf 115 = .ok (.iaload, 1) := by decide +kernel
theorem dX7_isOf_116 : decode cX7_isOf 116 = .ok (.if_icmp .ne 39, 3) := by decide +kernel
theorem dX7_isOf_119 : decode cX7_isOf 119 = .ok (.iload_n 2, 1) := by decide +kernel
theorem dX7_isOf_120 : decode cX7_isOf 120 = .ok (.aload_n 0, 1) := by decide +kernel
theorem dX7_isOf_121 : decode cX7_isOf 121 = .ok (.getfield 7, 3) := by decide +kernel
theorem dX7_isOf_124 : decode cX7_isOf 124 = .ok (.aload_n 0, 1) := by decide +kernel
theorem dX7_isOf_125 : decode cX7_isOf 125 = .ok (.getfield 212, 3) := by decide +kernel
theorem dX7_isOf_128 : decode cX7_isOf 128 = .ok (.iaload, 1) := by decide +kernel
theorem dX7_isOf_129 : decode cX7_isOf 129 = .ok (.if_icmp .ne 26, 3) := by decide +kernel
theorem dX7_isOf_132 : decode cX7_isOf 132 = .ok (.aload_n 0, 1) := by decide +kernel
theorem dX7_isOf_133 : decode cX7_isOf 133 = .ok (.aload_n 0, 1) := by decide +kernel
theorem dX7_isOf_134 : decode cX7_isOf 134 = .ok (.getfield 215, 3) := by decide +kernel
theorem dX7_isOf_137 : decode cX7_isOf 137 = .ok (.invokevirtual 141, 3) := by decide +kernel
theorem dX7_isOf_140 : decode cX7_isOf 140 = .ok (.aload_n 0, 1) := by decide +kernel
theorem dX7_isOf_141 : decode cX7_isOf 141 = .ok (.aload_n 0, 1) := by decide +kernel
theorem dX7_isOf_142 : decode cX7_isOf 142 = .ok (.getfield 212, 3) := by decide +kernel
theorem dX7_isOf_145 : decode cX7_isOf 145 = .ok (.invokevirtual 141, 3) := by decide +kernel
theorem dX7_isOf_148 : decode cX7_isOf 148 = .ok (.if_icmp .ne 7, 3) := by decide +kernel
theorem dX7_isOf_151 : decode cX7_isOf 151 = .ok (.iconst 1, 1) := by decide +kernel
theorem dX7_isOf_152 : decode cX7_isOf 152 = .ok (.goto 4, 3) := by decide +kernel
theorem dX7_isOf_155 : decode cX7_isOf 155 = .ok (.iconst 0, 1) := by decide +kernel
theorem dX7_isOf_156 : decode cX7_isOf 156 = .ok (.ireturn, 1) := by decide +kernel
noncomputable def f_X7_isOf_b60 (s0 : Int32) (σ : Hp) : Option (Int32 × Hp) := gO (zz s0) fun _ => some (s0, σ)
set_option maxRecDepth 100000 in
set_option maxHeartbeats 4000000 in
theorem t_X7_isOf_b60 {l : Launch} {γ : Gm} {ad : Nat → Nat} {K : Option Value → Hp → Prop} (hc : Cx l γ 4 3 ad shM RX7 cX7_isOf (some .boolean) K) {s0 : Int32} {σ : Hp} (h : wpO (f_X7_isOf_b60 s0 σ) (KI K)) : WW l γ 4 3 ad shM 60 [] [.int s0] σ := by
  unfold f_X7_isOf_b60 at h
  obtain ⟨_, ek1, h⟩ := wp_g h
  have h := wp_v h
  exact r_zret hc h (zz_of ek1) dX7_isOf_60
noncomputable def f_X7_isOf_b79 (s0 : Int32) (σ : Hp) : Option (Int32 × Hp) := gO (zz s0) fun _ => some (s0, σ)
set_option maxRecDepth 100000 in
set_option maxHeartbeats 4000000 in
theorem t_X7_isOf_b79 {l : Launch} {γ : Gm} {ad : Nat → Nat} {K : Option Value → Hp → Prop} (hc : Cx l γ 4 3 ad shM RX7 cX7_isOf (some .boolean) K) {s0 : Int32} {σ : Hp} (h : wpO (f_X7_isOf_b79 s0 σ) (KI K)) : WW l γ 4 3 ad shM 79 [] [.int s0] σ := by
  unfold f_X7_isOf_b79 at h
  obtain ⟨_, ek1, h⟩ := wp_g h
  have h := wp_v h
  exact r_zret hc h (zz_of ek1) dX7_isOf_79
noncomputable def f_X7_isOf_b105 (s0 : Int32) (σ : Hp) : Option (Int32 × Hp) := gO (zz s0) fun _ => some (s0, σ)
set_option maxRecDepth 100000 in
set_option maxHeartbeats 4000000 in
theorem t_X7_isOf_b105 {l : Launch} {γ : Gm} {ad : Nat → Nat} {K : Option Value → Hp → Prop} (hc : Cx l γ 4 3 ad shM RX7 cX7_isOf (some .boolean) K) {s0 : Int32} {σ : Hp} (h : wpO (f_X7_isOf_b105 s0 σ) (KI K)) : WW l γ 4 3 ad shM 105 [] [.int s0] σ := by
  unfold f_X7_isOf_b105 at h
  obtain ⟨_, ek1, h⟩ := wp_g h
  have h := wp_v h
  exact r_zret hc h (zz_of ek1) dX7_isOf_105
noncomputable def f_X7_isOf_b104  (σ : Hp) : Option (Int32 × Hp) := f_X7_isOf_b105 0 σ
set_option maxRecDepth 100000 in
set_option maxHeartbeats 4000000 in
theorem t_X7_isOf_b104 {l : Launch} {γ : Gm} {ad : Nat → Nat} {K : Option Value → Hp → Prop} (hc : Cx l γ 4 3 ad shM RX7 cX7_isOf (some .boolean) K)  {σ : Hp} (h : wpO (f_X7_isOf_b104  σ) (KI K)) : WW l γ 4 3 ad shM 104 [] [] σ := by
  unfold f_X7_isOf_b104 at h
  refine r_iconst hc (v := 0) (by decide) dX7_isOf_104 ?_
  exact t_X7_isOf_b105 hc h
noncomputable def f_X7_isOf_b156 (s0 : Int32) (σ : Hp) : Option (Int32 × Hp) := gO (zz s0) fun _ => some (s0, σ)
set_option maxRecDepth 100000 in
set_option maxHeartbeats 4000000 in
theorem t_X7_isOf_b156 {l : Launch} {γ : Gm} {ad : Nat → Nat} {K : Option Value → Hp → Prop} (hc : Cx l γ 4 3 ad shM RX7 cX7_isOf (some .boolean) K) {s0 : Int32} {σ : Hp} (h : wpO (f_X7_isOf_b156 s0 σ) (KI K)) : WW l γ 4 3 ad shM 156 [] [.int s0] σ := by
  unfold f_X7_isOf_b156 at h
  obtain ⟨_, ek1, h⟩ := wp_g h
  have h := wp_v h
  exact r_zret hc h (zz_of ek1) dX7_isOf_156
noncomputable def f_X7_isOf_b155  (σ : Hp) : Option (Int32 × Hp) := f_X7_isOf_b156 0 σ
set_option maxRecDepth 100000 in
set_option maxHeartbeats 4000000 in
theorem t_X7_isOf_b155 {l : Launch} {γ : Gm} {ad : Nat → Nat} {K : Option Value → Hp → Prop} (hc : Cx l γ 4 3 ad shM RX7 cX7_isOf (some .boolean) K)  {σ : Hp} (h : wpO (f_X7_isOf_b155  σ) (KI K)) : WW l γ 4 3 ad shM 155 [] [] σ := by
  unfold f_X7_isOf_b155 at h
  refine r_iconst hc (v := 0) (by decide) dX7_isOf_155 ?_
  exact t_X7_isOf_b156 hc h
noncomputable def f_X7_isOf (x0 : Nat) (x1 : Int32) (σ : Hp) : Option (Int32 × Hp) := gO (chk shM x0 7) fun _ => bO (f_X7_became x0 σ) fun r1 σ2 => bO (f_X7_bits r1 σ2) fun r4 σ5 => if x1 = 0 then (some (1, σ5)) else (if x1 = 1 then (gO (getR shM 7 x0 0 σ5) fun v6 => gO (getI shM 7 x0 11 σ5) fun v7 => gO (aldI shM 0 v6 v7 σ5) fun v8 => if r4 = v8 then (f_X7_isOf_b60 1 σ5) else (f_X7_isOf_b60 0 σ5)) else (if x1 = 2 then (gO (getR shM 7 x0 0 σ5) fun v9 => gO (getI shM 7 x0 12 σ5) fun v10 => gO (aldI shM 0 v9 v10 σ5) fun v11 => if r4 = v11 then (f_X7_isOf_b79 1 σ5) else (f_X7_isOf_b79 0 σ5)) else (if x1 = 3 then (gO (getR shM 7 x0 0 σ5) fun v12 => gO (getI shM 7 x0 12 σ5) fun v13 => gO (aldI shM 0 v12 v13 σ5) fun v14 => if r4 = v14 then (gO (chk shM x0 7) fun _ => bO (f_X7_hasAllLines x0 σ5) fun r15 σ16 => if r15 = 0 then (f_X7_isOf_b104  σ16) else (f_X7_isOf_b105 1 σ16)) else (f_X7_isOf_b104  σ5)) else (gO (getR shM 7 x0 0 σ5) fun v18 => gO (getI shM 7 x0 11 σ5) fun v19 => gO (aldI shM 0 v18 v19 σ5) fun v20 => if r4 = v20 then (gO (getR shM 7 x0 0 σ5) fun v21 => gO (getI shM 7 x0 12 σ5) fun v22 => gO (aldI shM 0 v21 v22 σ5) fun v23 => if r4 = v23 then (gO (getI shM 7 x0 11 σ5) fun v24 => gO (chk shM x0 7) fun _ => bO (f_X7_lines x0 v24 σ5) fun r25 σ26 => gO (getI shM 7 x0 12 σ26) fun v28 => gO (chk shM x0 7) fun _ => bO (f_X7_lines x0 v28 σ26) fun r29 σ30 => if r25 = r29 then (f_X7_isOf_b156 1 σ30) else (f_X7_isOf_b155  σ30)) else (f_X7_isOf_b155  σ5)) else (f_X7_isOf_b155  σ5)))))
set_option maxRecDepth 100000 in
set_option maxHeartbeats 4000000 in
theorem t_X7_isOf {l : Launch} {γ : Gm} {ad : Nat → Nat} {K : Option Value → Hp → Prop} (hc : Cx l γ 4 3 ad shM RX7 cX7_isOf (some .boolean) K) {x0 : Nat} {x1 : Int32} {σ : Hp} (h : wpO (f_X7_isOf x0 x1 σ) (KI K)) : WW l γ 4 3 ad shM 0 [(0, .ref (ad x0)), (1, .int x1)] [] σ := by
  unfold f_X7_isOf at h
  refine r_aload_n hc 0 rfl rfl dX7_isOf_0 ?_
  obtain ⟨_, ek3, h⟩ := wp_g h
  obtain ⟨r1, σ2, er1, h⟩ := wp_b h
  refine r_callV hc (k0 := x0) mv_X7_became ml_X7_230 (c_X7_became er1) (chk_of ek3) cls_7.1 rfl rfl rfl (by decide) rfl (Nat.le_of_ble_eq_true rfl) dX7_isOf_1 ?_
  obtain ⟨r4, σ5, er4, h⟩ := wp_b h
  refine r_callS hc ms_X7_bits ml_X7_93 (c_X7_bits er4) rfl rfl (by decide) rfl (Nat.le_of_ble_eq_true rfl) dX7_isOf_4 ?_
  refine r_istore_nE hc (i := 2) (lv' := [(2, .int r4), (0, .ref (ad x0)), (1, .int x1)]) rfl rfl (by decide) rfl dX7_isOf_7 ?_
  refine r_iload_n hc 2 rfl rfl dX7_isOf_8 ?_
  by_cases c0 : x1 = 0
  · have h := wp_t c0 h
    refine r_tabIn hc (off := 31) (tgt := 40) dX7_isOf_9 c0 (by decide) (by decide) (by decide) (by decide) ?_
    refine r_iconst hc (v := 1) (by decide) dX7_isOf_40 ?_
    have h := wp_v h
    exact r_zret hc h (by decide) dX7_isOf_41
  have h := wp_f c0 h
  by_cases c1 : x1 = 1
  · have h := wp_t c1 h
    refine r_tabIn hc (off := 33) (tgt := 42) dX7_isOf_9 c1 (by decide) (by decide) (by decide) (by decide) ?_
    refine r_iload_n hc 0 rfl rfl dX7_isOf_42 ?_
    refine r_aload_n hc 1 rfl rfl dX7_isOf_43 ?_
    obtain ⟨v6, ev6, h⟩ := wp_g h
    refine r_getR hc ev6 fl_X7_7 rfl dX7_isOf_44 ?_
    refine r_aload_n hc 1 rfl rfl dX7_isOf_47 ?_
    obtain ⟨v7, ev7, h⟩ := wp_g h
    refine r_getI hc ev7 fl_X7_215 rfl dX7_isOf_48 ?_
    obtain ⟨v8, ev8, h⟩ := wp_g h
    refine r_iald hc ev8 dX7_isOf_51 ?_
    refine r_icmp_ne hc (tgt := 59) dX7_isOf_52 (by decide) (fun c => ?_) (fun c => ?_)
    · have h := wp_f c h
      refine r_iconst hc (v := 0) (by decide) dX7_isOf_59 ?_
      refine r_sub [] (lv' := []) rfl ?_
      exact t_X7_isOf_b60 hc h
    · have h := wp_t c h
      refine r_iconst hc (v := 1) (by decide) dX7_isOf_55 ?_
      refine r_goto hc (tgt := 60) dX7_isOf_56 (by decide) ?_
      refine r_sub [] (lv' := []) rfl ?_
      exact t_X7_isOf_b60 hc h
  have h := wp_f c1 h
  by_cases c2 : x1 = 2
  · have h := wp_t c2 h
    refine r_tabIn hc (off := 52) (tgt := 61) dX7_isOf_9 c2 (by decide) (by decide) (by decide) (by decide) ?_
    refine r_iload_n hc 0 rfl rfl dX7_isOf_61 ?_
    refine r_aload_n hc 1 rfl rfl dX7_isOf_62 ?_
    obtain ⟨v9, ev9, h⟩ := wp_g h
    refine r_getR hc ev9 fl_X7_7 rfl dX7_isOf_63 ?_
    refine r_aload_n hc 1 rfl rfl dX7_isOf_66 ?_
    obtain ⟨v10, ev10, h⟩ := wp_g h
    refine r_getI hc ev10 fl_X7_212 rfl dX7_isOf_67 ?_
    obtain ⟨v11, ev11, h⟩ := wp_g h
    refine r_iald hc ev11 dX7_isOf_70 ?_
    refine r_icmp_ne hc (tgt := 78) dX7_isOf_71 (by decide) (fun c => ?_) (fun c => ?_)
    · have h := wp_f c h
      refine r_iconst hc (v := 0) (by decide) dX7_isOf_78 ?_
      refine r_sub [] (lv' := []) rfl ?_
      exact t_X7_isOf_b79 hc h
    · have h := wp_t c h
      refine r_iconst hc (v := 1) (by decide) dX7_isOf_74 ?_
      refine r_goto hc (tgt := 79) dX7_isOf_75 (by decide) ?_
      refine r_sub [] (lv' := []) rfl ?_
      exact t_X7_isOf_b79 hc h
  have h := wp_f c2 h
  by_cases c3 : x1 = 3
  · have h := wp_t c3 h
    refine r_tabIn hc (off := 71) (tgt := 80) dX7_isOf_9 c3 (by decide) (by decide) (by decide) (by decide) ?_
    refine r_iload_n hc 0 rfl rfl dX7_isOf_80 ?_
    refine r_aload_n hc 1 rfl rfl dX7_isOf_81 ?_
    obtain ⟨v12, ev12, h⟩ := wp_g h
    refine r_getR hc ev12 fl_X7_7 rfl dX7_isOf_82 ?_
    refine r_aload_n hc 1 rfl rfl dX7_isOf_85 ?_
    obtain ⟨v13, ev13, h⟩ := wp_g h
    refine r_getI hc ev13 fl_X7_212 rfl dX7_isOf_86 ?_
    obtain ⟨v14, ev14, h⟩ := wp_g h
    refine r_iald hc ev14 dX7_isOf_89 ?_
    refine r_icmp_ne hc (tgt := 104) dX7_isOf_90 (by decide) (fun c => ?_) (fun c => ?_)
    · have h := wp_f c h
      refine r_sub [] (lv' := []) rfl ?_
      exact t_X7_isOf_b104 hc h
    · have h := wp_t c h
      refine r_aload_n hc 1 rfl rfl dX7_isOf_93 ?_
      obtain ⟨_, ek17, h⟩ := wp_g h
      obtain ⟨r15, σ16, er15, h⟩ := wp_b h
      refine r_callV hc (k0 := x0) mv_X7_hasAllLines ml_X7_233 (c_X7_hasAllLines er15) (chk_of ek17) cls_7.1 rfl rfl rfl (by decide) rfl (Nat.le_of_ble_eq_true rfl) dX7_isOf_94 ?_
      refine r_if_eq hc (tgt := 104) dX7_isOf_97 (by decide) (fun c => ?_) (fun c => ?_)
      · have h := wp_t c h
        refine r_sub [] (lv' := []) rfl ?_
        exact t_X7_isOf_b104 hc h
      · have h := wp_f c h
        refine r_iconst hc (v := 1) (by decide) dX7_isOf_100 ?_
        refine r_goto hc (tgt := 105) dX7_isOf_101 (by decide) ?_
        refine r_sub [] (lv' := []) rfl ?_
        exact t_X7_isOf_b105 hc h
  have h := wp_f c3 h
  refine r_tabOut hc (tgt := 106) dX7_isOf_9 (sw_out 0 4 (fun i hi => by rcases (show i = 0 ∨ i = 1 ∨ i = 2 ∨ i = 3 by omega) with rfl | rfl | rfl | rfl <;> assumption)) (by decide) ?_
  refine r_iload_n hc 0 rfl rfl dX7_isOf_106 ?_
  refine r_aload_n hc 1 rfl rfl dX7_isOf_107 ?_
  obtain ⟨v18, ev18, h⟩ := wp_g h
  refine r_getR hc ev18 fl_X7_7 rfl dX7_isOf_108 ?_
  refine r_aload_n hc 1 rfl rfl dX7_isOf_111 ?_
  obtain ⟨v19, ev19, h⟩ := wp_g h
  refine r_getI hc ev19 fl_X7_215 rfl dX7_isOf_112 ?_
  obtain ⟨v20, ev20, h⟩ := wp_g h
  refine r_iald hc ev20 dX7_isOf_115 ?_
  refine r_icmp_ne hc (tgt := 155) dX7_isOf_116 (by decide) (fun c => ?_) (fun c => ?_)
  · have h := wp_f c h
    refine r_sub [] (lv' := []) rfl ?_
    exact t_X7_isOf_b155 hc h
  · have h := wp_t c h
    refine r_iload_n hc 0 rfl rfl dX7_isOf_119 ?_
    refine r_aload_n hc 1 rfl rfl dX7_isOf_120 ?_
    obtain ⟨v21, ev21, h⟩ := wp_g h
    refine r_getR hc ev21 fl_X7_7 rfl dX7_isOf_121 ?_
    refine r_aload_n hc 1 rfl rfl dX7_isOf_124 ?_
    obtain ⟨v22, ev22, h⟩ := wp_g h
    refine r_getI hc ev22 fl_X7_212 rfl dX7_isOf_125 ?_
    obtain ⟨v23, ev23, h⟩ := wp_g h
    refine r_iald hc ev23 dX7_isOf_128 ?_
    refine r_icmp_ne hc (tgt := 155) dX7_isOf_129 (by decide) (fun c => ?_) (fun c => ?_)
    · have h := wp_f c h
      refine r_sub [] (lv' := []) rfl ?_
      exact t_X7_isOf_b155 hc h
    · have h := wp_t c h
      refine r_aload_n hc 1 rfl rfl dX7_isOf_132 ?_
      refine r_aload_n hc 1 rfl rfl dX7_isOf_133 ?_
      obtain ⟨v24, ev24, h⟩ := wp_g h
      refine r_getI hc ev24 fl_X7_215 rfl dX7_isOf_134 ?_
      obtain ⟨_, ek27, h⟩ := wp_g h
      obtain ⟨r25, σ26, er25, h⟩ := wp_b h
      refine r_callV hc (k0 := x0) mv_X7_lines ml_X7_141 (c_X7_lines er25) (chk_of ek27) cls_7.1 rfl rfl rfl (by decide) rfl (Nat.le_of_ble_eq_true rfl) dX7_isOf_137 ?_
      refine r_aload_n hc 1 rfl rfl dX7_isOf_140 ?_
      refine r_aload_n hc 1 rfl rfl dX7_isOf_141 ?_
      obtain ⟨v28, ev28, h⟩ := wp_g h
      refine r_getI hc ev28 fl_X7_212 rfl dX7_isOf_142 ?_
      obtain ⟨_, ek31, h⟩ := wp_g h
      obtain ⟨r29, σ30, er29, h⟩ := wp_b h
      refine r_callV hc (k0 := x0) mv_X7_lines ml_X7_141 (c_X7_lines er29) (chk_of ek31) cls_7.1 rfl rfl rfl (by decide) rfl (Nat.le_of_ble_eq_true rfl) dX7_isOf_145 ?_
      refine r_icmp_ne hc (tgt := 155) dX7_isOf_148 (by decide) (fun c => ?_) (fun c => ?_)
      · have h := wp_f c h
        refine r_sub [] (lv' := []) rfl ?_
        exact t_X7_isOf_b155 hc h
      · have h := wp_t c h
        refine r_iconst hc (v := 1) (by decide) dX7_isOf_151 ?_
        refine r_goto hc (tgt := 156) dX7_isOf_152 (by decide) ?_
        refine r_sub [] (lv' := []) rfl ?_
        exact t_X7_isOf_b156 hc h
theorem c_X7_isOf {l : Launch} {x0 : Nat} {x1 : Int32} {σ σ' : Hp} {r : Int32} (h : f_X7_isOf x0 x1 σ = some (r, σ')) : Mt l yX7_isOf cX7_isOf 3 (some .boolean) 4 shM (fun ad => [.ref (ad x0), .int x1]) σ (fun ad => some (.int r)) σ' := mt_i (own := RX7) (by decide) rfl (fun _ => Nat.le_of_ble_eq_true rfl) (fun γ ad K hc hk => t_X7_isOf hc ⟨_, _, h, hk⟩)

-- NetMapsModel.mapsOf(IIZ)I
theorem dX7_mapsOf_0 : decode cX7_mapsOf 0 = .ok (.aload_n 0, 1) := by decide +kernel
theorem dX7_mapsOf_1 : decode cX7_mapsOf 1 = .ok (.iload_n 1, 1) := by decide +kernel
theorem dX7_mapsOf_2 : decode cX7_mapsOf 2 = .ok (.iload_n 2, 1) := by decide +kernel
theorem dX7_mapsOf_3 : decode cX7_mapsOf 3 = .ok (.iload_n 3, 1) := by decide +kernel
theorem dX7_mapsOf_4 : decode cX7_mapsOf 4 = .ok (.invokevirtual 237, 3) := by decide +kernel
theorem dX7_mapsOf_7 : decode cX7_mapsOf 7 = .ok (.iconst 0, 1) := by decide +kernel
theorem dX7_mapsOf_8 : decode cX7_mapsOf 8 = .ok (.istore 4, 2) := by decide +kernel
theorem dX7_mapsOf_10 : decode cX7_mapsOf 10 = .ok (.aload_n 0, 1) := by decide +kernel
theorem dX7_mapsOf_11 : decode cX7_mapsOf 11 = .ok (.invokevirtual 240, 3) := by decide +kernel
theorem dX7_mapsOf_14 : decode cX7_mapsOf 14 = .ok (.ifCond .eq 12, 3) := by decide +kernel
theorem dX7_mapsOf_17 : decode cX7_mapsOf 17 = .ok (.iload 4, 2) := by decide +kernel
theorem dX7_mapsOf_19 : decode cX7_mapsOf 19 = .ok (.iconst 1, 1) := by decide +kernel
theorem dX7_mapsOf_20 : decode cX7_mapsOf 20 = .ok (.iadd, 1) := by decide +kernel
theorem dX7_mapsOf_21 : decode cX7_mapsOf 21 = .ok (.istore 4, 2) := by decide +kernel
theorem dX7_mapsOf_23 : decode cX7_mapsOf 23 = .ok (.goto (-13), 3) := by decide +kernel
theorem dX7_mapsOf_26 : decode cX7_mapsOf 26 = .ok (.iload 4, 2) := by decide +kernel
theorem dX7_mapsOf_28 : decode cX7_mapsOf 28 = .ok (.ireturn, 1) := by decide +kernel
noncomputable def f_X7_mapsOf_L10 (x0 : Nat) (v : (Int32)) (σ : Hp) : Option (((Int32) ⊕ (Int32)) × Hp) := gO (chk shM x0 7) fun _ => bO (f_X7_next x0 σ) fun r1 σ2 => if r1 = 0 then (some (Sum.inr v, σ2)) else (some (Sum.inl (v + 1), σ2))
set_option maxRecDepth 100000 in
set_option maxHeartbeats 4000000 in
theorem t_X7_mapsOf_L10 {l : Launch} {γ : Gm} {ad : Nat → Nat} {K : Option Value → Hp → Prop}  (hc : Cx l γ 5 5 ad shM RX7 cX7_mapsOf (some .int) K) {x0 : Nat} {v : (Int32)} {σ : Hp} {KX : (Int32) → Hp → Prop} (h : wpO (wh (f_X7_mapsOf_L10 x0) v σ) KX) (kx26 : ∀ (v : Int32) (σ : Hp), KX v σ → WW l γ 5 5 ad shM 26 [(4, .int v)] [] σ) : WW l γ 5 5 ad shM 10 [(0, .ref (ad x0)), (4, .int v)] [] σ := by
  refine wh_W (P := fun v σ => WW l γ 5 5 ad shM 10 [(0, .ref (ad x0)), (4, .int v)] [] σ) (fun v σ h => ?_) h
  have kn : ∀ (v : (Int32)) (σ : Hp), WW l γ 5 5 ad shM 10 [(0, .ref (ad x0)), (4, .int v)] [] σ → WW l γ 5 5 ad shM 10 [(0, .ref (ad x0)), (4, .int v)] [] σ := fun _ _ h => h
  · unfold f_X7_mapsOf_L10 at h
    refine r_aload_n hc 0 rfl rfl dX7_mapsOf_10 ?_
    obtain ⟨_, ek3, h⟩ := wp_g h
    obtain ⟨r1, σ2, er1, h⟩ := wp_b h
    refine r_callV hc (k0 := x0) mv_X7_next ml_X7_240 (c_X7_next er1) (chk_of ek3) cls_7.1 rfl rfl rfl (by decide) rfl (Nat.le_of_ble_eq_true rfl) dX7_mapsOf_11 ?_
    refine r_if_eq hc (tgt := 26) dX7_mapsOf_14 (by decide) (fun c => ?_) (fun c => ?_)
    · have h := wp_t c h
      refine r_sub [1] (lv' := [(4, .int v)]) rfl ?_
      have h := wp_v h
      exact kx26 v _ h
    · have h := wp_f c h
      refine r_iload hc 1 rfl dX7_mapsOf_17 ?_
      refine r_iconst hc (v := 1) (by decide) dX7_mapsOf_19 ?_
      refine r_iadd hc dX7_mapsOf_20 ?_
      refine r_istoreE hc (i := 4) (lv' := [(4, .int (v + 1)), (0, .ref (ad x0))]) rfl (by decide) rfl dX7_mapsOf_21 ?_
      refine r_goto hc (tgt := 10) dX7_mapsOf_23 (by decide) ?_
      refine r_sub [1, 0] (lv' := [(0, .ref (ad x0)), (4, .int (v + 1))]) rfl ?_
      have h := wp_v h
      exact kn (v + 1) _ h
noncomputable def f_X7_mapsOf (x0 : Nat) (x1 : Int32) (x2 : Int32) (x3 : Int32) (σ : Hp) : Option (Int32 × Hp) := gO (chk shM x0 7) fun _ => bO (f_X7_starts x0 x1 x2 x3 σ) fun _ σ2 => bO (wh (f_X7_mapsOf_L10 x0) 0 σ2) fun y4 σ5 => (some (y4, σ5))
set_option maxRecDepth 100000 in
set_option maxHeartbeats 4000000 in
theorem t_X7_mapsOf {l : Launch} {γ : Gm} {ad : Nat → Nat} {K : Option Value → Hp → Prop} (hc : Cx l γ 5 5 ad shM RX7 cX7_mapsOf (some .int) K) {x0 : Nat} {x1 : Int32} {x2 : Int32} {x3 : Int32} {σ : Hp} (h : wpO (f_X7_mapsOf x0 x1 x2 x3 σ) (KI K)) : WW l γ 5 5 ad shM 0 [(0, .ref (ad x0)), (1, .int x1), (2, .int x2), (3, .int x3)] [] σ := by
  unfold f_X7_mapsOf at h
  refine r_aload_n hc 0 rfl rfl dX7_mapsOf_0 ?_
  refine r_iload_n hc 1 rfl rfl dX7_mapsOf_1 ?_
  refine r_iload_n hc 2 rfl rfl dX7_mapsOf_2 ?_
  refine r_iload_n hc 3 rfl rfl dX7_mapsOf_3 ?_
  obtain ⟨_, ek3, h⟩ := wp_g h
  obtain ⟨_, σ2, er1, h⟩ := wp_b h
  refine r_callV hc (k0 := x0) mv_X7_starts ml_X7_237 (c_X7_starts er1) (chk_of ek3) cls_7.1 rfl rfl rfl (by decide) rfl (Nat.le_of_ble_eq_true rfl) dX7_mapsOf_4 ?_
  refine r_iconst hc (v := 0) (by decide) dX7_mapsOf_7 ?_
  refine r_istoreE hc (i := 4) (lv' := [(4, .int 0), (0, .ref (ad x0)), (1, .int x1), (2, .int x2), (3, .int x3)]) rfl (by decide) rfl dX7_mapsOf_8 ?_
  refine r_sub [1, 0] (lv' := [(0, .ref (ad x0)), (4, .int 0)]) rfl ?_
  refine t_X7_mapsOf_L10 hc (wp_bb h) ?_
  · intro y4 σ5 h
    refine r_iload hc 0 rfl dX7_mapsOf_26 ?_
    have h := wp_v h
    exact r_iret hc h dX7_mapsOf_28
theorem c_X7_mapsOf {l : Launch} {x0 : Nat} {x1 : Int32} {x2 : Int32} {x3 : Int32} {σ σ' : Hp} {r : Int32} (h : f_X7_mapsOf x0 x1 x2 x3 σ = some (r, σ')) : Mt l yX7_mapsOf cX7_mapsOf 5 (some .int) 5 shM (fun ad => [.ref (ad x0), .int x1, .int x2, .int x3]) σ (fun ad => some (.int r)) σ' := mt_i (own := RX7) (by decide) rfl (fun _ => Nat.le_of_ble_eq_true rfl) (fun γ ad K hc hk => t_X7_mapsOf hc ⟨_, _, h, hk⟩)

-- NetMapsModel.doesFit(II)Z
theorem dX7_doesFit_0 : decode cX7_doesFit 0 = .ok (.aload_n 0, 1) := by decide +kernel
theorem dX7_doesFit_1 : decode cX7_doesFit 1 = .ok (.iload_n 1, 1) := by decide +kernel
theorem dX7_doesFit_2 : decode cX7_doesFit 2 = .ok (.iload_n 2, 1) := by decide +kernel
theorem dX7_doesFit_3 : decode cX7_doesFit 3 = .ok (.iconst 0, 1) := by decide +kernel
theorem dX7_doesFit_4 : decode cX7_doesFit 4 = .ok (.invokevirtual 237, 3) := by decide +kernel
theorem dX7_doesFit_7 : decode cX7_doesFit 7 = .ok (.aload_n 0, 1) := by decide +kernel
theorem dX7_doesFit_8 : decode cX7_doesFit 8 = .ok (.invokevirtual 240, 3) := by decide +kernel
theorem dX7_doesFit_11 : decode cX7_doesFit 11 = .ok (.ireturn, 1) := by decide +kernel
noncomputable def f_X7_doesFit (x0 : Nat) (x1 : Int32) (x2 : Int32) (σ : Hp) : Option (Int32 × Hp) := gO (chk shM x0 7) fun _ => bO (f_X7_starts x0 x1 x2 0 σ) fun _ σ2 => gO (chk shM x0 7) fun _ => bO (f_X7_next x0 σ2) fun r4 σ5 => gO (zz r4) fun _ => some (r4, σ5)
set_option maxRecDepth 100000 in
set_option maxHeartbeats 4000000 in
theorem t_X7_doesFit {l : Launch} {γ : Gm} {ad : Nat → Nat} {K : Option Value → Hp → Prop} (hc : Cx l γ 5 3 ad shM RX7 cX7_doesFit (some .boolean) K) {x0 : Nat} {x1 : Int32} {x2 : Int32} {σ : Hp} (h : wpO (f_X7_doesFit x0 x1 x2 σ) (KI K)) : WW l γ 5 3 ad shM 0 [(0, .ref (ad x0)), (1, .int x1), (2, .int x2)] [] σ := by
  unfold f_X7_doesFit at h
  refine r_aload_n hc 0 rfl rfl dX7_doesFit_0 ?_
  refine r_iload_n hc 1 rfl rfl dX7_doesFit_1 ?_
  refine r_iload_n hc 2 rfl rfl dX7_doesFit_2 ?_
  refine r_iconst hc (v := 0) (by decide) dX7_doesFit_3 ?_
  obtain ⟨_, ek3, h⟩ := wp_g h
  obtain ⟨_, σ2, er1, h⟩ := wp_b h
  refine r_callV hc (k0 := x0) mv_X7_starts ml_X7_237 (c_X7_starts er1) (chk_of ek3) cls_7.1 rfl rfl rfl (by decide) rfl (Nat.le_of_ble_eq_true rfl) dX7_doesFit_4 ?_
  refine r_aload_n hc 0 rfl rfl dX7_doesFit_7 ?_
  obtain ⟨_, ek6, h⟩ := wp_g h
  obtain ⟨r4, σ5, er4, h⟩ := wp_b h
  refine r_callV hc (k0 := x0) mv_X7_next ml_X7_240 (c_X7_next er4) (chk_of ek6) cls_7.1 rfl rfl rfl (by decide) rfl (Nat.le_of_ble_eq_true rfl) dX7_doesFit_8 ?_
  obtain ⟨_, ek7, h⟩ := wp_g h
  have h := wp_v h
  exact r_zret hc h (zz_of ek7) dX7_doesFit_11
theorem c_X7_doesFit {l : Launch} {x0 : Nat} {x1 : Int32} {x2 : Int32} {σ σ' : Hp} {r : Int32} (h : f_X7_doesFit x0 x1 x2 σ = some (r, σ')) : Mt l yX7_doesFit cX7_doesFit 3 (some .boolean) 5 shM (fun ad => [.ref (ad x0), .int x1, .int x2]) σ (fun ad => some (.int r)) σ' := mt_i (own := RX7) (by decide) rfl (fun _ => Nat.le_of_ble_eq_true rfl) (fun γ ad K hc hk => t_X7_doesFit hc ⟨_, _, h, hk⟩)

-- NetMapsModel.stands(IIIZ)Z
theorem dX7_stands_0 : decode cX7_stands 0 = .ok (.aload_n 0, 1) := by decide +kernel
theorem dX7_stands_1 : decode cX7_stands 1 = .ok (.iload_n 1, 1) := by decide +kernel
theorem dX7_stands_2 : decode cX7_stands 2 = .ok (.iload_n 2, 1) := by decide +kernel
theorem dX7_stands_3 : decode cX7_stands 3 = .ok (.iload 4, 2) := by decide +kernel
theorem dX7_stands_5 : decode cX7_stands 5 = .ok (.invokevirtual 237, 3) := by decide +kernel
theorem dX7_stands_8 : decode cX7_stands 8 = .ok (.aload_n 0, 1) := by decide +kernel
theorem dX7_stands_9 : decode cX7_stands 9 = .ok (.invokevirtual 240, 3) := by decide +kernel
theorem dX7_stands_12 : decode cX7_stands 12 = .ok (.istore 5, 2) := by decide +kernel
theorem dX7_stands_14 : decode cX7_stands 14 = .ok (.iconst 0, 1) := by decide +kernel
theorem dX7_stands_15 : decode cX7_stands 15 = .ok (.istore 6, 2) := by decide +kernel
theorem dX7_stands_17 : decode cX7_stands 17 = .ok (.iload 6, 2) := by decide +kernel
theorem dX7_stands_19 : decode cX7_stands 19 = .ok (.iload_n 3, 1) := by decide +kernel
theorem dX7_stands_20 : decode cX7_stands 20 = .ok (.if_icmp .ge 20, 3) := by decide +kernel
theorem dX7_stands_23 : decode cX7_stands 23 = .ok (.iload 5, 2) := by decide +kernel
theorem dX7_stands_25 : decode cX7_stands 25 = .ok (.ifCond .eq 15, 3) := by decide +kernel
theorem dX7_stands_28 : decode cX7_stands 28 = .ok (.aload_n 0, 1) := by decide +kernel
theorem dX7_stands_29 : decode cX7_stands 29 = .ok (.invokevirtual 240, 3) := by decide +kernel
theorem dX7_stands_32 : decode cX7_stands 32 = .ok (.istore 5, 2) := by decide +kernel
theorem dX7_stands_34 : decode cX7_stands 34 = .ok (.iinc 6 1, 3) := by decide +kernel
theorem dX7_stands_37 : decode cX7_stands 37 = .ok (.goto (-20), 3) := by decide +kernel
theorem dX7_stands_40 : decode cX7_stands 40 = .ok (.iload 5, 2) := by decide +kernel
theorem dX7_stands_42 : decode cX7_stands 42 = .ok (.ireturn, 1) := by decide +kernel
noncomputable def f_X7_stands_L17 (x0 : Nat) (x3 : Int32) (v : (Int32 × Int32)) (σ : Hp) : Option (((Int32 × Int32) ⊕ (Int32)) × Hp) := if x3 ≤ v.2 then (some (Sum.inr v.1, σ)) else (if v.1 = 0 then (some (Sum.inr v.1, σ)) else (gO (chk shM x0 7) fun _ => bO (f_X7_next x0 σ) fun r1 σ2 => some (Sum.inl (r1, (v.2 + 1)), σ2)))
set_option maxRecDepth 100000 in
set_option maxHeartbeats 4000000 in
theorem t_X7_stands_L17 {l : Launch} {γ : Gm} {ad : Nat → Nat} {K : Option Value → Hp → Prop}  (hc : Cx l γ 5 7 ad shM RX7 cX7_stands (some .boolean) K) {x0 : Nat} {x3 : Int32} {v : (Int32 × Int32)} {σ : Hp} {KX : (Int32) → Hp → Prop} (h : wpO (wh (f_X7_stands_L17 x0 x3) v σ) KX) (kx40 : ∀ (v : Int32) (σ : Hp), KX v σ → WW l γ 5 7 ad shM 40 [(5, .int v)] [] σ) : WW l γ 5 7 ad shM 17 [(0, .ref (ad x0)), (3, .int x3), (5, .int v.1), (6, .int v.2)] [] σ := by
  refine wh_W (P := fun v σ => WW l γ 5 7 ad shM 17 [(0, .ref (ad x0)), (3, .int x3), (5, .int v.1), (6, .int v.2)] [] σ) (fun v σ h => ?_) h
  have kn : ∀ (v : (Int32 × Int32)) (σ : Hp), WW l γ 5 7 ad shM 17 [(0, .ref (ad x0)), (3, .int x3), (5, .int v.1), (6, .int v.2)] [] σ → WW l γ 5 7 ad shM 17 [(0, .ref (ad x0)), (3, .int x3), (5, .int v.1), (6, .int v.2)] [] σ := fun _ _ h => h
  · unfold f_X7_stands_L17 at h
    refine r_iload hc 3 rfl dX7_stands_17 ?_
    refine r_iload_n hc 1 rfl rfl dX7_stands_19 ?_
    refine r_icmp_ge hc (tgt := 40) dX7_stands_20 (by decide) (fun c => ?_) (fun c => ?_)
    · have h := wp_t c h
      refine r_sub [2] (lv' := [(5, .int v.1)]) rfl ?_
      have h := wp_v h
      exact kx40 v.1 _ h
    · have h := wp_f c h
      refine r_iload hc 2 rfl dX7_stands_23 ?_
      refine r_if_eq hc (tgt := 40) dX7_stands_25 (by decide) (fun c => ?_) (fun c => ?_)
      · have h := wp_t c h
        refine r_sub [2] (lv' := [(5, .int v.1)]) rfl ?_
        have h := wp_v h
        exact kx40 v.1 _ h
      · have h := wp_f c h
        refine r_aload_n hc 0 rfl rfl dX7_stands_28 ?_
        obtain ⟨_, ek3, h⟩ := wp_g h
        obtain ⟨r1, σ2, er1, h⟩ := wp_b h
        refine r_callV hc (k0 := x0) mv_X7_next ml_X7_240 (c_X7_next er1) (chk_of ek3) cls_7.1 rfl rfl rfl (by decide) rfl (Nat.le_of_ble_eq_true rfl) dX7_stands_29 ?_
        refine r_istoreE hc (i := 5) (lv' := [(5, .int r1), (0, .ref (ad x0)), (3, .int x3), (6, .int v.2)]) rfl (by decide) rfl dX7_stands_32 ?_
        refine r_iincE hc (j := 3) (w := 1) (lv' := [(6, .int (v.2 + 1)), (5, .int r1), (0, .ref (ad x0)), (3, .int x3)]) rfl (by decide) rfl (by decide) rfl dX7_stands_34 ?_
        refine r_goto hc (tgt := 17) dX7_stands_37 (by decide) ?_
        refine r_sub [2, 3, 1, 0] (lv' := [(0, .ref (ad x0)), (3, .int x3), (5, .int r1), (6, .int (v.2 + 1))]) rfl ?_
        have h := wp_v h
        exact kn (r1, (v.2 + 1)) _ h
noncomputable def f_X7_stands_b40 (x5 : Int32) (σ : Hp) : Option (Int32 × Hp) := gO (zz x5) fun _ => some (x5, σ)
set_option maxRecDepth 100000 in
set_option maxHeartbeats 4000000 in
theorem t_X7_stands_b40 {l : Launch} {γ : Gm} {ad : Nat → Nat} {K : Option Value → Hp → Prop} (hc : Cx l γ 5 7 ad shM RX7 cX7_stands (some .boolean) K) {x5 : Int32} {σ : Hp} (h : wpO (f_X7_stands_b40 x5 σ) (KI K)) : WW l γ 5 7 ad shM 40 [(5, .int x5)] [] σ := by
  unfold f_X7_stands_b40 at h
  refine r_iload hc 0 rfl dX7_stands_40 ?_
  obtain ⟨_, ek1, h⟩ := wp_g h
  have h := wp_v h
  exact r_zret hc h (zz_of ek1) dX7_stands_42
noncomputable def f_X7_stands (x0 : Nat) (x1 : Int32) (x2 : Int32) (x3 : Int32) (x4 : Int32) (σ : Hp) : Option (Int32 × Hp) := gO (chk shM x0 7) fun _ => bO (f_X7_starts x0 x1 x2 x4 σ) fun _ σ2 => gO (chk shM x0 7) fun _ => bO (f_X7_next x0 σ2) fun r4 σ5 => bO (wh (f_X7_stands_L17 x0 x3) (r4, 0) σ5) fun y7 σ8 => (f_X7_stands_b40 y7 σ8)
set_option maxRecDepth 100000 in
set_option maxHeartbeats 4000000 in
theorem t_X7_stands {l : Launch} {γ : Gm} {ad : Nat → Nat} {K : Option Value → Hp → Prop} (hc : Cx l γ 5 7 ad shM RX7 cX7_stands (some .boolean) K) {x0 : Nat} {x1 : Int32} {x2 : Int32} {x3 : Int32} {x4 : Int32} {σ : Hp} (h : wpO (f_X7_stands x0 x1 x2 x3 x4 σ) (KI K)) : WW l γ 5 7 ad shM 0 [(0, .ref (ad x0)), (1, .int x1), (2, .int x2), (3, .int x3), (4, .int x4)] [] σ := by
  unfold f_X7_stands at h
  refine r_aload_n hc 0 rfl rfl dX7_stands_0 ?_
  refine r_iload_n hc 1 rfl rfl dX7_stands_1 ?_
  refine r_iload_n hc 2 rfl rfl dX7_stands_2 ?_
  refine r_iload hc 4 rfl dX7_stands_3 ?_
  obtain ⟨_, ek3, h⟩ := wp_g h
  obtain ⟨_, σ2, er1, h⟩ := wp_b h
  refine r_callV hc (k0 := x0) mv_X7_starts ml_X7_237 (c_X7_starts er1) (chk_of ek3) cls_7.1 rfl rfl rfl (by decide) rfl (Nat.le_of_ble_eq_true rfl) dX7_stands_5 ?_
  refine r_aload_n hc 0 rfl rfl dX7_stands_8 ?_
  obtain ⟨_, ek6, h⟩ := wp_g h
  obtain ⟨r4, σ5, er4, h⟩ := wp_b h
  refine r_callV hc (k0 := x0) mv_X7_next ml_X7_240 (c_X7_next er4) (chk_of ek6) cls_7.1 rfl rfl rfl (by decide) rfl (Nat.le_of_ble_eq_true rfl) dX7_stands_9 ?_
  refine r_istoreE hc (i := 5) (lv' := [(5, .int r4), (0, .ref (ad x0)), (1, .int x1), (2, .int x2), (3, .int x3), (4, .int x4)]) rfl (by decide) rfl dX7_stands_12 ?_
  refine r_iconst hc (v := 0) (by decide) dX7_stands_14 ?_
  refine r_istoreE hc (i := 6) (lv' := [(6, .int 0), (5, .int r4), (0, .ref (ad x0)), (1, .int x1), (2, .int x2), (3, .int x3), (4, .int x4)]) rfl (by decide) rfl dX7_stands_15 ?_
  refine r_sub [2, 5, 1, 0] (lv' := [(0, .ref (ad x0)), (3, .int x3), (5, .int r4), (6, .int 0)]) rfl ?_
  refine t_X7_stands_L17 hc (wp_bb h) ?_
  · intro y7 σ8 h
    exact t_X7_stands_b40 hc h
theorem c_X7_stands {l : Launch} {x0 : Nat} {x1 : Int32} {x2 : Int32} {x3 : Int32} {x4 : Int32} {σ σ' : Hp} {r : Int32} (h : f_X7_stands x0 x1 x2 x3 x4 σ = some (r, σ')) : Mt l yX7_stands cX7_stands 7 (some .boolean) 5 shM (fun ad => [.ref (ad x0), .int x1, .int x2, .int x3, .int x4]) σ (fun ad => some (.int r)) σ' := mt_i (own := RX7) (by decide) rfl (fun _ => Nat.le_of_ble_eq_true rfl) (fun γ ad K hc hk => t_X7_stands hc ⟨_, _, h, hk⟩)

-- NetMapsModel.areDrawers(II)Z
theorem dX7_areDrawers_0 : decode cX7_areDrawers 0 = .ok (.iload_n 0, 1) := by decide +kernel
theorem dX7_areDrawers_1 : decode cX7_areDrawers 1 = .ok (.invokestatic 132, 3) := by decide +kernel
theorem dX7_areDrawers_4 : decode cX7_areDrawers 4 = .ok (.ifCond .eq 14, 3) := by decide +kernel
theorem dX7_areDrawers_7 : decode cX7_areDrawers 7 = .ok (.iload_n 1, 1) := by decide +kernel
theorem dX7_areDrawers_8 : decode cX7_areDrawers 8 = .ok (.invokestatic 132, 3) := by decide +kernel
theorem dX7_areDrawers_11 : decode cX7_areDrawers 11 = .ok (.ifCond .eq 7, 3) := by decide +kernel
theorem dX7_areDrawers_14 : decode cX7_areDrawers 14 = .ok (.iconst 1, 1) := by decide +kernel
theorem dX7_areDrawers_15 : decode cX7_areDrawers 15 = .ok (.goto 4, 3) := by decide +kernel
theorem dX7_areDrawers_18 : decode cX7_areDrawers 18 = .ok (.iconst 0, 1) := by decide +kernel
theorem dX7_areDrawers_19 : decode cX7_areDrawers 19 = .ok (.ireturn, 1) := by decide +kernel
noncomputable def f_X7_areDrawers_b19 (s0 : Int32) (σ : Hp) : Option (Int32 × Hp) := gO (zz s0) fun _ => some (s0, σ)
set_option maxRecDepth 100000 in
set_option maxHeartbeats 4000000 in
theorem t_X7_areDrawers_b19 {l : Launch} {γ : Gm} {ad : Nat → Nat} {K : Option Value → Hp → Prop} (hc : Cx l γ 3 2 ad shM RX7 cX7_areDrawers (some .boolean) K) {s0 : Int32} {σ : Hp} (h : wpO (f_X7_areDrawers_b19 s0 σ) (KI K)) : WW l γ 3 2 ad shM 19 [] [.int s0] σ := by
  unfold f_X7_areDrawers_b19 at h
  obtain ⟨_, ek1, h⟩ := wp_g h
  have h := wp_v h
  exact r_zret hc h (zz_of ek1) dX7_areDrawers_19
noncomputable def f_X7_areDrawers_b18  (σ : Hp) : Option (Int32 × Hp) := f_X7_areDrawers_b19 0 σ
set_option maxRecDepth 100000 in
set_option maxHeartbeats 4000000 in
theorem t_X7_areDrawers_b18 {l : Launch} {γ : Gm} {ad : Nat → Nat} {K : Option Value → Hp → Prop} (hc : Cx l γ 3 2 ad shM RX7 cX7_areDrawers (some .boolean) K)  {σ : Hp} (h : wpO (f_X7_areDrawers_b18  σ) (KI K)) : WW l γ 3 2 ad shM 18 [] [] σ := by
  unfold f_X7_areDrawers_b18 at h
  refine r_iconst hc (v := 0) (by decide) dX7_areDrawers_18 ?_
  exact t_X7_areDrawers_b19 hc h
noncomputable def f_X7_areDrawers (x0 : Int32) (x1 : Int32) (σ : Hp) : Option (Int32 × Hp) := bO (f_X7_isDrawer x0 σ) fun r1 σ2 => if r1 = 0 then (f_X7_areDrawers_b18  σ2) else (bO (f_X7_isDrawer x1 σ2) fun r3 σ4 => if r3 = 0 then (f_X7_areDrawers_b18  σ4) else (f_X7_areDrawers_b19 1 σ4))
set_option maxRecDepth 100000 in
set_option maxHeartbeats 4000000 in
theorem t_X7_areDrawers {l : Launch} {γ : Gm} {ad : Nat → Nat} {K : Option Value → Hp → Prop} (hc : Cx l γ 3 2 ad shM RX7 cX7_areDrawers (some .boolean) K) {x0 : Int32} {x1 : Int32} {σ : Hp} (h : wpO (f_X7_areDrawers x0 x1 σ) (KI K)) : WW l γ 3 2 ad shM 0 [(0, .int x0), (1, .int x1)] [] σ := by
  unfold f_X7_areDrawers at h
  refine r_iload_n hc 0 rfl rfl dX7_areDrawers_0 ?_
  obtain ⟨r1, σ2, er1, h⟩ := wp_b h
  refine r_callS hc ms_X7_isDrawer ml_X7_132 (c_X7_isDrawer er1) rfl rfl (by decide) rfl (Nat.le_of_ble_eq_true rfl) dX7_areDrawers_1 ?_
  refine r_if_eq hc (tgt := 18) dX7_areDrawers_4 (by decide) (fun c => ?_) (fun c => ?_)
  · have h := wp_t c h
    refine r_sub [] (lv' := []) rfl ?_
    exact t_X7_areDrawers_b18 hc h
  · have h := wp_f c h
    refine r_iload_n hc 1 rfl rfl dX7_areDrawers_7 ?_
    obtain ⟨r3, σ4, er3, h⟩ := wp_b h
    refine r_callS hc ms_X7_isDrawer ml_X7_132 (c_X7_isDrawer er3) rfl rfl (by decide) rfl (Nat.le_of_ble_eq_true rfl) dX7_areDrawers_8 ?_
    refine r_if_eq hc (tgt := 18) dX7_areDrawers_11 (by decide) (fun c => ?_) (fun c => ?_)
    · have h := wp_t c h
      refine r_sub [] (lv' := []) rfl ?_
      exact t_X7_areDrawers_b18 hc h
    · have h := wp_f c h
      refine r_iconst hc (v := 1) (by decide) dX7_areDrawers_14 ?_
      refine r_goto hc (tgt := 19) dX7_areDrawers_15 (by decide) ?_
      refine r_sub [] (lv' := []) rfl ?_
      exact t_X7_areDrawers_b19 hc h
theorem c_X7_areDrawers {l : Launch} {x0 : Int32} {x1 : Int32} {σ σ' : Hp} {r : Int32} (h : f_X7_areDrawers x0 x1 σ = some (r, σ')) : Mt l yX7_areDrawers cX7_areDrawers 2 (some .boolean) 3 shM (fun ad => [.int x0, .int x1]) σ (fun ad => some (.int r)) σ' := mt_i (own := RX7) (by decide) rfl (fun _ => Nat.le_of_ble_eq_true rfl) (fun γ ad K hc hk => t_X7_areDrawers hc ⟨_, _, h, hk⟩)

-- NetMapsModel.isOneEmpty(II)Z
theorem dX7_isOneEmpty_0 : decode cX7_isOneEmpty 0 = .ok (.aload_n 0, 1) := by decide +kernel
theorem dX7_isOneEmpty_1 : decode cX7_isOneEmpty 1 = .ok (.iload_n 1, 1) := by decide +kernel
theorem dX7_isOneEmpty_2 : decode cX7_isOneEmpty 2 = .ok (.invokevirtual 85, 3) := by decide +kernel
theorem dX7_isOneEmpty_5 : decode cX7_isOneEmpty 5 = .ok (.ifCond .ne 11, 3) := by decide +kernel
theorem dX7_isOneEmpty_8 : decode cX7_isOneEmpty 8 = .ok (.aload_n 0, 1) := by decide +kernel
theorem dX7_isOneEmpty_9 : decode cX7_isOneEmpty 9 = .ok (.iload_n 2, 1) := by decide +kernel
theorem dX7_isOneEmpty_10 : decode cX7_isOneEmpty 10 = .ok (.invokevirtual 85, 3) := by decide +kernel
theorem dX7_isOneEmpty_13 : decode cX7_isOneEmpty 13 = .ok (.ifCond .eq 7, 3) := by decide +kernel
theorem dX7_isOneEmpty_16 : decode cX7_isOneEmpty 16 = .ok (.iconst 1, 1) := by decide +kernel
theorem dX7_isOneEmpty_17 : decode cX7_isOneEmpty 17 = .ok (.goto 4, 3) := by decide +kernel
theorem dX7_isOneEmpty_20 : decode cX7_isOneEmpty 20 = .ok (.iconst 0, 1) := by decide +kernel
theorem dX7_isOneEmpty_21 : decode cX7_isOneEmpty 21 = .ok (.ireturn, 1) := by decide +kernel
noncomputable def f_X7_isOneEmpty_b21 (s0 : Int32) (σ : Hp) : Option (Int32 × Hp) := gO (zz s0) fun _ => some (s0, σ)
set_option maxRecDepth 100000 in
set_option maxHeartbeats 4000000 in
theorem t_X7_isOneEmpty_b21 {l : Launch} {γ : Gm} {ad : Nat → Nat} {K : Option Value → Hp → Prop} (hc : Cx l γ 2 3 ad shM RX7 cX7_isOneEmpty (some .boolean) K) {s0 : Int32} {σ : Hp} (h : wpO (f_X7_isOneEmpty_b21 s0 σ) (KI K)) : WW l γ 2 3 ad shM 21 [] [.int s0] σ := by
  unfold f_X7_isOneEmpty_b21 at h
  obtain ⟨_, ek1, h⟩ := wp_g h
  have h := wp_v h
  exact r_zret hc h (zz_of ek1) dX7_isOneEmpty_21
noncomputable def f_X7_isOneEmpty_b16  (σ : Hp) : Option (Int32 × Hp) := f_X7_isOneEmpty_b21 1 σ
set_option maxRecDepth 100000 in
set_option maxHeartbeats 4000000 in
theorem t_X7_isOneEmpty_b16 {l : Launch} {γ : Gm} {ad : Nat → Nat} {K : Option Value → Hp → Prop} (hc : Cx l γ 2 3 ad shM RX7 cX7_isOneEmpty (some .boolean) K)  {σ : Hp} (h : wpO (f_X7_isOneEmpty_b16  σ) (KI K)) : WW l γ 2 3 ad shM 16 [] [] σ := by
  unfold f_X7_isOneEmpty_b16 at h
  refine r_iconst hc (v := 1) (by decide) dX7_isOneEmpty_16 ?_
  refine r_goto hc (tgt := 21) dX7_isOneEmpty_17 (by decide) ?_
  exact t_X7_isOneEmpty_b21 hc h
noncomputable def f_X7_isOneEmpty (x0 : Nat) (x1 : Int32) (x2 : Int32) (σ : Hp) : Option (Int32 × Hp) := gO (chk shM x0 7) fun _ => bO (f_X7_isEmpty x0 x1 σ) fun r1 σ2 => if r1 = 0 then (gO (chk shM x0 7) fun _ => bO (f_X7_isEmpty x0 x2 σ2) fun r4 σ5 => if r4 = 0 then (f_X7_isOneEmpty_b21 0 σ5) else (f_X7_isOneEmpty_b16  σ5)) else (f_X7_isOneEmpty_b16  σ2)
set_option maxRecDepth 100000 in
set_option maxHeartbeats 4000000 in
theorem t_X7_isOneEmpty {l : Launch} {γ : Gm} {ad : Nat → Nat} {K : Option Value → Hp → Prop} (hc : Cx l γ 2 3 ad shM RX7 cX7_isOneEmpty (some .boolean) K) {x0 : Nat} {x1 : Int32} {x2 : Int32} {σ : Hp} (h : wpO (f_X7_isOneEmpty x0 x1 x2 σ) (KI K)) : WW l γ 2 3 ad shM 0 [(0, .ref (ad x0)), (1, .int x1), (2, .int x2)] [] σ := by
  unfold f_X7_isOneEmpty at h
  refine r_aload_n hc 0 rfl rfl dX7_isOneEmpty_0 ?_
  refine r_iload_n hc 1 rfl rfl dX7_isOneEmpty_1 ?_
  obtain ⟨_, ek3, h⟩ := wp_g h
  obtain ⟨r1, σ2, er1, h⟩ := wp_b h
  refine r_callV hc (k0 := x0) mv_X7_isEmpty ml_X7_85 (c_X7_isEmpty er1) (chk_of ek3) cls_7.1 rfl rfl rfl (by decide) rfl (Nat.le_of_ble_eq_true rfl) dX7_isOneEmpty_2 ?_
  refine r_if_ne hc (tgt := 16) dX7_isOneEmpty_5 (by decide) (fun c => ?_) (fun c => ?_)
  · have h := wp_f c h
    refine r_sub [] (lv' := []) rfl ?_
    exact t_X7_isOneEmpty_b16 hc h
  · have h := wp_t c h
    refine r_aload_n hc 0 rfl rfl dX7_isOneEmpty_8 ?_
    refine r_iload_n hc 2 rfl rfl dX7_isOneEmpty_9 ?_
    obtain ⟨_, ek6, h⟩ := wp_g h
    obtain ⟨r4, σ5, er4, h⟩ := wp_b h
    refine r_callV hc (k0 := x0) mv_X7_isEmpty ml_X7_85 (c_X7_isEmpty er4) (chk_of ek6) cls_7.1 rfl rfl rfl (by decide) rfl (Nat.le_of_ble_eq_true rfl) dX7_isOneEmpty_10 ?_
    refine r_if_eq hc (tgt := 20) dX7_isOneEmpty_13 (by decide) (fun c => ?_) (fun c => ?_)
    · have h := wp_t c h
      refine r_iconst hc (v := 0) (by decide) dX7_isOneEmpty_20 ?_
      refine r_sub [] (lv' := []) rfl ?_
      exact t_X7_isOneEmpty_b21 hc h
    · have h := wp_f c h
      refine r_sub [] (lv' := []) rfl ?_
      exact t_X7_isOneEmpty_b16 hc h
theorem c_X7_isOneEmpty {l : Launch} {x0 : Nat} {x1 : Int32} {x2 : Int32} {σ σ' : Hp} {r : Int32} (h : f_X7_isOneEmpty x0 x1 x2 σ = some (r, σ')) : Mt l yX7_isOneEmpty cX7_isOneEmpty 3 (some .boolean) 2 shM (fun ad => [.ref (ad x0), .int x1, .int x2]) σ (fun ad => some (.int r)) σ' := mt_i (own := RX7) (by decide) rfl (fun _ => Nat.le_of_ble_eq_true rfl) (fun γ ad K hc hk => t_X7_isOneEmpty hc ⟨_, _, h, hk⟩)

-- NetMapsModel.list(II)I
theorem dX7_list_0 : decode cX7_list 0 = .ok (.iload_n 1, 1) := by decide +kernel
theorem dX7_list_1 : decode cX7_list 1 = .ok (.iconst 0, 1) := by decide +kernel
theorem dX7_list_2 : decode cX7_list 2 = .ok (.bipush 6, 2) := by decide +kernel
theorem dX7_list_4 : decode cX7_list 4 = .ok (.invokestatic 81, 3) := by decide +kernel
theorem dX7_list_7 : decode cX7_list 7 = .ok (.ifCond .eq 13, 3) := by decide +kernel
theorem dX7_list_10 : decode cX7_list 10 = .ok (.iload_n 2, 1) := by decide +kernel
theorem dX7_list_11 : decode cX7_list 11 = .ok (.iconst 0, 1) := by decide +kernel
theorem dX7_list_12 : decode cX7_list 12 = .ok (.bipush 127, 2) := by decide +kernel
theorem dX7_list_14 : decode cX7_list 14 = .ok (.invokestatic 81, 3) := by decide +kernel
theorem dX7_list_17 : decode cX7_list 17 = .ok (.ifCond .ne 5, 3) := by decide +kernel
theorem dX7_list_20 : decode cX7_list 20 = .ok (.iconst (-1), 1) := by decide +kernel
theorem dX7_list_21 : decode cX7_list 21 = .ok (.ireturn, 1) := by decide +kernel
theorem dX7_list_22 : decode cX7_list 22 = .ok (.aload_n 0, 1) := by decide +kernel
theorem dX7_list_23 : decode cX7_list 23 = .ok (.getfield 19, 3) := by decide +kernel
theorem dX7_list_26 : decode cX7_list 26 = .ok (.iload_n 1, 1) := by decide +kernel
theorem dX7_list_27 : decode cX7_list 27 = .ok (.iaload, 1) := by decide +kernel
theorem dX7_list_28 : decode cX7_list 28 = .ok (.istore_n 3, 1) := by decide +kernel
theorem dX7_list_29 : decode cX7_list 29 = .ok (.aload_n 0, 1) := by decide +kernel
theorem dX7_list_30 : decode cX7_list 30 = .ok (.getfield 19, 3) := by decide +kernel
theorem dX7_list_33 : decode cX7_list 33 = .ok (.iload_n 1, 1) := by decide +kernel
theorem dX7_list_34 : decode cX7_list 34 = .ok (.iload_n 2, 1) := by decide +kernel
theorem dX7_list_35 : decode cX7_list 35 = .ok (.iastore, 1) := by decide +kernel
theorem dX7_list_36 : decode cX7_list 36 = .ok (.iload_n 3, 1) := by decide +kernel
theorem dX7_list_37 : decode cX7_list 37 = .ok (.ireturn, 1) := by decide +kernel
noncomputable def f_X7_list_b20  (σ : Hp) : Option (Int32 × Hp) := some ((-1), σ)
set_option maxRecDepth 100000 in
set_option maxHeartbeats 4000000 in
theorem t_X7_list_b20 {l : Launch} {γ : Gm} {ad : Nat → Nat} {K : Option Value → Hp → Prop} (hc : Cx l γ 2 4 ad shM RX7 cX7_list (some .int) K)  {σ : Hp} (h : wpO (f_X7_list_b20  σ) (KI K)) : WW l γ 2 4 ad shM 20 [] [] σ := by
  unfold f_X7_list_b20 at h
  refine r_iconst hc (v := (-1)) (by decide) dX7_list_20 ?_
  have h := wp_v h
  exact r_iret hc h dX7_list_21
noncomputable def f_X7_list (x0 : Nat) (x1 : Int32) (x2 : Int32) (σ : Hp) : Option (Int32 × Hp) := bO (f_X7_in x1 0 6 σ) fun r1 σ2 => if r1 = 0 then (f_X7_list_b20  σ2) else (bO (f_X7_in x2 0 127 σ2) fun r3 σ4 => if r3 = 0 then (f_X7_list_b20  σ4) else (gO (getR shM 7 x0 3 σ4) fun v5 => gO (aldI shM 0 v5 x1 σ4) fun v6 => gO (getR shM 7 x0 3 σ4) fun v7 => gO (astI shM 0 v7 x1 x2 σ4) fun σ8 => some (v6, σ8)))
set_option maxRecDepth 100000 in
set_option maxHeartbeats 4000000 in
theorem t_X7_list {l : Launch} {γ : Gm} {ad : Nat → Nat} {K : Option Value → Hp → Prop} (hc : Cx l γ 2 4 ad shM RX7 cX7_list (some .int) K) {x0 : Nat} {x1 : Int32} {x2 : Int32} {σ : Hp} (h : wpO (f_X7_list x0 x1 x2 σ) (KI K)) : WW l γ 2 4 ad shM 0 [(0, .ref (ad x0)), (1, .int x1), (2, .int x2)] [] σ := by
  unfold f_X7_list at h
  refine r_iload_n hc 1 rfl rfl dX7_list_0 ?_
  refine r_iconst hc (v := 0) (by decide) dX7_list_1 ?_
  refine r_bipush hc (v := 6) (by decide) dX7_list_2 ?_
  obtain ⟨r1, σ2, er1, h⟩ := wp_b h
  refine r_callS hc ms_X7_in ml_X7_81 (c_X7_in er1) rfl rfl (by decide) rfl (Nat.le_of_ble_eq_true rfl) dX7_list_4 ?_
  refine r_if_eq hc (tgt := 20) dX7_list_7 (by decide) (fun c => ?_) (fun c => ?_)
  · have h := wp_t c h
    refine r_sub [] (lv' := []) rfl ?_
    exact t_X7_list_b20 hc h
  · have h := wp_f c h
    refine r_iload_n hc 2 rfl rfl dX7_list_10 ?_
    refine r_iconst hc (v := 0) (by decide) dX7_list_11 ?_
    refine r_bipush hc (v := 127) (by decide) dX7_list_12 ?_
    obtain ⟨r3, σ4, er3, h⟩ := wp_b h
    refine r_callS hc ms_X7_in ml_X7_81 (c_X7_in er3) rfl rfl (by decide) rfl (Nat.le_of_ble_eq_true rfl) dX7_list_14 ?_
    refine r_if_ne hc (tgt := 22) dX7_list_17 (by decide) (fun c => ?_) (fun c => ?_)
    · have h := wp_f c h
      refine r_aload_n hc 0 rfl rfl dX7_list_22 ?_
      obtain ⟨v5, ev5, h⟩ := wp_g h
      refine r_getR hc ev5 fl_X7_19 rfl dX7_list_23 ?_
      refine r_iload_n hc 1 rfl rfl dX7_list_26 ?_
      obtain ⟨v6, ev6, h⟩ := wp_g h
      refine r_iald hc ev6 dX7_list_27 ?_
      refine r_istore_nE hc (i := 3) (lv' := [(3, .int v6), (0, .ref (ad x0)), (1, .int x1), (2, .int x2)]) rfl rfl (by decide) rfl dX7_list_28 ?_
      refine r_aload_n hc 1 rfl rfl dX7_list_29 ?_
      obtain ⟨v7, ev7, h⟩ := wp_g h
      refine r_getR hc ev7 fl_X7_19 rfl dX7_list_30 ?_
      refine r_iload_n hc 2 rfl rfl dX7_list_33 ?_
      refine r_iload_n hc 3 rfl rfl dX7_list_34 ?_
      obtain ⟨σ8, eσ8, h⟩ := wp_g h
      refine r_iast hc eσ8 dX7_list_35 ?_
      refine r_iload_n hc 0 rfl rfl dX7_list_36 ?_
      have h := wp_v h
      exact r_iret hc h dX7_list_37
    · have h := wp_t c h
      refine r_sub [] (lv' := []) rfl ?_
      exact t_X7_list_b20 hc h
theorem c_X7_list {l : Launch} {x0 : Nat} {x1 : Int32} {x2 : Int32} {σ σ' : Hp} {r : Int32} (h : f_X7_list x0 x1 x2 σ = some (r, σ')) : Mt l yX7_list cX7_list 4 (some .int) 2 shM (fun ad => [.ref (ad x0), .int x1, .int x2]) σ (fun ad => some (.int r)) σ' := mt_i (own := RX7) (by decide) rfl (fun _ => Nat.le_of_ble_eq_true rfl) (fun γ ad K hc hk => t_X7_list hc ⟨_, _, h, hk⟩)

-- NetMapsModel.free()I
theorem dX7_free_0 : decode cX7_free 0 = .ok (.iconst 0, 1) := by decide +kernel
theorem dX7_free_1 : decode cX7_free 1 = .ok (.istore_n 1, 1) := by decide +kernel
theorem dX7_free_2 : decode cX7_free 2 = .ok (.iconst 0, 1) := by decide +kernel
theorem dX7_free_3 : decode cX7_free 3 = .ok (.istore_n 2, 1) := by decide +kernel
theorem dX7_free_4 : decode cX7_free 4 = .ok (.iload_n 2, 1) := by decide +kernel
theorem dX7_free_5 : decode cX7_free 5 = .ok (.bipush 7, 2) := by decide +kernel
theorem dX7_free_7 : decode cX7_free 7 = .ok (.if_icmp .ge 36, 3) := by decide +kernel
theorem dX7_free_10 : decode cX7_free 10 = .ok (.iload_n 1, 1) := by decide +kernel
theorem dX7_free_11 : decode cX7_free 11 = .ok (.aload_n 0, 1) := by decide +kernel
theorem dX7_free_12 : decode cX7_free 12 = .ok (.getfield 19, 3) := by decide +kernel
theorem dX7_free_15 : decode cX7_free 15 = .ok (.iload_n 2, 1) := by decide +kernel
theorem dX7_free_16 : decode cX7_free 16 = .ok (.iaload, 1) := by decide +kernel
theorem dX7_free_17 : decode cX7_free 17 = .ok (.bipush 127, 2) := by decide +kernel
theorem dX7_free_19 : decode cX7_free 19 = .ok (.if_icmp .ne 7, 3) := by decide +kernel
theorem dX7_free_22 : decode cX7_free 22 = .ok (.iconst 0, 1) := by decide +kernel
theorem dX7_free_23 : decode cX7_free 23 = .ok (.goto 4, 3) := by decide +kernel
theorem dX7_free_26 : decode cX7_free 26 = .ok (.iconst 1, 1) := by decide +kernel
theorem dX7_free_27 : decode cX7_free 27 = .ok (.iadd, 1) := by decide +kernel
theorem dX7_free_28 : decode cX7_free 28 = .ok (.istore_n 1, 1) := by decide +kernel
theorem dX7_free_29 : decode cX7_free 29 = .ok (.aload_n 0, 1) := by decide +kernel
theorem dX7_free_30 : decode cX7_free 30 = .ok (.getfield 19, 3) := by decide +kernel
theorem dX7_free_33 : decode cX7_free 33 = .ok (.iload_n 2, 1) := by decide +kernel
theorem dX7_free_34 : decode cX7_free 34 = .ok (.bipush 127, 2) := by decide +kernel
theorem dX7_free_36 : decode cX7_free 36 = .ok (.iastore, 1) := by decide +kernel
theorem dX7_free_37 : decode cX7_free 37 = .ok (.iinc 2 1, 3) := by decide +kernel
theorem dX7_free_40 : decode cX7_free 40 = .ok (.goto (-36), 3) := by decide +kernel
theorem dX7_free_43 : decode cX7_free 43 = .ok (.iload_n 1, 1) := by decide +kernel
theorem dX7_free_44 : decode cX7_free 44 = .ok (.ireturn, 1) := by decide +kernel
noncomputable def f_X7_free_b27 (x0 : Nat) (x2 : Int32) (s0 : Int32) (s1 : Int32) (σ : Hp) : Option (((Int32 × Int32) ⊕ (Int32)) × Hp) := gO (getR shM 7 x0 3 σ) fun v1 => gO (astI shM 0 v1 x2 127 σ) fun σ2 => some (Sum.inl ((s0 + s1), (x2 + 1)), σ2)
set_option maxRecDepth 100000 in
set_option maxHeartbeats 4000000 in
theorem t_X7_free_b27 {l : Launch} {γ : Gm} {ad : Nat → Nat} {K : Option Value → Hp → Prop} (hc : Cx l γ 1 3 ad shM RX7 cX7_free (some .int) K) {x0 : Nat} {x2 : Int32} {s0 : Int32} {s1 : Int32}  {σ : Hp} {KL : ((Int32 × Int32) ⊕ (Int32)) → Hp → Prop} (h : wpO (f_X7_free_b27 x0 x2 s0 s1 σ) KL) (kn : ∀ (v : (Int32 × Int32)) (σ : Hp), KL (Sum.inl v) σ → WW l γ 1 3 ad shM 4 [(0, .ref (ad x0)), (1, .int v.1), (2, .int v.2)] [] σ) (kx43 : ∀ (v : Int32) (σ : Hp), KL (Sum.inr v) σ → WW l γ 1 3 ad shM 43 [(1, .int v)] [] σ) : WW l γ 1 3 ad shM 27 [(0, .ref (ad x0)), (2, .int x2)] [.int s1, .int s0] σ := by
  unfold f_X7_free_b27 at h
  refine r_iadd hc dX7_free_27 ?_
  refine r_istore_nE hc (i := 1) (lv' := [(1, .int (s0 + s1)), (0, .ref (ad x0)), (2, .int x2)]) rfl rfl (by decide) rfl dX7_free_28 ?_
  refine r_aload_n hc 1 rfl rfl dX7_free_29 ?_
  obtain ⟨v1, ev1, h⟩ := wp_g h
  refine r_getR hc ev1 fl_X7_19 rfl dX7_free_30 ?_
  refine r_iload_n hc 2 rfl rfl dX7_free_33 ?_
  refine r_bipush hc (v := 127) (by decide) dX7_free_34 ?_
  obtain ⟨σ2, eσ2, h⟩ := wp_g h
  refine r_iast hc eσ2 dX7_free_36 ?_
  refine r_iincE hc (j := 2) (w := 1) (lv' := [(2, .int (x2 + 1)), (1, .int (s0 + s1)), (0, .ref (ad x0))]) rfl (by decide) rfl (by decide) rfl dX7_free_37 ?_
  refine r_goto hc (tgt := 4) dX7_free_40 (by decide) ?_
  refine r_sub [2, 1, 0] (lv' := [(0, .ref (ad x0)), (1, .int (s0 + s1)), (2, .int (x2 + 1))]) rfl ?_
  have h := wp_v h
  exact kn ((s0 + s1), (x2 + 1)) _ h
noncomputable def f_X7_free_L4 (x0 : Nat) (v : (Int32 × Int32)) (σ : Hp) : Option (((Int32 × Int32) ⊕ (Int32)) × Hp) := if 7 ≤ v.2 then (some (Sum.inr v.1, σ)) else (gO (getR shM 7 x0 3 σ) fun v1 => gO (aldI shM 0 v1 v.2 σ) fun v2 => if v2 = 127 then (f_X7_free_b27 x0 v.2 v.1 0 σ) else (f_X7_free_b27 x0 v.2 v.1 1 σ))
set_option maxRecDepth 100000 in
set_option maxHeartbeats 4000000 in
theorem t_X7_free_L4 {l : Launch} {γ : Gm} {ad : Nat → Nat} {K : Option Value → Hp → Prop}  (hc : Cx l γ 1 3 ad shM RX7 cX7_free (some .int) K) {x0 : Nat} {v : (Int32 × Int32)} {σ : Hp} {KX : (Int32) → Hp → Prop} (h : wpO (wh (f_X7_free_L4 x0) v σ) KX) (kx43 : ∀ (v : Int32) (σ : Hp), KX v σ → WW l γ 1 3 ad shM 43 [(1, .int v)] [] σ) : WW l γ 1 3 ad shM 4 [(0, .ref (ad x0)), (1, .int v.1), (2, .int v.2)] [] σ := by
  refine wh_W (P := fun v σ => WW l γ 1 3 ad shM 4 [(0, .ref (ad x0)), (1, .int v.1), (2, .int v.2)] [] σ) (fun v σ h => ?_) h
  have kn : ∀ (v : (Int32 × Int32)) (σ : Hp), WW l γ 1 3 ad shM 4 [(0, .ref (ad x0)), (1, .int v.1), (2, .int v.2)] [] σ → WW l γ 1 3 ad shM 4 [(0, .ref (ad x0)), (1, .int v.1), (2, .int v.2)] [] σ := fun _ _ h => h
  · unfold f_X7_free_L4 at h
    refine r_iload_n hc 2 rfl rfl dX7_free_4 ?_
    refine r_bipush hc (v := 7) (by decide) dX7_free_5 ?_
    refine r_icmp_ge hc (tgt := 43) dX7_free_7 (by decide) (fun c => ?_) (fun c => ?_)
    · have h := wp_t c h
      refine r_sub [1] (lv' := [(1, .int v.1)]) rfl ?_
      have h := wp_v h
      exact kx43 v.1 _ h
    · have h := wp_f c h
      refine r_iload_n hc 1 rfl rfl dX7_free_10 ?_
      refine r_aload_n hc 0 rfl rfl dX7_free_11 ?_
      obtain ⟨v1, ev1, h⟩ := wp_g h
      refine r_getR hc ev1 fl_X7_19 rfl dX7_free_12 ?_
      refine r_iload_n hc 2 rfl rfl dX7_free_15 ?_
      obtain ⟨v2, ev2, h⟩ := wp_g h
      refine r_iald hc ev2 dX7_free_16 ?_
      refine r_bipush hc (v := 127) (by decide) dX7_free_17 ?_
      refine r_icmp_ne hc (tgt := 26) dX7_free_19 (by decide) (fun c => ?_) (fun c => ?_)
      · have h := wp_f c h
        refine r_iconst hc (v := 1) (by decide) dX7_free_26 ?_
        refine r_sub [0, 2] (lv' := [(0, .ref (ad x0)), (2, .int v.2)]) rfl ?_
        exact t_X7_free_b27 hc h kn kx43
      · have h := wp_t c h
        refine r_iconst hc (v := 0) (by decide) dX7_free_22 ?_
        refine r_goto hc (tgt := 27) dX7_free_23 (by decide) ?_
        refine r_sub [0, 2] (lv' := [(0, .ref (ad x0)), (2, .int v.2)]) rfl ?_
        exact t_X7_free_b27 hc h kn kx43
noncomputable def f_X7_free (x0 : Nat) (σ : Hp) : Option (Int32 × Hp) := bO (wh (f_X7_free_L4 x0) (0, 0) σ) fun y1 σ2 => (some (y1, σ2))
set_option maxRecDepth 100000 in
set_option maxHeartbeats 4000000 in
theorem t_X7_free {l : Launch} {γ : Gm} {ad : Nat → Nat} {K : Option Value → Hp → Prop} (hc : Cx l γ 1 3 ad shM RX7 cX7_free (some .int) K) {x0 : Nat} {σ : Hp} (h : wpO (f_X7_free x0 σ) (KI K)) : WW l γ 1 3 ad shM 0 [(0, .ref (ad x0))] [] σ := by
  unfold f_X7_free at h
  refine r_iconst hc (v := 0) (by decide) dX7_free_0 ?_
  refine r_istore_nE hc (i := 1) (lv' := [(1, .int 0), (0, .ref (ad x0))]) rfl rfl (by decide) rfl dX7_free_1 ?_
  refine r_iconst hc (v := 0) (by decide) dX7_free_2 ?_
  refine r_istore_nE hc (i := 2) (lv' := [(2, .int 0), (1, .int 0), (0, .ref (ad x0))]) rfl rfl (by decide) rfl dX7_free_3 ?_
  refine r_sub [2, 1, 0] (lv' := [(0, .ref (ad x0)), (1, .int 0), (2, .int 0)]) rfl ?_
  refine t_X7_free_L4 hc (wp_bb h) ?_
  · intro y1 σ2 h
    refine r_iload_n hc 0 rfl rfl dX7_free_43 ?_
    have h := wp_v h
    exact r_iret hc h dX7_free_44
theorem c_X7_free {l : Launch} {x0 : Nat} {σ σ' : Hp} {r : Int32} (h : f_X7_free x0 σ = some (r, σ')) : Mt l yX7_free cX7_free 3 (some .int) 1 shM (fun ad => [.ref (ad x0)]) σ (fun ad => some (.int r)) σ' := mt_i (own := RX7) (by decide) rfl (fun _ => Nat.le_of_ble_eq_true rfl) (fun γ ad K hc hk => t_X7_free hc ⟨_, _, h, hk⟩)

-- NetMapsModel.maps(III)I
theorem dX7_maps_0 : decode cX7_maps 0 = .ok (.iload_n 1, 1) := by decide +kernel
theorem dX7_maps_1 : decode cX7_maps 1 = .ok (.iload_n 2, 1) := by decide +kernel
theorem dX7_maps_2 : decode cX7_maps 2 = .ok (.invokestatic 243, 3) := by decide +kernel
theorem dX7_maps_5 : decode cX7_maps 5 = .ok (.ifCond .eq 12, 3) := by decide +kernel
theorem dX7_maps_8 : decode cX7_maps 8 = .ok (.iload_n 3, 1) := by decide +kernel
theorem dX7_maps_9 : decode cX7_maps 9 = .ok (.iconst 0, 1) := by decide +kernel
theorem dX7_maps_10 : decode cX7_maps 10 = .ok (.iconst 4, 1) := by decide +kernel
theorem dX7_maps_11 : decode cX7_maps 11 = .ok (.invokestatic 81, 3) := by decide +kernel
theorem dX7_maps_14 : decode cX7_maps 14 = .ok (.ifCond .ne 5, 3) := by decide +kernel
theorem dX7_maps_17 : decode cX7_maps 17 = .ok (.iconst (-1), 1) := by decide +kernel
theorem dX7_maps_18 : decode cX7_maps 18 = .ok (.ireturn, 1) := by decide +kernel
theorem dX7_maps_19 : decode cX7_maps 19 = .ok (.aload_n 0, 1) := by decide +kernel
theorem dX7_maps_20 : decode cX7_maps 20 = .ok (.iload_n 1, 1) := by decide +kernel
theorem dX7_maps_21 : decode cX7_maps 21 = .ok (.iload_n 2, 1) := by decide +kernel
theorem dX7_maps_22 : decode cX7_maps 22 = .ok (.invokevirtual 246, 3) := by decide +kernel
theorem dX7_maps_25 : decode cX7_maps 25 = .ok (.ifCond .eq 6, 3) := by decide +kernel
theorem dX7_maps_28 : decode cX7_maps 28 = .ok (.bipush (-2), 2) := by decide +kernel
theorem dX7_maps_30 : decode cX7_maps 30 = .ok (.ireturn, 1) := by decide +kernel
theorem dX7_maps_31 : decode cX7_maps 31 = .ok (.aload_n 0, 1) := by decide +kernel
theorem dX7_maps_32 : decode cX7_maps 32 = .ok (.iload_n 1, 1) := by decide +kernel
theorem dX7_maps_33 : decode cX7_maps 33 = .ok (.iload_n 2, 1) := by decide +kernel
theorem dX7_maps_34 : decode cX7_maps 34 = .ok (.iload_n 3, 1) := by decide +kernel
theorem dX7_maps_35 : decode cX7_maps 35 = .ok (.iconst 4, 1) := by decide +kernel
theorem dX7_maps_36 : decode cX7_maps 36 = .ok (.if_icmp .ge 7, 3) := by decide +kernel
theorem dX7_maps_39 : decode cX7_maps 39 = .ok (.iconst 1, 1) := by decide +kernel
theorem dX7_maps_40 : decode cX7_maps 40 = .ok (.goto 4, 3) := by decide +kernel
theorem dX7_maps_43 : decode cX7_maps 43 = .ok (.iconst 0, 1) := by decide +kernel
theorem dX7_maps_44 : decode cX7_maps 44 = .ok (.invokevirtual 237, 3) := by decide +kernel
theorem dX7_maps_47 : decode cX7_maps 47 = .ok (.iconst 0, 1) := by decide +kernel
theorem dX7_maps_48 : decode cX7_maps 48 = .ok (.istore 4, 2) := by decide +kernel
theorem dX7_maps_50 : decode cX7_maps 50 = .ok (.aload_n 0, 1) := by decide +kernel
theorem dX7_maps_51 : decode cX7_maps 51 = .ok (.invokevirtual 240, 3) := by decide +kernel
theorem dX7_maps_54 : decode cX7_maps 54 = .ok (.ifCond .eq 24, 3) := by decide +kernel
theorem dX7_maps_57 : decode cX7_maps 57 = .ok (.iload 4, 2) := by decide +kernel
theorem dX7_maps_59 : decode cX7_maps 59 = .ok (.aload_n 0, 1) := by decide +kernel
theorem dX7_maps_60 : decode cX7_maps 60 = .ok (.iload_n 3, 1) := by decide +kernel
theorem dX7_maps_61 : decode cX7_maps 61 = .ok (.invokevirtual 249, 3) := by decide +kernel
theorem dX7_maps_64 : decode cX7_maps 64 = .ok (.ifCond .eq 7, 3) := by decide +kernel
theorem dX7_maps_67 : decode cX7_maps 67 = .ok (.iconst 1, 1) := by decide +kernel
theorem dX7_maps_68 : decode cX7_maps 68 = .ok (.goto 4, 3) := by decide +kernel
theorem dX7_maps_71 : decode cX7_maps 71 = .ok (.iconst 0, 1) := by decide +kernel
theorem dX7_maps_72 : decode cX7_maps 72 = .ok (.iadd, 1) := by decide +kernel
theorem dX7_maps_73 : decode cX7_maps 73 = .ok (.istore 4, 2) := by decide +kernel
theorem dX7_maps_75 : decode cX7_maps 75 = .ok (.goto (-25), 3) := by decide +kernel
theorem dX7_maps_78 : decode cX7_maps 78 = .ok (.iload 4, 2) := by decide +kernel
theorem dX7_maps_80 : decode cX7_maps 80 = .ok (.ireturn, 1) := by decide +kernel
noncomputable def f_X7_maps_b17  (σ : Hp) : Option (Int32 × Hp) := some ((-1), σ)
set_option maxRecDepth 100000 in
set_option maxHeartbeats 4000000 in
theorem t_X7_maps_b17 {l : Launch} {γ : Gm} {ad : Nat → Nat} {K : Option Value → Hp → Prop} (hc : Cx l γ 5 5 ad shM RX7 cX7_maps (some .int) K)  {σ : Hp} (h : wpO (f_X7_maps_b17  σ) (KI K)) : WW l γ 5 5 ad shM 17 [] [] σ := by
  unfold f_X7_maps_b17 at h
  refine r_iconst hc (v := (-1)) (by decide) dX7_maps_17 ?_
  have h := wp_v h
  exact r_iret hc h dX7_maps_18
noncomputable def f_X7_maps_b72 (x0 : Nat) (x3 : Int32) (s0 : Int32) (s1 : Int32) (σ : Hp) : Option (((Int32) ⊕ (Int32)) × Hp) := some (Sum.inl (s0 + s1), σ)
set_option maxRecDepth 100000 in
set_option maxHeartbeats 4000000 in
theorem t_X7_maps_b72 {l : Launch} {γ : Gm} {ad : Nat → Nat} {K : Option Value → Hp → Prop} (hc : Cx l γ 5 5 ad shM RX7 cX7_maps (some .int) K) {x0 : Nat} {x3 : Int32} {s0 : Int32} {s1 : Int32}  {σ : Hp} {KL : ((Int32) ⊕ (Int32)) → Hp → Prop} (h : wpO (f_X7_maps_b72 x0 x3 s0 s1 σ) KL) (kn : ∀ (v : (Int32)) (σ : Hp), KL (Sum.inl v) σ → WW l γ 5 5 ad shM 50 [(0, .ref (ad x0)), (3, .int x3), (4, .int v)] [] σ) (kx78 : ∀ (v : Int32) (σ : Hp), KL (Sum.inr v) σ → WW l γ 5 5 ad shM 78 [(4, .int v)] [] σ) : WW l γ 5 5 ad shM 72 [(0, .ref (ad x0)), (3, .int x3)] [.int s1, .int s0] σ := by
  unfold f_X7_maps_b72 at h
  refine r_iadd hc dX7_maps_72 ?_
  refine r_istoreE hc (i := 4) (lv' := [(4, .int (s0 + s1)), (0, .ref (ad x0)), (3, .int x3)]) rfl (by decide) rfl dX7_maps_73 ?_
  refine r_goto hc (tgt := 50) dX7_maps_75 (by decide) ?_
  refine r_sub [1, 2, 0] (lv' := [(0, .ref (ad x0)), (3, .int x3), (4, .int (s0 + s1))]) rfl ?_
  have h := wp_v h
  exact kn (s0 + s1) _ h
noncomputable def f_X7_maps_L50 (x0 : Nat) (x3 : Int32) (v : (Int32)) (σ : Hp) : Option (((Int32) ⊕ (Int32)) × Hp) := gO (chk shM x0 7) fun _ => bO (f_X7_next x0 σ) fun r1 σ2 => if r1 = 0 then (some (Sum.inr v, σ2)) else (gO (chk shM x0 7) fun _ => bO (f_X7_isOf x0 x3 σ2) fun r4 σ5 => if r4 = 0 then (f_X7_maps_b72 x0 x3 v 0 σ5) else (f_X7_maps_b72 x0 x3 v 1 σ5))
set_option maxRecDepth 100000 in
set_option maxHeartbeats 4000000 in
theorem t_X7_maps_L50 {l : Launch} {γ : Gm} {ad : Nat → Nat} {K : Option Value → Hp → Prop}  (hc : Cx l γ 5 5 ad shM RX7 cX7_maps (some .int) K) {x0 : Nat} {x3 : Int32} {v : (Int32)} {σ : Hp} {KX : (Int32) → Hp → Prop} (h : wpO (wh (f_X7_maps_L50 x0 x3) v σ) KX) (kx78 : ∀ (v : Int32) (σ : Hp), KX v σ → WW l γ 5 5 ad shM 78 [(4, .int v)] [] σ) : WW l γ 5 5 ad shM 50 [(0, .ref (ad x0)), (3, .int x3), (4, .int v)] [] σ := by
  refine wh_W (P := fun v σ => WW l γ 5 5 ad shM 50 [(0, .ref (ad x0)), (3, .int x3), (4, .int v)] [] σ) (fun v σ h => ?_) h
  have kn : ∀ (v : (Int32)) (σ : Hp), WW l γ 5 5 ad shM 50 [(0, .ref (ad x0)), (3, .int x3), (4, .int v)] [] σ → WW l γ 5 5 ad shM 50 [(0, .ref (ad x0)), (3, .int x3), (4, .int v)] [] σ := fun _ _ h => h
  · unfold f_X7_maps_L50 at h
    refine r_aload_n hc 0 rfl rfl dX7_maps_50 ?_
    obtain ⟨_, ek3, h⟩ := wp_g h
    obtain ⟨r1, σ2, er1, h⟩ := wp_b h
    refine r_callV hc (k0 := x0) mv_X7_next ml_X7_240 (c_X7_next er1) (chk_of ek3) cls_7.1 rfl rfl rfl (by decide) rfl (Nat.le_of_ble_eq_true rfl) dX7_maps_51 ?_
    refine r_if_eq hc (tgt := 78) dX7_maps_54 (by decide) (fun c => ?_) (fun c => ?_)
    · have h := wp_t c h
      refine r_sub [2] (lv' := [(4, .int v)]) rfl ?_
      have h := wp_v h
      exact kx78 v _ h
    · have h := wp_f c h
      refine r_iload hc 2 rfl dX7_maps_57 ?_
      refine r_aload_n hc 0 rfl rfl dX7_maps_59 ?_
      refine r_iload_n hc 1 rfl rfl dX7_maps_60 ?_
      obtain ⟨_, ek6, h⟩ := wp_g h
      obtain ⟨r4, σ5, er4, h⟩ := wp_b h
      refine r_callV hc (k0 := x0) mv_X7_isOf ml_X7_249 (c_X7_isOf er4) (chk_of ek6) cls_7.1 rfl rfl rfl (by decide) rfl (Nat.le_of_ble_eq_true rfl) dX7_maps_61 ?_
      refine r_if_eq hc (tgt := 71) dX7_maps_64 (by decide) (fun c => ?_) (fun c => ?_)
      · have h := wp_t c h
        refine r_iconst hc (v := 0) (by decide) dX7_maps_71 ?_
        refine r_sub [0, 1] (lv' := [(0, .ref (ad x0)), (3, .int x3)]) rfl ?_
        exact t_X7_maps_b72 hc h kn kx78
      · have h := wp_f c h
        refine r_iconst hc (v := 1) (by decide) dX7_maps_67 ?_
        refine r_goto hc (tgt := 72) dX7_maps_68 (by decide) ?_
        refine r_sub [0, 1] (lv' := [(0, .ref (ad x0)), (3, .int x3)]) rfl ?_
        exact t_X7_maps_b72 hc h kn kx78
noncomputable def f_X7_maps_b44 (x0 : Nat) (x3 : Int32) (s0 : Nat) (s1 : Int32) (s2 : Int32) (s3 : Int32) (σ : Hp) : Option (Int32 × Hp) := gO (chk shM s0 7) fun _ => bO (f_X7_starts s0 s1 s2 s3 σ) fun _ σ2 => bO (wh (f_X7_maps_L50 x0 x3) 0 σ2) fun y4 σ5 => (some (y4, σ5))
set_option maxRecDepth 100000 in
set_option maxHeartbeats 4000000 in
theorem t_X7_maps_b44 {l : Launch} {γ : Gm} {ad : Nat → Nat} {K : Option Value → Hp → Prop} (hc : Cx l γ 5 5 ad shM RX7 cX7_maps (some .int) K) {x0 : Nat} {x3 : Int32} {s0 : Nat} {s1 : Int32} {s2 : Int32} {s3 : Int32} {σ : Hp} (h : wpO (f_X7_maps_b44 x0 x3 s0 s1 s2 s3 σ) (KI K)) : WW l γ 5 5 ad shM 44 [(0, .ref (ad x0)), (3, .int x3)] [.int s3, .int s2, .int s1, .ref (ad s0)] σ := by
  unfold f_X7_maps_b44 at h
  obtain ⟨_, ek3, h⟩ := wp_g h
  obtain ⟨_, σ2, er1, h⟩ := wp_b h
  refine r_callV hc (k0 := s0) mv_X7_starts ml_X7_237 (c_X7_starts er1) (chk_of ek3) cls_7.1 rfl rfl rfl (by decide) rfl (Nat.le_of_ble_eq_true rfl) dX7_maps_44 ?_
  refine r_iconst hc (v := 0) (by decide) dX7_maps_47 ?_
  refine r_istoreE hc (i := 4) (lv' := [(4, .int 0), (0, .ref (ad x0)), (3, .int x3)]) rfl (by decide) rfl dX7_maps_48 ?_
  refine r_sub [1, 2, 0] (lv' := [(0, .ref (ad x0)), (3, .int x3), (4, .int 0)]) rfl ?_
  refine t_X7_maps_L50 hc (wp_bb h) ?_
  · intro y4 σ5 h
    refine r_iload hc 0 rfl dX7_maps_78 ?_
    have h := wp_v h
    exact r_iret hc h dX7_maps_80
noncomputable def f_X7_maps (x0 : Nat) (x1 : Int32) (x2 : Int32) (x3 : Int32) (σ : Hp) : Option (Int32 × Hp) := bO (f_X7_areDrawers x1 x2 σ) fun r1 σ2 => if r1 = 0 then (f_X7_maps_b17  σ2) else (bO (f_X7_in x3 0 4 σ2) fun r3 σ4 => if r3 = 0 then (f_X7_maps_b17  σ4) else (gO (chk shM x0 7) fun _ => bO (f_X7_isOneEmpty x0 x1 x2 σ4) fun r5 σ6 => if r5 = 0 then (if 4 ≤ x3 then (f_X7_maps_b44 x0 x3 x0 x1 x2 0 σ6) else (f_X7_maps_b44 x0 x3 x0 x1 x2 1 σ6)) else (some ((-2), σ6))))
set_option maxRecDepth 100000 in
set_option maxHeartbeats 4000000 in
theorem t_X7_maps {l : Launch} {γ : Gm} {ad : Nat → Nat} {K : Option Value → Hp → Prop} (hc : Cx l γ 5 5 ad shM RX7 cX7_maps (some .int) K) {x0 : Nat} {x1 : Int32} {x2 : Int32} {x3 : Int32} {σ : Hp} (h : wpO (f_X7_maps x0 x1 x2 x3 σ) (KI K)) : WW l γ 5 5 ad shM 0 [(0, .ref (ad x0)), (1, .int x1), (2, .int x2), (3, .int x3)] [] σ := by
  unfold f_X7_maps at h
  refine r_iload_n hc 1 rfl rfl dX7_maps_0 ?_
  refine r_iload_n hc 2 rfl rfl dX7_maps_1 ?_
  obtain ⟨r1, σ2, er1, h⟩ := wp_b h
  refine r_callS hc ms_X7_areDrawers ml_X7_243 (c_X7_areDrawers er1) rfl rfl (by decide) rfl (Nat.le_of_ble_eq_true rfl) dX7_maps_2 ?_
  refine r_if_eq hc (tgt := 17) dX7_maps_5 (by decide) (fun c => ?_) (fun c => ?_)
  · have h := wp_t c h
    refine r_sub [] (lv' := []) rfl ?_
    exact t_X7_maps_b17 hc h
  · have h := wp_f c h
    refine r_iload_n hc 3 rfl rfl dX7_maps_8 ?_
    refine r_iconst hc (v := 0) (by decide) dX7_maps_9 ?_
    refine r_iconst hc (v := 4) (by decide) dX7_maps_10 ?_
    obtain ⟨r3, σ4, er3, h⟩ := wp_b h
    refine r_callS hc ms_X7_in ml_X7_81 (c_X7_in er3) rfl rfl (by decide) rfl (Nat.le_of_ble_eq_true rfl) dX7_maps_11 ?_
    refine r_if_ne hc (tgt := 19) dX7_maps_14 (by decide) (fun c => ?_) (fun c => ?_)
    · have h := wp_f c h
      refine r_aload_n hc 0 rfl rfl dX7_maps_19 ?_
      refine r_iload_n hc 1 rfl rfl dX7_maps_20 ?_
      refine r_iload_n hc 2 rfl rfl dX7_maps_21 ?_
      obtain ⟨_, ek7, h⟩ := wp_g h
      obtain ⟨r5, σ6, er5, h⟩ := wp_b h
      refine r_callV hc (k0 := x0) mv_X7_isOneEmpty ml_X7_246 (c_X7_isOneEmpty er5) (chk_of ek7) cls_7.1 rfl rfl rfl (by decide) rfl (Nat.le_of_ble_eq_true rfl) dX7_maps_22 ?_
      refine r_if_eq hc (tgt := 31) dX7_maps_25 (by decide) (fun c => ?_) (fun c => ?_)
      · have h := wp_t c h
        refine r_aload_n hc 0 rfl rfl dX7_maps_31 ?_
        refine r_iload_n hc 1 rfl rfl dX7_maps_32 ?_
        refine r_iload_n hc 2 rfl rfl dX7_maps_33 ?_
        refine r_iload_n hc 3 rfl rfl dX7_maps_34 ?_
        refine r_iconst hc (v := 4) (by decide) dX7_maps_35 ?_
        refine r_icmp_ge hc (tgt := 43) dX7_maps_36 (by decide) (fun c => ?_) (fun c => ?_)
        · have h := wp_t c h
          refine r_iconst hc (v := 0) (by decide) dX7_maps_43 ?_
          refine r_sub [0, 3] (lv' := [(0, .ref (ad x0)), (3, .int x3)]) rfl ?_
          exact t_X7_maps_b44 hc h
        · have h := wp_f c h
          refine r_iconst hc (v := 1) (by decide) dX7_maps_39 ?_
          refine r_goto hc (tgt := 44) dX7_maps_40 (by decide) ?_
          refine r_sub [0, 3] (lv' := [(0, .ref (ad x0)), (3, .int x3)]) rfl ?_
          exact t_X7_maps_b44 hc h
      · have h := wp_f c h
        refine r_bipush hc (v := (-2)) (by decide) dX7_maps_28 ?_
        have h := wp_v h
        exact r_iret hc h dX7_maps_30
    · have h := wp_t c h
      refine r_sub [] (lv' := []) rfl ?_
      exact t_X7_maps_b17 hc h
theorem c_X7_maps {l : Launch} {x0 : Nat} {x1 : Int32} {x2 : Int32} {x3 : Int32} {σ σ' : Hp} {r : Int32} (h : f_X7_maps x0 x1 x2 x3 σ = some (r, σ')) : Mt l yX7_maps cX7_maps 5 (some .int) 5 shM (fun ad => [.ref (ad x0), .int x1, .int x2, .int x3]) σ (fun ad => some (.int r)) σ' := mt_i (own := RX7) (by decide) rfl (fun _ => Nat.le_of_ble_eq_true rfl) (fun γ ad K hc hk => t_X7_maps hc ⟨_, _, h, hk⟩)

-- NetMapsModel.map(IIII)I
theorem dX7_map_0 : decode cX7_map 0 = .ok (.iload_n 1, 1) := by decide +kernel
theorem dX7_map_1 : decode cX7_map 1 = .ok (.iload_n 2, 1) := by decide +kernel
theorem dX7_map_2 : decode cX7_map 2 = .ok (.invokestatic 243, 3) := by decide +kernel
theorem dX7_map_5 : decode cX7_map 5 = .ok (.ifCond .eq 17, 3) := by decide +kernel
theorem dX7_map_8 : decode cX7_map 8 = .ok (.iload_n 3, 1) := by decide +kernel
theorem dX7_map_9 : decode cX7_map 9 = .ok (.ifCond .lt 13, 3) := by decide +kernel
theorem dX7_map_12 : decode cX7_map 12 = .ok (.aload_n 0, 1) := by decide +kernel
theorem dX7_map_13 : decode cX7_map 13 = .ok (.iload_n 1, 1) := by decide +kernel
theorem dX7_map_14 : decode cX7_map 14 = .ok (.iload 4, 2) := by decide +kernel
theorem dX7_map_16 : decode cX7_map 16 = .ok (.invokevirtual 144, 3) := by decide +kernel
theorem dX7_map_19 : decode cX7_map 19 = .ok (.ifCond .ne 5, 3) := by decide +kernel
theorem dX7_map_22 : decode cX7_map 22 = .ok (.iconst (-1), 1) := by decide +kernel
theorem dX7_map_23 : decode cX7_map 23 = .ok (.ireturn, 1) := by decide +kernel
theorem dX7_map_24 : decode cX7_map 24 = .ok (.aload_n 0, 1) := by decide +kernel
theorem dX7_map_25 : decode cX7_map 25 = .ok (.iload_n 1, 1) := by decide +kernel
theorem dX7_map_26 : decode cX7_map 26 = .ok (.iload_n 2, 1) := by decide +kernel
theorem dX7_map_27 : decode cX7_map 27 = .ok (.invokevirtual 246, 3) := by decide +kernel
theorem dX7_map_30 : decode cX7_map 30 = .ok (.ifCond .eq 6, 3) := by decide +kernel
theorem dX7_map_33 : decode cX7_map 33 = .ok (.bipush (-2), 2) := by decide +kernel
theorem dX7_map_35 : decode cX7_map 35 = .ok (.ireturn, 1) := by decide +kernel
theorem dX7_map_36 : decode cX7_map 36 = .ok (.aload_n 0, 1) := by decide +kernel
theorem dX7_map_37 : decode cX7_map 37 = .ok (.iload_n 1, 1) := by decide +kernel
theorem dX7_map_38 : decode cX7_map 38 = .ok (.iload_n 2, 1) := by decide +kernel
theorem dX7_map_39 : decode cX7_map 39 = .ok (.iload_n 3, 1) := by decide +kernel
theorem dX7_map_40 : decode cX7_map 40 = .ok (.iconst 1, 1) := by decide +kernel
theorem dX7_map_41 : decode cX7_map 41 = .ok (.invokevirtual 252, 3) := by decide +kernel
theorem dX7_map_44 : decode cX7_map 44 = .ok (.ifCond .eq 13, 3) := by decide +kernel
theorem dX7_map_47 : decode cX7_map 47 = .ok (.aload_n 0, 1) := by decide +kernel
theorem dX7_map_48 : decode cX7_map 48 = .ok (.getfield 29, 3) := by decide +kernel
theorem dX7_map_51 : decode cX7_map 51 = .ok (.iload 4, 2) := by decide +kernel
theorem dX7_map_53 : decode cX7_map 53 = .ok (.iaload, 1) := by decide +kernel
theorem dX7_map_54 : decode cX7_map 54 = .ok (.goto 5, 3) := by decide +kernel
theorem dX7_map_57 : decode cX7_map 57 = .ok (.bipush (-3), 2) := by decide +kernel
theorem dX7_map_59 : decode cX7_map 59 = .ok (.ireturn, 1) := by decide +kernel
noncomputable def f_X7_map_b22  (σ : Hp) : Option (Int32 × Hp) := some ((-1), σ)
set_option maxRecDepth 100000 in
set_option maxHeartbeats 4000000 in
theorem t_X7_map_b22 {l : Launch} {γ : Gm} {ad : Nat → Nat} {K : Option Value → Hp → Prop} (hc : Cx l γ 6 5 ad shM RX7 cX7_map (some .int) K)  {σ : Hp} (h : wpO (f_X7_map_b22  σ) (KI K)) : WW l γ 6 5 ad shM 22 [] [] σ := by
  unfold f_X7_map_b22 at h
  refine r_iconst hc (v := (-1)) (by decide) dX7_map_22 ?_
  have h := wp_v h
  exact r_iret hc h dX7_map_23
noncomputable def f_X7_map_b59 (s0 : Int32) (σ : Hp) : Option (Int32 × Hp) := some (s0, σ)
set_option maxRecDepth 100000 in
set_option maxHeartbeats 4000000 in
theorem t_X7_map_b59 {l : Launch} {γ : Gm} {ad : Nat → Nat} {K : Option Value → Hp → Prop} (hc : Cx l γ 6 5 ad shM RX7 cX7_map (some .int) K) {s0 : Int32} {σ : Hp} (h : wpO (f_X7_map_b59 s0 σ) (KI K)) : WW l γ 6 5 ad shM 59 [] [.int s0] σ := by
  unfold f_X7_map_b59 at h
  have h := wp_v h
  exact r_iret hc h dX7_map_59
noncomputable def f_X7_map (x0 : Nat) (x1 : Int32) (x2 : Int32) (x3 : Int32) (x4 : Int32) (σ : Hp) : Option (Int32 × Hp) := bO (f_X7_areDrawers x1 x2 σ) fun r1 σ2 => if r1 = 0 then (f_X7_map_b22  σ2) else (if x3 < 0 then (f_X7_map_b22  σ2) else (gO (chk shM x0 7) fun _ => bO (f_X7_isNode x0 x1 x4 σ2) fun r3 σ4 => if r3 = 0 then (f_X7_map_b22  σ4) else (gO (chk shM x0 7) fun _ => bO (f_X7_isOneEmpty x0 x1 x2 σ4) fun r6 σ7 => if r6 = 0 then (gO (chk shM x0 7) fun _ => bO (f_X7_stands x0 x1 x2 x3 1 σ7) fun r9 σ10 => if r9 = 0 then (f_X7_map_b59 (-3) σ10) else (gO (getR shM 7 x0 9 σ10) fun v12 => gO (aldI shM 0 v12 x4 σ10) fun v13 => f_X7_map_b59 v13 σ10)) else (some ((-2), σ7)))))
set_option maxRecDepth 100000 in
set_option maxHeartbeats 4000000 in
theorem t_X7_map {l : Launch} {γ : Gm} {ad : Nat → Nat} {K : Option Value → Hp → Prop} (hc : Cx l γ 6 5 ad shM RX7 cX7_map (some .int) K) {x0 : Nat} {x1 : Int32} {x2 : Int32} {x3 : Int32} {x4 : Int32} {σ : Hp} (h : wpO (f_X7_map x0 x1 x2 x3 x4 σ) (KI K)) : WW l γ 6 5 ad shM 0 [(0, .ref (ad x0)), (1, .int x1), (2, .int x2), (3, .int x3), (4, .int x4)] [] σ := by
  unfold f_X7_map at h
  refine r_iload_n hc 1 rfl rfl dX7_map_0 ?_
  refine r_iload_n hc 2 rfl rfl dX7_map_1 ?_
  obtain ⟨r1, σ2, er1, h⟩ := wp_b h
  refine r_callS hc ms_X7_areDrawers ml_X7_243 (c_X7_areDrawers er1) rfl rfl (by decide) rfl (Nat.le_of_ble_eq_true rfl) dX7_map_2 ?_
  refine r_if_eq hc (tgt := 22) dX7_map_5 (by decide) (fun c => ?_) (fun c => ?_)
  · have h := wp_t c h
    refine r_sub [] (lv' := []) rfl ?_
    exact t_X7_map_b22 hc h
  · have h := wp_f c h
    refine r_iload_n hc 3 rfl rfl dX7_map_8 ?_
    refine r_if_lt hc (tgt := 22) dX7_map_9 (by decide) (fun c => ?_) (fun c => ?_)
    · have h := wp_t c h
      refine r_sub [] (lv' := []) rfl ?_
      exact t_X7_map_b22 hc h
    · have h := wp_f c h
      refine r_aload_n hc 0 rfl rfl dX7_map_12 ?_
      refine r_iload_n hc 1 rfl rfl dX7_map_13 ?_
      refine r_iload hc 4 rfl dX7_map_14 ?_
      obtain ⟨_, ek5, h⟩ := wp_g h
      obtain ⟨r3, σ4, er3, h⟩ := wp_b h
      refine r_callV hc (k0 := x0) mv_X7_isNode ml_X7_144 (c_X7_isNode er3) (chk_of ek5) cls_7.1 rfl rfl rfl (by decide) rfl (Nat.le_of_ble_eq_true rfl) dX7_map_16 ?_
      refine r_if_ne hc (tgt := 24) dX7_map_19 (by decide) (fun c => ?_) (fun c => ?_)
      · have h := wp_f c h
        refine r_aload_n hc 0 rfl rfl dX7_map_24 ?_
        refine r_iload_n hc 1 rfl rfl dX7_map_25 ?_
        refine r_iload_n hc 2 rfl rfl dX7_map_26 ?_
        obtain ⟨_, ek8, h⟩ := wp_g h
        obtain ⟨r6, σ7, er6, h⟩ := wp_b h
        refine r_callV hc (k0 := x0) mv_X7_isOneEmpty ml_X7_246 (c_X7_isOneEmpty er6) (chk_of ek8) cls_7.1 rfl rfl rfl (by decide) rfl (Nat.le_of_ble_eq_true rfl) dX7_map_27 ?_
        refine r_if_eq hc (tgt := 36) dX7_map_30 (by decide) (fun c => ?_) (fun c => ?_)
        · have h := wp_t c h
          refine r_aload_n hc 0 rfl rfl dX7_map_36 ?_
          refine r_iload_n hc 1 rfl rfl dX7_map_37 ?_
          refine r_iload_n hc 2 rfl rfl dX7_map_38 ?_
          refine r_iload_n hc 3 rfl rfl dX7_map_39 ?_
          refine r_iconst hc (v := 1) (by decide) dX7_map_40 ?_
          obtain ⟨_, ek11, h⟩ := wp_g h
          obtain ⟨r9, σ10, er9, h⟩ := wp_b h
          refine r_callV hc (k0 := x0) mv_X7_stands ml_X7_252 (c_X7_stands er9) (chk_of ek11) cls_7.1 rfl rfl rfl (by decide) rfl (Nat.le_of_ble_eq_true rfl) dX7_map_41 ?_
          refine r_if_eq hc (tgt := 57) dX7_map_44 (by decide) (fun c => ?_) (fun c => ?_)
          · have h := wp_t c h
            refine r_bipush hc (v := (-3)) (by decide) dX7_map_57 ?_
            refine r_sub [] (lv' := []) rfl ?_
            exact t_X7_map_b59 hc h
          · have h := wp_f c h
            refine r_aload_n hc 0 rfl rfl dX7_map_47 ?_
            obtain ⟨v12, ev12, h⟩ := wp_g h
            refine r_getR hc ev12 fl_X7_29 rfl dX7_map_48 ?_
            refine r_iload hc 4 rfl dX7_map_51 ?_
            obtain ⟨v13, ev13, h⟩ := wp_g h
            refine r_iald hc ev13 dX7_map_53 ?_
            refine r_goto hc (tgt := 59) dX7_map_54 (by decide) ?_
            refine r_sub [] (lv' := []) rfl ?_
            exact t_X7_map_b59 hc h
        · have h := wp_f c h
          refine r_bipush hc (v := (-2)) (by decide) dX7_map_33 ?_
          have h := wp_v h
          exact r_iret hc h dX7_map_35
      · have h := wp_t c h
        refine r_sub [] (lv' := []) rfl ?_
        exact t_X7_map_b22 hc h
theorem c_X7_map {l : Launch} {x0 : Nat} {x1 : Int32} {x2 : Int32} {x3 : Int32} {x4 : Int32} {σ σ' : Hp} {r : Int32} (h : f_X7_map x0 x1 x2 x3 x4 σ = some (r, σ')) : Mt l yX7_map cX7_map 5 (some .int) 6 shM (fun ad => [.ref (ad x0), .int x1, .int x2, .int x3, .int x4]) σ (fun ad => some (.int r)) σ' := mt_i (own := RX7) (by decide) rfl (fun _ => Nat.le_of_ble_eq_true rfl) (fun γ ad K hc hk => t_X7_map hc ⟨_, _, h, hk⟩)

-- NetMapsModel.becomes(IIII)I
theorem dX7_becomes_0 : decode cX7_becomes 0 = .ok (.iload_n 1, 1) := by decide +kernel
theorem dX7_becomes_1 : decode cX7_becomes 1 = .ok (.iload_n 2, 1) := by decide +kernel
theorem dX7_becomes_2 : decode cX7_becomes 2 = .ok (.invokestatic 243, 3) := by decide +kernel
theorem dX7_becomes_5 : decode cX7_becomes 5 = .ok (.ifCond .eq 22, 3) := by decide +kernel
theorem dX7_becomes_8 : decode cX7_becomes 8 = .ok (.aload_n 0, 1) := by decide +kernel
theorem dX7_becomes_9 : decode cX7_becomes 9 = .ok (.iload_n 1, 1) := by decide +kernel
theorem dX7_becomes_10 : decode cX7_becomes 10 = .ok (.iload_n 3, 1) := by decide +kernel
theorem dX7_becomes_11 : decode cX7_becomes 11 = .ok (.invokevirtual 144, 3) := by decide +kernel
theorem dX7_becomes_14 : decode cX7_becomes 14 = .ok (.ifCond .eq 13, 3) := by decide +kernel
theorem dX7_becomes_17 : decode cX7_becomes 17 = .ok (.aload_n 0, 1) := by decide +kernel
theorem dX7_becomes_18 : decode cX7_becomes 18 = .ok (.iload_n 2, 1) := by decide +kernel
theorem dX7_becomes_19 : decode cX7_becomes 19 = .ok (.iload 4, 2) := by decide +kernel
theorem dX7_becomes_21 : decode cX7_becomes 21 = .ok (.invokevirtual 144, 3) := by decide +kernel
theorem dX7_becomes_24 : decode cX7_becomes 24 = .ok (.ifCond .ne 5, 3) := by decide +kernel
theorem dX7_becomes_27 : decode cX7_becomes 27 = .ok (.iconst (-1), 1) := by decide +kernel
theorem dX7_becomes_28 : decode cX7_becomes 28 = .ok (.ireturn, 1) := by decide +kernel
theorem dX7_becomes_29 : decode cX7_becomes 29 = .ok (.aload_n 0, 1) := by decide +kernel
theorem dX7_becomes_30 : decode cX7_becomes 30 = .ok (.iload_n 1, 1) := by decide +kernel
theorem dX7_becomes_31 : decode cX7_becomes 31 = .ok (.iload_n 2, 1) := by decide +kernel
theorem dX7_becomes_32 : decode cX7_becomes 32 = .ok (.invokevirtual 246, 3) := by decide +kernel
theorem dX7_becomes_35 : decode cX7_becomes 35 = .ok (.ifCond .eq 6, 3) := by decide +kernel
theorem dX7_becomes_38 : decode cX7_becomes 38 = .ok (.bipush (-2), 2) := by decide +kernel
theorem dX7_becomes_40 : decode cX7_becomes 40 = .ok (.ireturn, 1) := by decide +kernel
theorem dX7_becomes_41 : decode cX7_becomes 41 = .ok (.aload_n 0, 1) := by decide +kernel
theorem dX7_becomes_42 : decode cX7_becomes 42 = .ok (.iload_n 1, 1) := by decide +kernel
theorem dX7_becomes_43 : decode cX7_becomes 43 = .ok (.iload_n 2, 1) := by decide +kernel
theorem dX7_becomes_44 : decode cX7_becomes 44 = .ok (.iconst 1, 1) := by decide +kernel
theorem dX7_becomes_45 : decode cX7_becomes 45 = .ok (.invokevirtual 237, 3) := by decide +kernel
theorem dX7_becomes_48 : decode cX7_becomes 48 = .ok (.iconst 0, 1) := by decide +kernel
theorem dX7_becomes_49 : decode cX7_becomes 49 = .ok (.istore 5, 2) := by decide +kernel
theorem dX7_becomes_51 : decode cX7_becomes 51 = .ok (.aload_n 0, 1) := by decide +kernel
theorem dX7_becomes_52 : decode cX7_becomes 52 = .ok (.invokevirtual 240, 3) := by decide +kernel
theorem dX7_becomes_55 : decode cX7_becomes 55 = .ok (.ifCond .eq 27, 3) := by decide +kernel
theorem dX7_becomes_58 : decode cX7_becomes 58 = .ok (.iload 5, 2) := by decide +kernel
theorem dX7_becomes_60 : decode cX7_becomes 60 = .ok (.aload_n 0, 1) := by decide +kernel
theorem dX7_becomes_61 : decode cX7_becomes 61 = .ok (.getfield 29, 3) := by decide +kernel
theorem dX7_becomes_64 : decode cX7_becomes 64 = .ok (.iload_n 3, 1) := by decide +kernel
theorem dX7_becomes_65 : decode cX7_becomes 65 = .ok (.iaload, 1) := by decide +kernel
theorem dX7_becomes_66 : decode cX7_becomes 66 = .ok (.iload 4, 2) := by decide +kernel
theorem dX7_becomes_68 : decode cX7_becomes 68 = .ok (.if_icmp .ne 7, 3) := by decide +kernel
theorem dX7_becomes_71 : decode cX7_becomes 71 = .ok (.iconst 1, 1) := by decide +kernel
theorem dX7_becomes_72 : decode cX7_becomes 72 = .ok (.goto 4, 3) := by decide +kernel
theorem dX7_becomes_75 : decode cX7_becomes 75 = .ok (.iconst 0, 1) := by decide +kernel
theorem dX7_becomes_76 : decode cX7_becomes 76 = .ok (.iadd, 1) := by decide +kernel
theorem dX7_becomes_77 : decode cX7_becomes 77 = .ok (.istore 5, 2) := by decide +kernel
theorem dX7_becomes_79 : decode cX7_becomes 79 = .ok (.goto (-28), 3) := by decide +kernel
theorem dX7_becomes_82 : decode cX7_becomes 82 = .ok (.iload 5, 2) := by decide +kernel
theorem dX7_becomes_84 : decode cX7_becomes 84 = .ok (.ireturn, 1) := by decide +kernel
noncomputable def f_X7_becomes_b27  (σ : Hp) : Option (Int32 × Hp) := some ((-1), σ)
set_option maxRecDepth 100000 in
set_option maxHeartbeats 4000000 in
theorem t_X7_becomes_b27 {l : Launch} {γ : Gm} {ad : Nat → Nat} {K : Option Value → Hp → Prop} (hc : Cx l γ 5 6 ad shM RX7 cX7_becomes (some .int) K)  {σ : Hp} (h : wpO (f_X7_becomes_b27  σ) (KI K)) : WW l γ 5 6 ad shM 27 [] [] σ := by
  unfold f_X7_becomes_b27 at h
  refine r_iconst hc (v := (-1)) (by decide) dX7_becomes_27 ?_
  have h := wp_v h
  exact r_iret hc h dX7_becomes_28
noncomputable def f_X7_becomes_b76 (x0 : Nat) (x3 : Int32) (x4 : Int32) (s0 : Int32) (s1 : Int32) (σ : Hp) : Option (((Int32) ⊕ (Int32)) × Hp) := some (Sum.inl (s0 + s1), σ)
set_option maxRecDepth 100000 in
set_option maxHeartbeats 4000000 in
theorem t_X7_becomes_b76 {l : Launch} {γ : Gm} {ad : Nat → Nat} {K : Option Value → Hp → Prop} (hc : Cx l γ 5 6 ad shM RX7 cX7_becomes (some .int) K) {x0 : Nat} {x3 : Int32} {x4 : Int32} {s0 : Int32} {s1 : Int32}  {σ : Hp} {KL : ((Int32) ⊕ (Int32)) → Hp → Prop} (h : wpO (f_X7_becomes_b76 x0 x3 x4 s0 s1 σ) KL) (kn : ∀ (v : (Int32)) (σ : Hp), KL (Sum.inl v) σ → WW l γ 5 6 ad shM 51 [(0, .ref (ad x0)), (3, .int x3), (4, .int x4), (5, .int v)] [] σ) (kx82 : ∀ (v : Int32) (σ : Hp), KL (Sum.inr v) σ → WW l γ 5 6 ad shM 82 [(5, .int v)] [] σ) : WW l γ 5 6 ad shM 76 [(0, .ref (ad x0)), (3, .int x3), (4, .int x4)] [.int s1, .int s0] σ := by
  unfold f_X7_becomes_b76 at h
  refine r_iadd hc dX7_becomes_76 ?_
  refine r_istoreE hc (i := 5) (lv' := [(5, .int (s0 + s1)), (0, .ref (ad x0)), (3, .int x3), (4, .int x4)]) rfl (by decide) rfl dX7_becomes_77 ?_
  refine r_goto hc (tgt := 51) dX7_becomes_79 (by decide) ?_
  refine r_sub [1, 2, 3, 0] (lv' := [(0, .ref (ad x0)), (3, .int x3), (4, .int x4), (5, .int (s0 + s1))]) rfl ?_
  have h := wp_v h
  exact kn (s0 + s1) _ h
noncomputable def f_X7_becomes_L51 (x0 : Nat) (x3 : Int32) (x4 : Int32) (v : (Int32)) (σ : Hp) : Option (((Int32) ⊕ (Int32)) × Hp) := gO (chk shM x0 7) fun _ => bO (f_X7_next x0 σ) fun r1 σ2 => if r1 = 0 then (some (Sum.inr v, σ2)) else (gO (getR shM 7 x0 9 σ2) fun v4 => gO (aldI shM 0 v4 x3 σ2) fun v5 => if v5 = x4 then (f_X7_becomes_b76 x0 x3 x4 v 1 σ2) else (f_X7_becomes_b76 x0 x3 x4 v 0 σ2))
set_option maxRecDepth 100000 in
set_option maxHeartbeats 4000000 in
theorem t_X7_becomes_L51 {l : Launch} {γ : Gm} {ad : Nat → Nat} {K : Option Value → Hp → Prop}  (hc : Cx l γ 5 6 ad shM RX7 cX7_becomes (some .int) K) {x0 : Nat} {x3 : Int32} {x4 : Int32} {v : (Int32)} {σ : Hp} {KX : (Int32) → Hp → Prop} (h : wpO (wh (f_X7_becomes_L51 x0 x3 x4) v σ) KX) (kx82 : ∀ (v : Int32) (σ : Hp), KX v σ → WW l γ 5 6 ad shM 82 [(5, .int v)] [] σ) : WW l γ 5 6 ad shM 51 [(0, .ref (ad x0)), (3, .int x3), (4, .int x4), (5, .int v)] [] σ := by
  refine wh_W (P := fun v σ => WW l γ 5 6 ad shM 51 [(0, .ref (ad x0)), (3, .int x3), (4, .int x4), (5, .int v)] [] σ) (fun v σ h => ?_) h
  have kn : ∀ (v : (Int32)) (σ : Hp), WW l γ 5 6 ad shM 51 [(0, .ref (ad x0)), (3, .int x3), (4, .int x4), (5, .int v)] [] σ → WW l γ 5 6 ad shM 51 [(0, .ref (ad x0)), (3, .int x3), (4, .int x4), (5, .int v)] [] σ := fun _ _ h => h
  · unfold f_X7_becomes_L51 at h
    refine r_aload_n hc 0 rfl rfl dX7_becomes_51 ?_
    obtain ⟨_, ek3, h⟩ := wp_g h
    obtain ⟨r1, σ2, er1, h⟩ := wp_b h
    refine r_callV hc (k0 := x0) mv_X7_next ml_X7_240 (c_X7_next er1) (chk_of ek3) cls_7.1 rfl rfl rfl (by decide) rfl (Nat.le_of_ble_eq_true rfl) dX7_becomes_52 ?_
    refine r_if_eq hc (tgt := 82) dX7_becomes_55 (by decide) (fun c => ?_) (fun c => ?_)
    · have h := wp_t c h
      refine r_sub [3] (lv' := [(5, .int v)]) rfl ?_
      have h := wp_v h
      exact kx82 v _ h
    · have h := wp_f c h
      refine r_iload hc 3 rfl dX7_becomes_58 ?_
      refine r_aload_n hc 0 rfl rfl dX7_becomes_60 ?_
      obtain ⟨v4, ev4, h⟩ := wp_g h
      refine r_getR hc ev4 fl_X7_29 rfl dX7_becomes_61 ?_
      refine r_iload_n hc 1 rfl rfl dX7_becomes_64 ?_
      obtain ⟨v5, ev5, h⟩ := wp_g h
      refine r_iald hc ev5 dX7_becomes_65 ?_
      refine r_iload hc 2 rfl dX7_becomes_66 ?_
      refine r_icmp_ne hc (tgt := 75) dX7_becomes_68 (by decide) (fun c => ?_) (fun c => ?_)
      · have h := wp_f c h
        refine r_iconst hc (v := 0) (by decide) dX7_becomes_75 ?_
        refine r_sub [0, 1, 2] (lv' := [(0, .ref (ad x0)), (3, .int x3), (4, .int x4)]) rfl ?_
        exact t_X7_becomes_b76 hc h kn kx82
      · have h := wp_t c h
        refine r_iconst hc (v := 1) (by decide) dX7_becomes_71 ?_
        refine r_goto hc (tgt := 76) dX7_becomes_72 (by decide) ?_
        refine r_sub [0, 1, 2] (lv' := [(0, .ref (ad x0)), (3, .int x3), (4, .int x4)]) rfl ?_
        exact t_X7_becomes_b76 hc h kn kx82
noncomputable def f_X7_becomes (x0 : Nat) (x1 : Int32) (x2 : Int32) (x3 : Int32) (x4 : Int32) (σ : Hp) : Option (Int32 × Hp) := bO (f_X7_areDrawers x1 x2 σ) fun r1 σ2 => if r1 = 0 then (f_X7_becomes_b27  σ2) else (gO (chk shM x0 7) fun _ => bO (f_X7_isNode x0 x1 x3 σ2) fun r3 σ4 => if r3 = 0 then (f_X7_becomes_b27  σ4) else (gO (chk shM x0 7) fun _ => bO (f_X7_isNode x0 x2 x4 σ4) fun r6 σ7 => if r6 = 0 then (f_X7_becomes_b27  σ7) else (gO (chk shM x0 7) fun _ => bO (f_X7_isOneEmpty x0 x1 x2 σ7) fun r9 σ10 => if r9 = 0 then (gO (chk shM x0 7) fun _ => bO (f_X7_starts x0 x1 x2 1 σ10) fun _ σ13 => bO (wh (f_X7_becomes_L51 x0 x3 x4) 0 σ13) fun y15 σ16 => (some (y15, σ16))) else (some ((-2), σ10)))))
set_option maxRecDepth 100000 in
set_option maxHeartbeats 4000000 in
theorem t_X7_becomes {l : Launch} {γ : Gm} {ad : Nat → Nat} {K : Option Value → Hp → Prop} (hc : Cx l γ 5 6 ad shM RX7 cX7_becomes (some .int) K) {x0 : Nat} {x1 : Int32} {x2 : Int32} {x3 : Int32} {x4 : Int32} {σ : Hp} (h : wpO (f_X7_becomes x0 x1 x2 x3 x4 σ) (KI K)) : WW l γ 5 6 ad shM 0 [(0, .ref (ad x0)), (1, .int x1), (2, .int x2), (3, .int x3), (4, .int x4)] [] σ := by
  unfold f_X7_becomes at h
  refine r_iload_n hc 1 rfl rfl dX7_becomes_0 ?_
  refine r_iload_n hc 2 rfl rfl dX7_becomes_1 ?_
  obtain ⟨r1, σ2, er1, h⟩ := wp_b h
  refine r_callS hc ms_X7_areDrawers ml_X7_243 (c_X7_areDrawers er1) rfl rfl (by decide) rfl (Nat.le_of_ble_eq_true rfl) dX7_becomes_2 ?_
  refine r_if_eq hc (tgt := 27) dX7_becomes_5 (by decide) (fun c => ?_) (fun c => ?_)
  · have h := wp_t c h
    refine r_sub [] (lv' := []) rfl ?_
    exact t_X7_becomes_b27 hc h
  · have h := wp_f c h
    refine r_aload_n hc 0 rfl rfl dX7_becomes_8 ?_
    refine r_iload_n hc 1 rfl rfl dX7_becomes_9 ?_
    refine r_iload_n hc 3 rfl rfl dX7_becomes_10 ?_
    obtain ⟨_, ek5, h⟩ := wp_g h
    obtain ⟨r3, σ4, er3, h⟩ := wp_b h
    refine r_callV hc (k0 := x0) mv_X7_isNode ml_X7_144 (c_X7_isNode er3) (chk_of ek5) cls_7.1 rfl rfl rfl (by decide) rfl (Nat.le_of_ble_eq_true rfl) dX7_becomes_11 ?_
    refine r_if_eq hc (tgt := 27) dX7_becomes_14 (by decide) (fun c => ?_) (fun c => ?_)
    · have h := wp_t c h
      refine r_sub [] (lv' := []) rfl ?_
      exact t_X7_becomes_b27 hc h
    · have h := wp_f c h
      refine r_aload_n hc 0 rfl rfl dX7_becomes_17 ?_
      refine r_iload_n hc 2 rfl rfl dX7_becomes_18 ?_
      refine r_iload hc 4 rfl dX7_becomes_19 ?_
      obtain ⟨_, ek8, h⟩ := wp_g h
      obtain ⟨r6, σ7, er6, h⟩ := wp_b h
      refine r_callV hc (k0 := x0) mv_X7_isNode ml_X7_144 (c_X7_isNode er6) (chk_of ek8) cls_7.1 rfl rfl rfl (by decide) rfl (Nat.le_of_ble_eq_true rfl) dX7_becomes_21 ?_
      refine r_if_ne hc (tgt := 29) dX7_becomes_24 (by decide) (fun c => ?_) (fun c => ?_)
      · have h := wp_f c h
        refine r_aload_n hc 0 rfl rfl dX7_becomes_29 ?_
        refine r_iload_n hc 1 rfl rfl dX7_becomes_30 ?_
        refine r_iload_n hc 2 rfl rfl dX7_becomes_31 ?_
        obtain ⟨_, ek11, h⟩ := wp_g h
        obtain ⟨r9, σ10, er9, h⟩ := wp_b h
        refine r_callV hc (k0 := x0) mv_X7_isOneEmpty ml_X7_246 (c_X7_isOneEmpty er9) (chk_of ek11) cls_7.1 rfl rfl rfl (by decide) rfl (Nat.le_of_ble_eq_true rfl) dX7_becomes_32 ?_
        refine r_if_eq hc (tgt := 41) dX7_becomes_35 (by decide) (fun c => ?_) (fun c => ?_)
        · have h := wp_t c h
          refine r_aload_n hc 0 rfl rfl dX7_becomes_41 ?_
          refine r_iload_n hc 1 rfl rfl dX7_becomes_42 ?_
          refine r_iload_n hc 2 rfl rfl dX7_becomes_43 ?_
          refine r_iconst hc (v := 1) (by decide) dX7_becomes_44 ?_
          obtain ⟨_, ek14, h⟩ := wp_g h
          obtain ⟨_, σ13, er12, h⟩ := wp_b h
          refine r_callV hc (k0 := x0) mv_X7_starts ml_X7_237 (c_X7_starts er12) (chk_of ek14) cls_7.1 rfl rfl rfl (by decide) rfl (Nat.le_of_ble_eq_true rfl) dX7_becomes_45 ?_
          refine r_iconst hc (v := 0) (by decide) dX7_becomes_48 ?_
          refine r_istoreE hc (i := 5) (lv' := [(5, .int 0), (0, .ref (ad x0)), (1, .int x1), (2, .int x2), (3, .int x3), (4, .int x4)]) rfl (by decide) rfl dX7_becomes_49 ?_
          refine r_sub [1, 4, 5, 0] (lv' := [(0, .ref (ad x0)), (3, .int x3), (4, .int x4), (5, .int 0)]) rfl ?_
          refine t_X7_becomes_L51 hc (wp_bb h) ?_
          · intro y15 σ16 h
            refine r_iload hc 0 rfl dX7_becomes_82 ?_
            have h := wp_v h
            exact r_iret hc h dX7_becomes_84
        · have h := wp_f c h
          refine r_bipush hc (v := (-2)) (by decide) dX7_becomes_38 ?_
          have h := wp_v h
          exact r_iret hc h dX7_becomes_40
      · have h := wp_t c h
        refine r_sub [] (lv' := []) rfl ?_
        exact t_X7_becomes_b27 hc h
theorem c_X7_becomes {l : Launch} {x0 : Nat} {x1 : Int32} {x2 : Int32} {x3 : Int32} {x4 : Int32} {σ σ' : Hp} {r : Int32} (h : f_X7_becomes x0 x1 x2 x3 x4 σ = some (r, σ')) : Mt l yX7_becomes cX7_becomes 6 (some .int) 5 shM (fun ad => [.ref (ad x0), .int x1, .int x2, .int x3, .int x4]) σ (fun ad => some (.int r)) σ' := mt_i (own := RX7) (by decide) rfl (fun _ => Nat.le_of_ble_eq_true rfl) (fun γ ad K hc hk => t_X7_becomes hc ⟨_, _, h, hk⟩)
