-- NetMapsModel.holds(III)I
theorem dX7_holds_0 : decode cX7_holds 0 = .ok (.iconst 0, 1) := by decide +kernel
theorem dX7_holds_1 : decode cX7_holds 1 = .ok (.istore 4, 2) := by decide +kernel
theorem dX7_holds_3 : decode cX7_holds 3 = .ok (.iconst 0, 1) := by decide +kernel
theorem dX7_holds_4 : decode cX7_holds 4 = .ok (.istore 5, 2) := by decide +kernel
theorem dX7_holds_6 : decode cX7_holds 6 = .ok (.iload 5, 2) := by decide +kernel
theorem dX7_holds_8 : decode cX7_holds 8 = .ok (.aload_n 0, 1) := by decide +kernel
theorem dX7_holds_9 : decode cX7_holds 9 = .ok (.getfield 7, 3) := by decide +kernel
theorem dX7_holds_12 : decode cX7_holds 12 = .ok (.iload_n 2, 1) := by decide +kernel
theorem dX7_holds_13 : decode cX7_holds 13 = .ok (.iaload, 1) := by decide +kernel
theorem dX7_holds_14 : decode cX7_holds 14 = .ok (.if_icmp .ge 182, 3) := by decide +kernel
theorem dX7_holds_17 : decode cX7_holds 17 = .ok (.aload_n 0, 1) := by decide +kernel
theorem dX7_holds_18 : decode cX7_holds 18 = .ok (.getfield 35, 3) := by decide +kernel
theorem dX7_holds_21 : decode cX7_holds 21 = .ok (.iload_n 3, 1) := by decide +kernel
theorem dX7_holds_22 : decode cX7_holds 22 = .ok (.iaload, 1) := by decide +kernel
theorem dX7_holds_23 : decode cX7_holds 23 = .ok (.iload 5, 2) := by decide +kernel
theorem dX7_holds_25 : decode cX7_holds 25 = .ok (.invokestatic 89, 3) := by decide +kernel
theorem dX7_holds_28 : decode cX7_holds 28 = .ok (.ifCond .eq 29, 3) := by decide +kernel
theorem dX7_holds_31 : decode cX7_holds 31 = .ok (.aload_n 0, 1) := by decide +kernel
theorem dX7_holds_32 : decode cX7_holds 32 = .ok (.iload_n 1, 1) := by decide +kernel
theorem dX7_holds_33 : decode cX7_holds 33 = .ok (.iload_n 3, 1) := by decide +kernel
theorem dX7_holds_34 : decode cX7_holds 34 = .ok (.iload_n 3, 1) := by decide +kernel
theorem dX7_holds_35 : decode cX7_holds 35 = .ok (.invokevirtual 125, 3) := by decide +kernel
theorem dX7_holds_38 : decode cX7_holds 38 = .ok (.ifCond .eq 15, 3) := by decide +kernel
theorem dX7_holds_41 : decode cX7_holds 41 = .ok (.aload_n 0, 1) := by decide +kernel
theorem dX7_holds_42 : decode cX7_holds 42 = .ok (.iload_n 2, 1) := by decide +kernel
theorem dX7_holds_43 : decode cX7_holds 43 = .ok (.iload 5, 2) := by decide +kernel
theorem dX7_holds_45 : decode cX7_holds 45 = .ok (.iload 5, 2) := by decide +kernel
theorem dX7_holds_47 : decode cX7_holds 47 = .ok (.invokevirtual 125, 3) := by decide +kernel
theorem dX7_holds_50 : decode cX7_holds 50 = .ok (.ifCond .eq 7, 3) := by decide +kernel
theorem dX7_holds_53 : decode cX7_holds 53 = .ok (.iconst 1, 1) := by decide +kernel
theorem dX7_holds_54 : decode cX7_holds 54 = .ok (.goto 4, 3) := by decide +kernel
theorem dX7_holds_57 : decode cX7_holds 57 = .ok (.iconst 0, 1) := by decide +kernel
theorem dX7_holds_58 : decode cX7_holds 58 = .ok (.istore 6, 2) := by decide +kernel
theorem dX7_holds_60 : decode cX7_holds 60 = .ok (.iconst 0, 1) := by decide +kernel
theorem dX7_holds_61 : decode cX7_holds 61 = .ok (.istore 7, 2) := by decide +kernel
theorem dX7_holds_63 : decode cX7_holds 63 = .ok (.iload 7, 2) := by decide +kernel
theorem dX7_holds_65 : decode cX7_holds 65 = .ok (.aload_n 0, 1) := by decide +kernel
theorem dX7_holds_66 : decode cX7_holds 66 = .ok (.getfield 7, 3) := by decide +kernel
theorem dX7_holds_69 : decode cX7_holds 69 = .ok (.iload_n 1, 1) := by decide +kernel
theorem dX7_holds_70 : decode cX7_holds 70 = .ok (.iaload, 1) := by decide +kernel
theorem dX7_holds_71 : decode cX7_holds 71 = .ok (.if_icmp .ge 101, 3) := by decide +kernel
theorem dX7_holds_74 : decode cX7_holds 74 = .ok (.iload 6, 2) := by decide +kernel
theorem dX7_holds_76 : decode cX7_holds 76 = .ok (.ifCond .eq 96, 3) := by decide +kernel
theorem dX7_holds_79 : decode cX7_holds 79 = .ok (.aload_n 0, 1) := by decide +kernel
theorem dX7_holds_80 : decode cX7_holds 80 = .ok (.iload_n 1, 1) := by decide +kernel
theorem dX7_holds_81 : decode cX7_holds 81 = .ok (.iload_n 3, 1) := by decide +kernel
theorem dX7_holds_82 : decode cX7_holds 82 = .ok (.iload 7, 2) := by decide +kernel
theorem dX7_holds_84 : decode cX7_holds 84 = .ok (.invokevirtual 125, 3) := by decide +kernel
theorem dX7_holds_87 : decode cX7_holds 87 = .ok (.ifCond .eq 26, 3) := by decide +kernel
theorem dX7_holds_90 : decode cX7_holds 90 = .ok (.aload_n 0, 1) := by decide +kernel
theorem dX7_holds_91 : decode cX7_holds 91 = .ok (.getfield 13, 3) := by decide +kernel
theorem dX7_holds_94 : decode cX7_holds 94 = .ok (.bipush 7, 2) := by decide +kernel
theorem dX7_holds_96 : decode cX7_holds 96 = .ok (.iload_n 2, 1) := by decide +kernel
theorem dX7_holds_97 : decode cX7_holds 97 = .ok (.imul, 1) := by decide +kernel
theorem dX7_holds_98 : decode cX7_holds 98 = .ok (.iload 5, 2) := by decide +kernel
theorem dX7_holds_100 : decode cX7_holds 100 = .ok (.iadd, 1) := by decide +kernel
theorem dX7_holds_101 : decode cX7_holds 101 = .ok (.iaload, 1) := by decide +kernel
theorem dX7_holds_102 : decode cX7_holds 102 = .ok (.aload_n 0, 1) := by decide +kernel
theorem dX7_holds_103 : decode cX7_holds 103 = .ok (.getfield 35, 3) := by decide +kernel
theorem dX7_holds_106 : decode cX7_holds 106 = .ok (.iload 7, 2) := by decide +kernel
theorem dX7_holds_108 : decode cX7_holds 108 = .ok (.iaload, 1) := by decide +kernel
theorem dX7_holds_109 : decode cX7_holds 109 = .ok (.iand, 1) := by decide +kernel
theorem dX7_holds_110 : decode cX7_holds 110 = .ok (.ifCond .eq 7, 3) := by decide +kernel
theorem dX7_holds_113 : decode cX7_holds 113 = .ok (.iconst 1, 1) := by decide +kernel
theorem dX7_holds_114 : decode cX7_holds 114 = .ok (.goto 4, 3) := by decide +kernel
theorem dX7_holds_117 : decode cX7_holds 117 = .ok (.iconst 0, 1) := by decide +kernel
theorem dX7_holds_118 : decode cX7_holds 118 = .ok (.istore 6, 2) := by decide +kernel
theorem dX7_holds_120 : decode cX7_holds 120 = .ok (.iload 6, 2) := by decide +kernel
theorem dX7_holds_122 : decode cX7_holds 122 = .ok (.ifCond .eq 41, 3) := by decide +kernel
theorem dX7_holds_125 : decode cX7_holds 125 = .ok (.aload_n 0, 1) := by decide +kernel
theorem dX7_holds_126 : decode cX7_holds 126 = .ok (.iload_n 1, 1) := by decide +kernel
theorem dX7_holds_127 : decode cX7_holds 127 = .ok (.iload 7, 2) := by decide +kernel
theorem dX7_holds_129 : decode cX7_holds 129 = .ok (.iload_n 3, 1) := by decide +kernel
theorem dX7_holds_130 : decode cX7_holds 130 = .ok (.invokevirtual 125, 3) := by decide +kernel
theorem dX7_holds_133 : decode cX7_holds 133 = .ok (.ifCond .eq 26, 3) := by decide +kernel
theorem dX7_holds_136 : decode cX7_holds 136 = .ok (.aload_n 0, 1) := by decide +kernel
theorem dX7_holds_137 : decode cX7_holds 137 = .ok (.getfield 16, 3) := by decide +kernel
theorem dX7_holds_140 : decode cX7_holds 140 = .ok (.bipush 7, 2) := by decide +kernel
theorem dX7_holds_142 : decode cX7_holds 142 = .ok (.iload_n 2, 1) := by decide +kernel
theorem dX7_holds_143 : decode cX7_holds 143 = .ok (.imul, 1) := by decide +kernel
theorem dX7_holds_144 : decode cX7_holds 144 = .ok (.iload 5, 2) := by decide +kernel
theorem dX7_holds_146 : decode cX7_holds 146 = .ok (.iadd, 1) := by decide +kernel
theorem dX7_holds_147 : decode cX7_holds 147 = .ok (.iaload, 1) := by decide +kernel
theorem dX7_holds_148 : decode cX7_holds 148 = .ok (.aload_n 0, 1) := by decide +kernel
theorem dX7_holds_149 : decode cX7_holds 149 = .ok (.getfield 35, 3) := by decide +kernel
theorem dX7_holds_152 : decode cX7_holds 152 = .ok (.iload 7, 2) := by decide +kernel
theorem dX7_holds_154 : decode cX7_holds 154 = .ok (.iaload, 1) := by decide +kernel
theorem dX7_holds_155 : decode cX7_holds 155 = .ok (.iand, 1) := by decide +kernel
theorem dX7_holds_156 : decode cX7_holds 156 = .ok (.ifCond .eq 7, 3) := by decide +kernel
theorem dX7_holds_159 : decode cX7_holds 159 = .ok (.iconst 1, 1) := by decide +kernel
theorem dX7_holds_160 : decode cX7_holds 160 = .ok (.goto 4, 3) := by decide +kernel
theorem dX7_holds_163 : decode cX7_holds 163 = .ok (.iconst 0, 1) := by decide +kernel
theorem dX7_holds_164 : decode cX7_holds 164 = .ok (.istore 6, 2) := by decide +kernel
theorem dX7_holds_166 : decode cX7_holds 166 = .ok (.iinc 7 1, 3) := by decide +kernel
theorem dX7_holds_169 : decode cX7_holds 169 = .ok (.goto (-106), 3) := by decide +kernel
theorem dX7_holds_172 : decode cX7_holds 172 = .ok (.iload 4, 2) := by decide +kernel
theorem dX7_holds_174 : decode cX7_holds 174 = .ok (.iload 6, 2) := by decide +kernel
theorem dX7_holds_176 : decode cX7_holds 176 = .ok (.ifCond .eq 10, 3) := by decide +kernel
theorem dX7_holds_179 : decode cX7_holds 179 = .ok (.iconst 1, 1) := by decide +kernel
theorem dX7_holds_180 : decode cX7_holds 180 = .ok (.iload 5, 2) := by decide +kernel
theorem dX7_holds_182 : decode cX7_holds 182 = .ok (.ishl, 1) := by decide +kernel
theorem dX7_holds_183 : decode cX7_holds 183 = .ok (.goto 4, 3) := by decide +kernel
theorem dX7_holds_186 : decode cX7_holds 186 = .ok (.iconst 0, 1) := by decide +kernel
theorem dX7_holds_187 : decode cX7_holds 187 = .ok (.ior, 1) := by decide +kernel
theorem dX7_holds_188 : decode cX7_holds 188 = .ok (.istore 4, 2) := by decide +kernel
theorem dX7_holds_190 : decode cX7_holds 190 = .ok (.iinc 5 1, 3) := by decide +kernel
theorem dX7_holds_193 : decode cX7_holds 193 = .ok (.goto (-187), 3) := by decide +kernel
theorem dX7_holds_196 : decode cX7_holds 196 = .ok (.iload 4, 2) := by decide +kernel
theorem dX7_holds_198 : decode cX7_holds 198 = .ok (.ireturn, 1) := by decide +kernel
noncomputable def f_X7_holds_b164 (x0 : Nat) (x1 : Int32) (x2 : Int32) (x3 : Int32) (x4 : Int32) (x5 : Int32) (x7 : Int32) (s0 : Int32) (σ : Hp) : Option (((Int32 × Int32) ⊕ (Int32)) × Hp) := some (Sum.inl (s0, (x7 + 1)), σ)
set_option maxRecDepth 100000 in
set_option maxHeartbeats 4000000 in
theorem t_X7_holds_b164 {l : Launch} {γ : Gm} {ad : Nat → Nat} {K : Option Value → Hp → Prop} (hc : Cx l γ 3 8 ad shM RX7 cX7_holds (some .int) K) {x0 : Nat} {x1 : Int32} {x2 : Int32} {x3 : Int32} {x4 : Int32} {x5 : Int32} {x7 : Int32} {s0 : Int32}  {σ : Hp} {KL : ((Int32 × Int32) ⊕ (Int32)) → Hp → Prop} (h : wpO (f_X7_holds_b164 x0 x1 x2 x3 x4 x5 x7 s0 σ) KL) (kn : ∀ (v : (Int32 × Int32)) (σ : Hp), KL (Sum.inl v) σ → WW l γ 3 8 ad shM 63 [(0, .ref (ad x0)), (1, .int x1), (2, .int x2), (3, .int x3), (4, .int x4), (5, .int x5), (6, .int v.1), (7, .int v.2)] [] σ) (kx172 : ∀ (v : Int32) (σ : Hp), KL (Sum.inr v) σ → WW l γ 3 8 ad shM 172 [(0, .ref (ad x0)), (1, .int x1), (2, .int x2), (3, .int x3), (4, .int x4), (5, .int x5), (6, .int v)] [] σ) : WW l γ 3 8 ad shM 164 [(0, .ref (ad x0)), (1, .int x1), (2, .int x2), (3, .int x3), (4, .int x4), (5, .int x5), (7, .int x7)] [.int s0] σ := by
  unfold f_X7_holds_b164 at h
  refine r_istoreE hc (i := 6) (lv' := [(6, .int s0), (0, .ref (ad x0)), (1, .int x1), (2, .int x2), (3, .int x3), (4, .int x4), (5, .int x5), (7, .int x7)]) rfl (by decide) rfl dX7_holds_164 ?_
  refine r_iincE hc (j := 7) (w := 1) (lv' := [(7, .int (x7 + 1)), (6, .int s0), (0, .ref (ad x0)), (1, .int x1), (2, .int x2), (3, .int x3), (4, .int x4), (5, .int x5)]) rfl (by decide) rfl (by decide) rfl dX7_holds_166 ?_
  refine r_goto hc (tgt := 63) dX7_holds_169 (by decide) ?_
  refine r_sub [2, 3, 4, 5, 6, 7, 1, 0] (lv' := [(0, .ref (ad x0)), (1, .int x1), (2, .int x2), (3, .int x3), (4, .int x4), (5, .int x5), (6, .int s0), (7, .int (x7 + 1))]) rfl ?_
  have h := wp_v h
  exact kn (s0, (x7 + 1)) _ h
noncomputable def f_X7_holds_b163 (x0 : Nat) (x1 : Int32) (x2 : Int32) (x3 : Int32) (x4 : Int32) (x5 : Int32) (x7 : Int32) (σ : Hp) : Option (((Int32 × Int32) ⊕ (Int32)) × Hp) := f_X7_holds_b164 x0 x1 x2 x3 x4 x5 x7 0 σ
set_option maxRecDepth 100000 in
set_option maxHeartbeats 4000000 in
theorem t_X7_holds_b163 {l : Launch} {γ : Gm} {ad : Nat → Nat} {K : Option Value → Hp → Prop} (hc : Cx l γ 3 8 ad shM RX7 cX7_holds (some .int) K) {x0 : Nat} {x1 : Int32} {x2 : Int32} {x3 : Int32} {x4 : Int32} {x5 : Int32} {x7 : Int32}  {σ : Hp} {KL : ((Int32 × Int32) ⊕ (Int32)) → Hp → Prop} (h : wpO (f_X7_holds_b163 x0 x1 x2 x3 x4 x5 x7 σ) KL) (kn : ∀ (v : (Int32 × Int32)) (σ : Hp), KL (Sum.inl v) σ → WW l γ 3 8 ad shM 63 [(0, .ref (ad x0)), (1, .int x1), (2, .int x2), (3, .int x3), (4, .int x4), (5, .int x5), (6, .int v.1), (7, .int v.2)] [] σ) (kx172 : ∀ (v : Int32) (σ : Hp), KL (Sum.inr v) σ → WW l γ 3 8 ad shM 172 [(0, .ref (ad x0)), (1, .int x1), (2, .int x2), (3, .int x3), (4, .int x4), (5, .int x5), (6, .int v)] [] σ) : WW l γ 3 8 ad shM 163 [(0, .ref (ad x0)), (1, .int x1), (2, .int x2), (3, .int x3), (4, .int x4), (5, .int x5), (7, .int x7)] [] σ := by
  unfold f_X7_holds_b163 at h
  refine r_iconst hc (v := 0) (by decide) dX7_holds_163 ?_
  exact t_X7_holds_b164 hc h kn kx172
noncomputable def f_X7_holds_b159 (x0 : Nat) (x1 : Int32) (x2 : Int32) (x3 : Int32) (x4 : Int32) (x5 : Int32) (x7 : Int32) (σ : Hp) : Option (((Int32 × Int32) ⊕ (Int32)) × Hp) := f_X7_holds_b164 x0 x1 x2 x3 x4 x5 x7 1 σ
set_option maxRecDepth 100000 in
set_option maxHeartbeats 4000000 in
theorem t_X7_holds_b159 {l : Launch} {γ : Gm} {ad : Nat → Nat} {K : Option Value → Hp → Prop} (hc : Cx l γ 3 8 ad shM RX7 cX7_holds (some .int) K) {x0 : Nat} {x1 : Int32} {x2 : Int32} {x3 : Int32} {x4 : Int32} {x5 : Int32} {x7 : Int32}  {σ : Hp} {KL : ((Int32 × Int32) ⊕ (Int32)) → Hp → Prop} (h : wpO (f_X7_holds_b159 x0 x1 x2 x3 x4 x5 x7 σ) KL) (kn : ∀ (v : (Int32 × Int32)) (σ : Hp), KL (Sum.inl v) σ → WW l γ 3 8 ad shM 63 [(0, .ref (ad x0)), (1, .int x1), (2, .int x2), (3, .int x3), (4, .int x4), (5, .int x5), (6, .int v.1), (7, .int v.2)] [] σ) (kx172 : ∀ (v : Int32) (σ : Hp), KL (Sum.inr v) σ → WW l γ 3 8 ad shM 172 [(0, .ref (ad x0)), (1, .int x1), (2, .int x2), (3, .int x3), (4, .int x4), (5, .int x5), (6, .int v)] [] σ) : WW l γ 3 8 ad shM 159 [(0, .ref (ad x0)), (1, .int x1), (2, .int x2), (3, .int x3), (4, .int x4), (5, .int x5), (7, .int x7)] [] σ := by
  unfold f_X7_holds_b159 at h
  refine r_iconst hc (v := 1) (by decide) dX7_holds_159 ?_
  refine r_goto hc (tgt := 164) dX7_holds_160 (by decide) ?_
  exact t_X7_holds_b164 hc h kn kx172
noncomputable def f_X7_holds_b118 (x0 : Nat) (x1 : Int32) (x2 : Int32) (x3 : Int32) (x4 : Int32) (x5 : Int32) (x7 : Int32) (s0 : Int32) (σ : Hp) : Option (((Int32 × Int32) ⊕ (Int32)) × Hp) := if s0 = 0 then (f_X7_holds_b163 x0 x1 x2 x3 x4 x5 x7 σ) else (gO (chk shM x0 7) fun _ => bO (f_X7_isLine x0 x1 x7 x3 σ) fun r1 σ2 => if r1 = 0 then (f_X7_holds_b159 x0 x1 x2 x3 x4 x5 x7 σ2) else (gO (getR shM 7 x0 2 σ2) fun v4 => gO (aldI shM 0 v4 ((7 * x2) + x5) σ2) fun v5 => gO (getR shM 7 x0 16 σ2) fun v6 => gO (aldI shM 0 v6 x7 σ2) fun v7 => if (v5 &&& v7) = 0 then (f_X7_holds_b163 x0 x1 x2 x3 x4 x5 x7 σ2) else (f_X7_holds_b159 x0 x1 x2 x3 x4 x5 x7 σ2)))
set_option maxRecDepth 100000 in
set_option maxHeartbeats 4000000 in
theorem t_X7_holds_b118 {l : Launch} {γ : Gm} {ad : Nat → Nat} {K : Option Value → Hp → Prop} (hc : Cx l γ 3 8 ad shM RX7 cX7_holds (some .int) K) {x0 : Nat} {x1 : Int32} {x2 : Int32} {x3 : Int32} {x4 : Int32} {x5 : Int32} {x7 : Int32} {s0 : Int32}  {σ : Hp} {KL : ((Int32 × Int32) ⊕ (Int32)) → Hp → Prop} (h : wpO (f_X7_holds_b118 x0 x1 x2 x3 x4 x5 x7 s0 σ) KL) (kn : ∀ (v : (Int32 × Int32)) (σ : Hp), KL (Sum.inl v) σ → WW l γ 3 8 ad shM 63 [(0, .ref (ad x0)), (1, .int x1), (2, .int x2), (3, .int x3), (4, .int x4), (5, .int x5), (6, .int v.1), (7, .int v.2)] [] σ) (kx172 : ∀ (v : Int32) (σ : Hp), KL (Sum.inr v) σ → WW l γ 3 8 ad shM 172 [(0, .ref (ad x0)), (1, .int x1), (2, .int x2), (3, .int x3), (4, .int x4), (5, .int x5), (6, .int v)] [] σ) : WW l γ 3 8 ad shM 118 [(0, .ref (ad x0)), (1, .int x1), (2, .int x2), (3, .int x3), (4, .int x4), (5, .int x5), (7, .int x7)] [.int s0] σ := by
  unfold f_X7_holds_b118 at h
  refine r_istoreE hc (i := 6) (lv' := [(6, .int s0), (0, .ref (ad x0)), (1, .int x1), (2, .int x2), (3, .int x3), (4, .int x4), (5, .int x5), (7, .int x7)]) rfl (by decide) rfl dX7_holds_118 ?_
  refine r_iload hc 0 rfl dX7_holds_120 ?_
  refine r_if_eq hc (tgt := 163) dX7_holds_122 (by decide) (fun c => ?_) (fun c => ?_)
  · have h := wp_t c h
    refine r_sub [1, 2, 3, 4, 5, 6, 7] (lv' := [(0, .ref (ad x0)), (1, .int x1), (2, .int x2), (3, .int x3), (4, .int x4), (5, .int x5), (7, .int x7)]) rfl ?_
    exact t_X7_holds_b163 hc h kn kx172
  · have h := wp_f c h
    refine r_aload_n hc 1 rfl rfl dX7_holds_125 ?_
    refine r_iload_n hc 2 rfl rfl dX7_holds_126 ?_
    refine r_iload hc 7 rfl dX7_holds_127 ?_
    refine r_iload_n hc 4 rfl rfl dX7_holds_129 ?_
    obtain ⟨_, ek3, h⟩ := wp_g h
    obtain ⟨r1, σ2, er1, h⟩ := wp_b h
    refine r_callV hc (k0 := x0) mv_X7_isLine ml_X7_125 (c_X7_isLine er1) (chk_of ek3) cls_7.1 rfl rfl rfl (by decide) rfl (Nat.le_of_ble_eq_true rfl) dX7_holds_130 ?_
    refine r_if_eq hc (tgt := 159) dX7_holds_133 (by decide) (fun c => ?_) (fun c => ?_)
    · have h := wp_t c h
      refine r_sub [1, 2, 3, 4, 5, 6, 7] (lv' := [(0, .ref (ad x0)), (1, .int x1), (2, .int x2), (3, .int x3), (4, .int x4), (5, .int x5), (7, .int x7)]) rfl ?_
      exact t_X7_holds_b159 hc h kn kx172
    · have h := wp_f c h
      refine r_aload_n hc 1 rfl rfl dX7_holds_136 ?_
      obtain ⟨v4, ev4, h⟩ := wp_g h
      refine r_getR hc ev4 fl_X7_16 rfl dX7_holds_137 ?_
      refine r_bipush hc (v := 7) (by decide) dX7_holds_140 ?_
      refine r_iload_n hc 3 rfl rfl dX7_holds_142 ?_
      refine r_imul hc dX7_holds_143 ?_
      refine r_iload hc 6 rfl dX7_holds_144 ?_
      refine r_iadd hc dX7_holds_146 ?_
      obtain ⟨v5, ev5, h⟩ := wp_g h
      refine r_iald hc ev5 dX7_holds_147 ?_
      refine r_aload_n hc 1 rfl rfl dX7_holds_148 ?_
      obtain ⟨v6, ev6, h⟩ := wp_g h
      refine r_getR hc ev6 fl_X7_35 rfl dX7_holds_149 ?_
      refine r_iload hc 7 rfl dX7_holds_152 ?_
      obtain ⟨v7, ev7, h⟩ := wp_g h
      refine r_iald hc ev7 dX7_holds_154 ?_
      refine r_iand hc dX7_holds_155 ?_
      refine r_if_eq hc (tgt := 163) dX7_holds_156 (by decide) (fun c => ?_) (fun c => ?_)
      · have h := wp_t c h
        refine r_sub [1, 2, 3, 4, 5, 6, 7] (lv' := [(0, .ref (ad x0)), (1, .int x1), (2, .int x2), (3, .int x3), (4, .int x4), (5, .int x5), (7, .int x7)]) rfl ?_
        exact t_X7_holds_b163 hc h kn kx172
      · have h := wp_f c h
        refine r_sub [1, 2, 3, 4, 5, 6, 7] (lv' := [(0, .ref (ad x0)), (1, .int x1), (2, .int x2), (3, .int x3), (4, .int x4), (5, .int x5), (7, .int x7)]) rfl ?_
        exact t_X7_holds_b159 hc h kn kx172
noncomputable def f_X7_holds_b113 (x0 : Nat) (x1 : Int32) (x2 : Int32) (x3 : Int32) (x4 : Int32) (x5 : Int32) (x7 : Int32) (σ : Hp) : Option (((Int32 × Int32) ⊕ (Int32)) × Hp) := f_X7_holds_b118 x0 x1 x2 x3 x4 x5 x7 1 σ
set_option maxRecDepth 100000 in
set_option maxHeartbeats 4000000 in
theorem t_X7_holds_b113 {l : Launch} {γ : Gm} {ad : Nat → Nat} {K : Option Value → Hp → Prop} (hc : Cx l γ 3 8 ad shM RX7 cX7_holds (some .int) K) {x0 : Nat} {x1 : Int32} {x2 : Int32} {x3 : Int32} {x4 : Int32} {x5 : Int32} {x7 : Int32}  {σ : Hp} {KL : ((Int32 × Int32) ⊕ (Int32)) → Hp → Prop} (h : wpO (f_X7_holds_b113 x0 x1 x2 x3 x4 x5 x7 σ) KL) (kn : ∀ (v : (Int32 × Int32)) (σ : Hp), KL (Sum.inl v) σ → WW l γ 3 8 ad shM 63 [(0, .ref (ad x0)), (1, .int x1), (2, .int x2), (3, .int x3), (4, .int x4), (5, .int x5), (6, .int v.1), (7, .int v.2)] [] σ) (kx172 : ∀ (v : Int32) (σ : Hp), KL (Sum.inr v) σ → WW l γ 3 8 ad shM 172 [(0, .ref (ad x0)), (1, .int x1), (2, .int x2), (3, .int x3), (4, .int x4), (5, .int x5), (6, .int v)] [] σ) : WW l γ 3 8 ad shM 113 [(0, .ref (ad x0)), (1, .int x1), (2, .int x2), (3, .int x3), (4, .int x4), (5, .int x5), (7, .int x7)] [] σ := by
  unfold f_X7_holds_b113 at h
  refine r_iconst hc (v := 1) (by decide) dX7_holds_113 ?_
  refine r_goto hc (tgt := 118) dX7_holds_114 (by decide) ?_
  exact t_X7_holds_b118 hc h kn kx172
noncomputable def f_X7_holds_L63 (x0 : Nat) (x1 : Int32) (x2 : Int32) (x3 : Int32) (x4 : Int32) (x5 : Int32) (v : (Int32 × Int32)) (σ : Hp) : Option (((Int32 × Int32) ⊕ (Int32)) × Hp) := gO (getR shM 7 x0 0 σ) fun v1 => gO (aldI shM 0 v1 x1 σ) fun v2 => if v2 ≤ v.2 then (some (Sum.inr v.1, σ)) else (if v.1 = 0 then (some (Sum.inr v.1, σ)) else (gO (chk shM x0 7) fun _ => bO (f_X7_isLine x0 x1 x3 v.2 σ) fun r3 σ4 => if r3 = 0 then (f_X7_holds_b113 x0 x1 x2 x3 x4 x5 v.2 σ4) else (gO (getR shM 7 x0 1 σ4) fun v6 => gO (aldI shM 0 v6 ((7 * x2) + x5) σ4) fun v7 => gO (getR shM 7 x0 16 σ4) fun v8 => gO (aldI shM 0 v8 v.2 σ4) fun v9 => if (v7 &&& v9) = 0 then (f_X7_holds_b118 x0 x1 x2 x3 x4 x5 v.2 0 σ4) else (f_X7_holds_b113 x0 x1 x2 x3 x4 x5 v.2 σ4))))
set_option maxRecDepth 100000 in
set_option maxHeartbeats 4000000 in
theorem t_X7_holds_L63 {l : Launch} {γ : Gm} {ad : Nat → Nat} {K : Option Value → Hp → Prop}  (hc : Cx l γ 3 8 ad shM RX7 cX7_holds (some .int) K) {x0 : Nat} {x1 : Int32} {x2 : Int32} {x3 : Int32} {x4 : Int32} {x5 : Int32} {v : (Int32 × Int32)} {σ : Hp} {KX : (Int32) → Hp → Prop} (h : wpO (wh (f_X7_holds_L63 x0 x1 x2 x3 x4 x5) v σ) KX) (kx172 : ∀ (v : Int32) (σ : Hp), KX v σ → WW l γ 3 8 ad shM 172 [(0, .ref (ad x0)), (1, .int x1), (2, .int x2), (3, .int x3), (4, .int x4), (5, .int x5), (6, .int v)] [] σ) : WW l γ 3 8 ad shM 63 [(0, .ref (ad x0)), (1, .int x1), (2, .int x2), (3, .int x3), (4, .int x4), (5, .int x5), (6, .int v.1), (7, .int v.2)] [] σ := by
  refine wh_W (P := fun v σ => WW l γ 3 8 ad shM 63 [(0, .ref (ad x0)), (1, .int x1), (2, .int x2), (3, .int x3), (4, .int x4), (5, .int x5), (6, .int v.1), (7, .int v.2)] [] σ) (fun v σ h => ?_) h
  have kn : ∀ (v : (Int32 × Int32)) (σ : Hp), WW l γ 3 8 ad shM 63 [(0, .ref (ad x0)), (1, .int x1), (2, .int x2), (3, .int x3), (4, .int x4), (5, .int x5), (6, .int v.1), (7, .int v.2)] [] σ → WW l γ 3 8 ad shM 63 [(0, .ref (ad x0)), (1, .int x1), (2, .int x2), (3, .int x3), (4, .int x4), (5, .int x5), (6, .int v.1), (7, .int v.2)] [] σ := fun _ _ h => h
  · unfold f_X7_holds_L63 at h
    refine r_iload hc 7 rfl dX7_holds_63 ?_
    refine r_aload_n hc 0 rfl rfl dX7_holds_65 ?_
    obtain ⟨v1, ev1, h⟩ := wp_g h
    refine r_getR hc ev1 fl_X7_7 rfl dX7_holds_66 ?_
    refine r_iload_n hc 1 rfl rfl dX7_holds_69 ?_
    obtain ⟨v2, ev2, h⟩ := wp_g h
    refine r_iald hc ev2 dX7_holds_70 ?_
    refine r_icmp_ge hc (tgt := 172) dX7_holds_71 (by decide) (fun c => ?_) (fun c => ?_)
    · have h := wp_t c h
      refine r_sub [0, 1, 2, 3, 4, 5, 6] (lv' := [(0, .ref (ad x0)), (1, .int x1), (2, .int x2), (3, .int x3), (4, .int x4), (5, .int x5), (6, .int v.1)]) rfl ?_
      have h := wp_v h
      exact kx172 v.1 _ h
    · have h := wp_f c h
      refine r_iload hc 6 rfl dX7_holds_74 ?_
      refine r_if_eq hc (tgt := 172) dX7_holds_76 (by decide) (fun c => ?_) (fun c => ?_)
      · have h := wp_t c h
        refine r_sub [0, 1, 2, 3, 4, 5, 6] (lv' := [(0, .ref (ad x0)), (1, .int x1), (2, .int x2), (3, .int x3), (4, .int x4), (5, .int x5), (6, .int v.1)]) rfl ?_
        have h := wp_v h
        exact kx172 v.1 _ h
      · have h := wp_f c h
        refine r_aload_n hc 0 rfl rfl dX7_holds_79 ?_
        refine r_iload_n hc 1 rfl rfl dX7_holds_80 ?_
        refine r_iload_n hc 3 rfl rfl dX7_holds_81 ?_
        refine r_iload hc 7 rfl dX7_holds_82 ?_
        obtain ⟨_, ek5, h⟩ := wp_g h
        obtain ⟨r3, σ4, er3, h⟩ := wp_b h
        refine r_callV hc (k0 := x0) mv_X7_isLine ml_X7_125 (c_X7_isLine er3) (chk_of ek5) cls_7.1 rfl rfl rfl (by decide) rfl (Nat.le_of_ble_eq_true rfl) dX7_holds_84 ?_
        refine r_if_eq hc (tgt := 113) dX7_holds_87 (by decide) (fun c => ?_) (fun c => ?_)
        · have h := wp_t c h
          refine r_sub [0, 1, 2, 3, 4, 5, 7] (lv' := [(0, .ref (ad x0)), (1, .int x1), (2, .int x2), (3, .int x3), (4, .int x4), (5, .int x5), (7, .int v.2)]) rfl ?_
          exact t_X7_holds_b113 hc h kn kx172
        · have h := wp_f c h
          refine r_aload_n hc 0 rfl rfl dX7_holds_90 ?_
          obtain ⟨v6, ev6, h⟩ := wp_g h
          refine r_getR hc ev6 fl_X7_13 rfl dX7_holds_91 ?_
          refine r_bipush hc (v := 7) (by decide) dX7_holds_94 ?_
          refine r_iload_n hc 2 rfl rfl dX7_holds_96 ?_
          refine r_imul hc dX7_holds_97 ?_
          refine r_iload hc 5 rfl dX7_holds_98 ?_
          refine r_iadd hc dX7_holds_100 ?_
          obtain ⟨v7, ev7, h⟩ := wp_g h
          refine r_iald hc ev7 dX7_holds_101 ?_
          refine r_aload_n hc 0 rfl rfl dX7_holds_102 ?_
          obtain ⟨v8, ev8, h⟩ := wp_g h
          refine r_getR hc ev8 fl_X7_35 rfl dX7_holds_103 ?_
          refine r_iload hc 7 rfl dX7_holds_106 ?_
          obtain ⟨v9, ev9, h⟩ := wp_g h
          refine r_iald hc ev9 dX7_holds_108 ?_
          refine r_iand hc dX7_holds_109 ?_
          refine r_if_eq hc (tgt := 117) dX7_holds_110 (by decide) (fun c => ?_) (fun c => ?_)
          · have h := wp_t c h
            refine r_iconst hc (v := 0) (by decide) dX7_holds_117 ?_
            refine r_sub [0, 1, 2, 3, 4, 5, 7] (lv' := [(0, .ref (ad x0)), (1, .int x1), (2, .int x2), (3, .int x3), (4, .int x4), (5, .int x5), (7, .int v.2)]) rfl ?_
            exact t_X7_holds_b118 hc h kn kx172
          · have h := wp_f c h
            refine r_sub [0, 1, 2, 3, 4, 5, 7] (lv' := [(0, .ref (ad x0)), (1, .int x1), (2, .int x2), (3, .int x3), (4, .int x4), (5, .int x5), (7, .int v.2)]) rfl ?_
            exact t_X7_holds_b113 hc h kn kx172
noncomputable def f_X7_holds_b187 (x0 : Nat) (x1 : Int32) (x2 : Int32) (x3 : Int32) (x5 : Int32) (s0 : Int32) (s1 : Int32) (σ : Hp) : Option (((Int32 × Int32) ⊕ (Int32)) × Hp) := some (Sum.inl ((s0 ||| s1), (x5 + 1)), σ)
set_option maxRecDepth 100000 in
set_option maxHeartbeats 4000000 in
theorem t_X7_holds_b187 {l : Launch} {γ : Gm} {ad : Nat → Nat} {K : Option Value → Hp → Prop} (hc : Cx l γ 3 8 ad shM RX7 cX7_holds (some .int) K) {x0 : Nat} {x1 : Int32} {x2 : Int32} {x3 : Int32} {x5 : Int32} {s0 : Int32} {s1 : Int32}  {σ : Hp} {KL : ((Int32 × Int32) ⊕ (Int32)) → Hp → Prop} (h : wpO (f_X7_holds_b187 x0 x1 x2 x3 x5 s0 s1 σ) KL) (kn : ∀ (v : (Int32 × Int32)) (σ : Hp), KL (Sum.inl v) σ → WW l γ 3 8 ad shM 6 [(0, .ref (ad x0)), (1, .int x1), (2, .int x2), (3, .int x3), (4, .int v.1), (5, .int v.2)] [] σ) (kx196 : ∀ (v : Int32) (σ : Hp), KL (Sum.inr v) σ → WW l γ 3 8 ad shM 196 [(4, .int v)] [] σ) : WW l γ 3 8 ad shM 187 [(0, .ref (ad x0)), (1, .int x1), (2, .int x2), (3, .int x3), (5, .int x5)] [.int s1, .int s0] σ := by
  unfold f_X7_holds_b187 at h
  refine r_ior hc dX7_holds_187 ?_
  refine r_istoreE hc (i := 4) (lv' := [(4, .int (s0 ||| s1)), (0, .ref (ad x0)), (1, .int x1), (2, .int x2), (3, .int x3), (5, .int x5)]) rfl (by decide) rfl dX7_holds_188 ?_
  refine r_iincE hc (j := 5) (w := 1) (lv' := [(5, .int (x5 + 1)), (4, .int (s0 ||| s1)), (0, .ref (ad x0)), (1, .int x1), (2, .int x2), (3, .int x3)]) rfl (by decide) rfl (by decide) rfl dX7_holds_190 ?_
  refine r_goto hc (tgt := 6) dX7_holds_193 (by decide) ?_
  refine r_sub [2, 3, 4, 5, 1, 0] (lv' := [(0, .ref (ad x0)), (1, .int x1), (2, .int x2), (3, .int x3), (4, .int (s0 ||| s1)), (5, .int (x5 + 1))]) rfl ?_
  have h := wp_v h
  exact kn ((s0 ||| s1), (x5 + 1)) _ h
noncomputable def f_X7_holds_b172 (x0 : Nat) (x1 : Int32) (x2 : Int32) (x3 : Int32) (x4 : Int32) (x5 : Int32) (x6 : Int32) (σ : Hp) : Option (((Int32 × Int32) ⊕ (Int32)) × Hp) := if x6 = 0 then (f_X7_holds_b187 x0 x1 x2 x3 x5 x4 0 σ) else (f_X7_holds_b187 x0 x1 x2 x3 x5 x4 ((1 : Int32) <<< (x5 &&& 31)) σ)
set_option maxRecDepth 100000 in
set_option maxHeartbeats 4000000 in
theorem t_X7_holds_b172 {l : Launch} {γ : Gm} {ad : Nat → Nat} {K : Option Value → Hp → Prop} (hc : Cx l γ 3 8 ad shM RX7 cX7_holds (some .int) K) {x0 : Nat} {x1 : Int32} {x2 : Int32} {x3 : Int32} {x4 : Int32} {x5 : Int32} {x6 : Int32}  {σ : Hp} {KL : ((Int32 × Int32) ⊕ (Int32)) → Hp → Prop} (h : wpO (f_X7_holds_b172 x0 x1 x2 x3 x4 x5 x6 σ) KL) (kn : ∀ (v : (Int32 × Int32)) (σ : Hp), KL (Sum.inl v) σ → WW l γ 3 8 ad shM 6 [(0, .ref (ad x0)), (1, .int x1), (2, .int x2), (3, .int x3), (4, .int v.1), (5, .int v.2)] [] σ) (kx196 : ∀ (v : Int32) (σ : Hp), KL (Sum.inr v) σ → WW l γ 3 8 ad shM 196 [(4, .int v)] [] σ) : WW l γ 3 8 ad shM 172 [(0, .ref (ad x0)), (1, .int x1), (2, .int x2), (3, .int x3), (4, .int x4), (5, .int x5), (6, .int x6)] [] σ := by
  unfold f_X7_holds_b172 at h
  refine r_iload hc 4 rfl dX7_holds_172 ?_
  refine r_iload hc 6 rfl dX7_holds_174 ?_
  refine r_if_eq hc (tgt := 186) dX7_holds_176 (by decide) (fun c => ?_) (fun c => ?_)
  · have h := wp_t c h
    refine r_iconst hc (v := 0) (by decide) dX7_holds_186 ?_
    refine r_sub [0, 1, 2, 3, 5] (lv' := [(0, .ref (ad x0)), (1, .int x1), (2, .int x2), (3, .int x3), (5, .int x5)]) rfl ?_
    exact t_X7_holds_b187 hc h kn kx196
  · have h := wp_f c h
    refine r_iconst hc (v := 1) (by decide) dX7_holds_179 ?_
    refine r_iload hc 5 rfl dX7_holds_180 ?_
    refine r_ishl hc dX7_holds_182 ?_
    refine r_goto hc (tgt := 187) dX7_holds_183 (by decide) ?_
    refine r_sub [0, 1, 2, 3, 5] (lv' := [(0, .ref (ad x0)), (1, .int x1), (2, .int x2), (3, .int x3), (5, .int x5)]) rfl ?_
    exact t_X7_holds_b187 hc h kn kx196
noncomputable def f_X7_holds_b58 (x0 : Nat) (x1 : Int32) (x2 : Int32) (x3 : Int32) (x4 : Int32) (x5 : Int32) (s0 : Int32) (σ : Hp) : Option (((Int32 × Int32) ⊕ (Int32)) × Hp) := bO (wh (f_X7_holds_L63 x0 x1 x2 x3 x4 x5) (s0, 0) σ) fun y1 σ2 => (f_X7_holds_b172 x0 x1 x2 x3 x4 x5 y1 σ2)
set_option maxRecDepth 100000 in
set_option maxHeartbeats 4000000 in
theorem t_X7_holds_b58 {l : Launch} {γ : Gm} {ad : Nat → Nat} {K : Option Value → Hp → Prop} (hc : Cx l γ 3 8 ad shM RX7 cX7_holds (some .int) K) {x0 : Nat} {x1 : Int32} {x2 : Int32} {x3 : Int32} {x4 : Int32} {x5 : Int32} {s0 : Int32}  {σ : Hp} {KL : ((Int32 × Int32) ⊕ (Int32)) → Hp → Prop} (h : wpO (f_X7_holds_b58 x0 x1 x2 x3 x4 x5 s0 σ) KL) (kn : ∀ (v : (Int32 × Int32)) (σ : Hp), KL (Sum.inl v) σ → WW l γ 3 8 ad shM 6 [(0, .ref (ad x0)), (1, .int x1), (2, .int x2), (3, .int x3), (4, .int v.1), (5, .int v.2)] [] σ) (kx196 : ∀ (v : Int32) (σ : Hp), KL (Sum.inr v) σ → WW l γ 3 8 ad shM 196 [(4, .int v)] [] σ) : WW l γ 3 8 ad shM 58 [(0, .ref (ad x0)), (1, .int x1), (2, .int x2), (3, .int x3), (4, .int x4), (5, .int x5)] [.int s0] σ := by
  unfold f_X7_holds_b58 at h
  refine r_istoreE hc (i := 6) (lv' := [(6, .int s0), (0, .ref (ad x0)), (1, .int x1), (2, .int x2), (3, .int x3), (4, .int x4), (5, .int x5)]) rfl (by decide) rfl dX7_holds_58 ?_
  refine r_iconst hc (v := 0) (by decide) dX7_holds_60 ?_
  refine r_istoreE hc (i := 7) (lv' := [(7, .int 0), (6, .int s0), (0, .ref (ad x0)), (1, .int x1), (2, .int x2), (3, .int x3), (4, .int x4), (5, .int x5)]) rfl (by decide) rfl dX7_holds_61 ?_
  refine r_sub [2, 3, 4, 5, 6, 7, 1, 0] (lv' := [(0, .ref (ad x0)), (1, .int x1), (2, .int x2), (3, .int x3), (4, .int x4), (5, .int x5), (6, .int s0), (7, .int 0)]) rfl ?_
  refine t_X7_holds_L63 hc (wp_bb h) ?_
  · intro y1 σ2 h
    exact t_X7_holds_b172 hc h kn kx196
noncomputable def f_X7_holds_b57 (x0 : Nat) (x1 : Int32) (x2 : Int32) (x3 : Int32) (x4 : Int32) (x5 : Int32) (σ : Hp) : Option (((Int32 × Int32) ⊕ (Int32)) × Hp) := f_X7_holds_b58 x0 x1 x2 x3 x4 x5 0 σ
set_option maxRecDepth 100000 in
set_option maxHeartbeats 4000000 in
theorem t_X7_holds_b57 {l : Launch} {γ : Gm} {ad : Nat → Nat} {K : Option Value → Hp → Prop} (hc : Cx l γ 3 8 ad shM RX7 cX7_holds (some .int) K) {x0 : Nat} {x1 : Int32} {x2 : Int32} {x3 : Int32} {x4 : Int32} {x5 : Int32}  {σ : Hp} {KL : ((Int32 × Int32) ⊕ (Int32)) → Hp → Prop} (h : wpO (f_X7_holds_b57 x0 x1 x2 x3 x4 x5 σ) KL) (kn : ∀ (v : (Int32 × Int32)) (σ : Hp), KL (Sum.inl v) σ → WW l γ 3 8 ad shM 6 [(0, .ref (ad x0)), (1, .int x1), (2, .int x2), (3, .int x3), (4, .int v.1), (5, .int v.2)] [] σ) (kx196 : ∀ (v : Int32) (σ : Hp), KL (Sum.inr v) σ → WW l γ 3 8 ad shM 196 [(4, .int v)] [] σ) : WW l γ 3 8 ad shM 57 [(0, .ref (ad x0)), (1, .int x1), (2, .int x2), (3, .int x3), (4, .int x4), (5, .int x5)] [] σ := by
  unfold f_X7_holds_b57 at h
  refine r_iconst hc (v := 0) (by decide) dX7_holds_57 ?_
  exact t_X7_holds_b58 hc h kn kx196
noncomputable def f_X7_holds_b53 (x0 : Nat) (x1 : Int32) (x2 : Int32) (x3 : Int32) (x4 : Int32) (x5 : Int32) (σ : Hp) : Option (((Int32 × Int32) ⊕ (Int32)) × Hp) := f_X7_holds_b58 x0 x1 x2 x3 x4 x5 1 σ
set_option maxRecDepth 100000 in
set_option maxHeartbeats 4000000 in
theorem t_X7_holds_b53 {l : Launch} {γ : Gm} {ad : Nat → Nat} {K : Option Value → Hp → Prop} (hc : Cx l γ 3 8 ad shM RX7 cX7_holds (some .int) K) {x0 : Nat} {x1 : Int32} {x2 : Int32} {x3 : Int32} {x4 : Int32} {x5 : Int32}  {σ : Hp} {KL : ((Int32 × Int32) ⊕ (Int32)) → Hp → Prop} (h : wpO (f_X7_holds_b53 x0 x1 x2 x3 x4 x5 σ) KL) (kn : ∀ (v : (Int32 × Int32)) (σ : Hp), KL (Sum.inl v) σ → WW l γ 3 8 ad shM 6 [(0, .ref (ad x0)), (1, .int x1), (2, .int x2), (3, .int x3), (4, .int v.1), (5, .int v.2)] [] σ) (kx196 : ∀ (v : Int32) (σ : Hp), KL (Sum.inr v) σ → WW l γ 3 8 ad shM 196 [(4, .int v)] [] σ) : WW l γ 3 8 ad shM 53 [(0, .ref (ad x0)), (1, .int x1), (2, .int x2), (3, .int x3), (4, .int x4), (5, .int x5)] [] σ := by
  unfold f_X7_holds_b53 at h
  refine r_iconst hc (v := 1) (by decide) dX7_holds_53 ?_
  refine r_goto hc (tgt := 58) dX7_holds_54 (by decide) ?_
  exact t_X7_holds_b58 hc h kn kx196
noncomputable def f_X7_holds_L6 (x0 : Nat) (x1 : Int32) (x2 : Int32) (x3 : Int32) (v : (Int32 × Int32)) (σ : Hp) : Option (((Int32 × Int32) ⊕ (Int32)) × Hp) := gO (getR shM 7 x0 0 σ) fun v1 => gO (aldI shM 0 v1 x2 σ) fun v2 => if v2 ≤ v.2 then (some (Sum.inr v.1, σ)) else (gO (getR shM 7 x0 16 σ) fun v3 => gO (aldI shM 0 v3 x3 σ) fun v4 => bO (f_X7_has v4 v.2 σ) fun r5 σ6 => if r5 = 0 then (f_X7_holds_b57 x0 x1 x2 x3 v.1 v.2 σ6) else (gO (chk shM x0 7) fun _ => bO (f_X7_isLine x0 x1 x3 x3 σ6) fun r7 σ8 => if r7 = 0 then (f_X7_holds_b53 x0 x1 x2 x3 v.1 v.2 σ8) else (gO (chk shM x0 7) fun _ => bO (f_X7_isLine x0 x2 v.2 v.2 σ8) fun r10 σ11 => if r10 = 0 then (f_X7_holds_b57 x0 x1 x2 x3 v.1 v.2 σ11) else (f_X7_holds_b53 x0 x1 x2 x3 v.1 v.2 σ11))))
set_option maxRecDepth 100000 in
set_option maxHeartbeats 4000000 in
theorem t_X7_holds_L6 {l : Launch} {γ : Gm} {ad : Nat → Nat} {K : Option Value → Hp → Prop}  (hc : Cx l γ 3 8 ad shM RX7 cX7_holds (some .int) K) {x0 : Nat} {x1 : Int32} {x2 : Int32} {x3 : Int32} {v : (Int32 × Int32)} {σ : Hp} {KX : (Int32) → Hp → Prop} (h : wpO (wh (f_X7_holds_L6 x0 x1 x2 x3) v σ) KX) (kx196 : ∀ (v : Int32) (σ : Hp), KX v σ → WW l γ 3 8 ad shM 196 [(4, .int v)] [] σ) : WW l γ 3 8 ad shM 6 [(0, .ref (ad x0)), (1, .int x1), (2, .int x2), (3, .int x3), (4, .int v.1), (5, .int v.2)] [] σ := by
  refine wh_W (P := fun v σ => WW l γ 3 8 ad shM 6 [(0, .ref (ad x0)), (1, .int x1), (2, .int x2), (3, .int x3), (4, .int v.1), (5, .int v.2)] [] σ) (fun v σ h => ?_) h
  have kn : ∀ (v : (Int32 × Int32)) (σ : Hp), WW l γ 3 8 ad shM 6 [(0, .ref (ad x0)), (1, .int x1), (2, .int x2), (3, .int x3), (4, .int v.1), (5, .int v.2)] [] σ → WW l γ 3 8 ad shM 6 [(0, .ref (ad x0)), (1, .int x1), (2, .int x2), (3, .int x3), (4, .int v.1), (5, .int v.2)] [] σ := fun _ _ h => h
  · unfold f_X7_holds_L6 at h
    refine r_iload hc 5 rfl dX7_holds_6 ?_
    refine r_aload_n hc 0 rfl rfl dX7_holds_8 ?_
    obtain ⟨v1, ev1, h⟩ := wp_g h
    refine r_getR hc ev1 fl_X7_7 rfl dX7_holds_9 ?_
    refine r_iload_n hc 2 rfl rfl dX7_holds_12 ?_
    obtain ⟨v2, ev2, h⟩ := wp_g h
    refine r_iald hc ev2 dX7_holds_13 ?_
    refine r_icmp_ge hc (tgt := 196) dX7_holds_14 (by decide) (fun c => ?_) (fun c => ?_)
    · have h := wp_t c h
      refine r_sub [4] (lv' := [(4, .int v.1)]) rfl ?_
      have h := wp_v h
      exact kx196 v.1 _ h
    · have h := wp_f c h
      refine r_aload_n hc 0 rfl rfl dX7_holds_17 ?_
      obtain ⟨v3, ev3, h⟩ := wp_g h
      refine r_getR hc ev3 fl_X7_35 rfl dX7_holds_18 ?_
      refine r_iload_n hc 3 rfl rfl dX7_holds_21 ?_
      obtain ⟨v4, ev4, h⟩ := wp_g h
      refine r_iald hc ev4 dX7_holds_22 ?_
      refine r_iload hc 5 rfl dX7_holds_23 ?_
      obtain ⟨r5, σ6, er5, h⟩ := wp_b h
      refine r_callS hc ms_X7_has ml_X7_89 (c_X7_has er5) rfl rfl (by decide) rfl (Nat.le_of_ble_eq_true rfl) dX7_holds_25 ?_
      refine r_if_eq hc (tgt := 57) dX7_holds_28 (by decide) (fun c => ?_) (fun c => ?_)
      · have h := wp_t c h
        exact t_X7_holds_b57 hc h kn kx196
      · have h := wp_f c h
        refine r_aload_n hc 0 rfl rfl dX7_holds_31 ?_
        refine r_iload_n hc 1 rfl rfl dX7_holds_32 ?_
        refine r_iload_n hc 3 rfl rfl dX7_holds_33 ?_
        refine r_iload_n hc 3 rfl rfl dX7_holds_34 ?_
        obtain ⟨_, ek9, h⟩ := wp_g h
        obtain ⟨r7, σ8, er7, h⟩ := wp_b h
        refine r_callV hc (k0 := x0) mv_X7_isLine ml_X7_125 (c_X7_isLine er7) (chk_of ek9) cls_7.1 rfl rfl rfl (by decide) rfl (Nat.le_of_ble_eq_true rfl) dX7_holds_35 ?_
        refine r_if_eq hc (tgt := 53) dX7_holds_38 (by decide) (fun c => ?_) (fun c => ?_)
        · have h := wp_t c h
          exact t_X7_holds_b53 hc h kn kx196
        · have h := wp_f c h
          refine r_aload_n hc 0 rfl rfl dX7_holds_41 ?_
          refine r_iload_n hc 2 rfl rfl dX7_holds_42 ?_
          refine r_iload hc 5 rfl dX7_holds_43 ?_
          refine r_iload hc 5 rfl dX7_holds_45 ?_
          obtain ⟨_, ek12, h⟩ := wp_g h
          obtain ⟨r10, σ11, er10, h⟩ := wp_b h
          refine r_callV hc (k0 := x0) mv_X7_isLine ml_X7_125 (c_X7_isLine er10) (chk_of ek12) cls_7.1 rfl rfl rfl (by decide) rfl (Nat.le_of_ble_eq_true rfl) dX7_holds_47 ?_
          refine r_if_eq hc (tgt := 57) dX7_holds_50 (by decide) (fun c => ?_) (fun c => ?_)
          · have h := wp_t c h
            exact t_X7_holds_b57 hc h kn kx196
          · have h := wp_f c h
            exact t_X7_holds_b53 hc h kn kx196
noncomputable def f_X7_holds (x0 : Nat) (x1 : Int32) (x2 : Int32) (x3 : Int32) (σ : Hp) : Option (Int32 × Hp) := bO (wh (f_X7_holds_L6 x0 x1 x2 x3) (0, 0) σ) fun y1 σ2 => (some (y1, σ2))
set_option maxRecDepth 100000 in
set_option maxHeartbeats 4000000 in
theorem t_X7_holds {l : Launch} {γ : Gm} {ad : Nat → Nat} {K : Option Value → Hp → Prop} (hc : Cx l γ 3 8 ad shM RX7 cX7_holds (some .int) K) {x0 : Nat} {x1 : Int32} {x2 : Int32} {x3 : Int32} {σ : Hp} (h : wpO (f_X7_holds x0 x1 x2 x3 σ) (KI K)) : WW l γ 3 8 ad shM 0 [(0, .ref (ad x0)), (1, .int x1), (2, .int x2), (3, .int x3)] [] σ := by
  unfold f_X7_holds at h
  refine r_iconst hc (v := 0) (by decide) dX7_holds_0 ?_
  refine r_istoreE hc (i := 4) (lv' := [(4, .int 0), (0, .ref (ad x0)), (1, .int x1), (2, .int x2), (3, .int x3)]) rfl (by decide) rfl dX7_holds_1 ?_
  refine r_iconst hc (v := 0) (by decide) dX7_holds_3 ?_
  refine r_istoreE hc (i := 5) (lv' := [(5, .int 0), (4, .int 0), (0, .ref (ad x0)), (1, .int x1), (2, .int x2), (3, .int x3)]) rfl (by decide) rfl dX7_holds_4 ?_
  refine r_sub [2, 3, 4, 5, 1, 0] (lv' := [(0, .ref (ad x0)), (1, .int x1), (2, .int x2), (3, .int x3), (4, .int 0), (5, .int 0)]) rfl ?_
  refine t_X7_holds_L6 hc (wp_bb h) ?_
  · intro y1 σ2 h
    refine r_iload hc 0 rfl dX7_holds_196 ?_
    have h := wp_v h
    exact r_iret hc h dX7_holds_198
theorem c_X7_holds {l : Launch} {x0 : Nat} {x1 : Int32} {x2 : Int32} {x3 : Int32} {σ σ' : Hp} {r : Int32} (h : f_X7_holds x0 x1 x2 x3 σ = some (r, σ')) : Mt l yX7_holds cX7_holds 8 (some .int) 3 shM (fun ad => [.ref (ad x0), .int x1, .int x2, .int x3]) σ (fun ad => some (.int r)) σ' := mt_i (own := RX7) (by decide) rfl (fun _ => Nat.le_of_ble_eq_true rfl) (fun γ ad K hc hk => t_X7_holds hc ⟨_, _, h, hk⟩)

-- NetMapsModel.laysLeft(II)V
theorem dX7_laysLeft_0 : decode cX7_laysLeft 0 = .ok (.iconst 0, 1) := by decide +kernel
theorem dX7_laysLeft_1 : decode cX7_laysLeft 1 = .ok (.istore_n 3, 1) := by decide +kernel
theorem dX7_laysLeft_2 : decode cX7_laysLeft 2 = .ok (.iload_n 3, 1) := by decide +kernel
theorem dX7_laysLeft_3 : decode cX7_laysLeft 3 = .ok (.aload_n 0, 1) := by decide +kernel
theorem dX7_laysLeft_4 : decode cX7_laysLeft 4 = .ok (.getfield 7, 3) := by decide +kernel
theorem dX7_laysLeft_7 : decode cX7_laysLeft 7 = .ok (.iload_n 1, 1) := by decide +kernel
theorem dX7_laysLeft_8 : decode cX7_laysLeft 8 = .ok (.iaload, 1) := by decide +kernel
theorem dX7_laysLeft_9 : decode cX7_laysLeft 9 = .ok (.if_icmp .ge 32, 3) := by decide +kernel
theorem dX7_laysLeft_12 : decode cX7_laysLeft 12 = .ok (.aload_n 0, 1) := by decide +kernel
theorem dX7_laysLeft_13 : decode cX7_laysLeft 13 = .ok (.getfield 35, 3) := by decide +kernel
theorem dX7_laysLeft_16 : decode cX7_laysLeft 16 = .ok (.iload_n 3, 1) := by decide +kernel
theorem dX7_laysLeft_17 : decode cX7_laysLeft 17 = .ok (.aload_n 0, 1) := by decide +kernel
theorem dX7_laysLeft_18 : decode cX7_laysLeft 18 = .ok (.getfield 19, 3) := by decide +kernel
theorem dX7_laysLeft_21 : decode cX7_laysLeft 21 = .ok (.iload_n 3, 1) := by decide +kernel
theorem dX7_laysLeft_22 : decode cX7_laysLeft 22 = .ok (.iaload, 1) := by decide +kernel
theorem dX7_laysLeft_23 : decode cX7_laysLeft 23 = .ok (.iconst 1, 1) := by decide +kernel
theorem dX7_laysLeft_24 : decode cX7_laysLeft 24 = .ok (.aload_n 0, 1) := by decide +kernel
theorem dX7_laysLeft_25 : decode cX7_laysLeft 25 = .ok (.getfield 7, 3) := by decide +kernel
theorem dX7_laysLeft_28 : decode cX7_laysLeft 28 = .ok (.iload_n 2, 1) := by decide +kernel
theorem dX7_laysLeft_29 : decode cX7_laysLeft 29 = .ok (.iaload, 1) := by decide +kernel
theorem dX7_laysLeft_30 : decode cX7_laysLeft 30 = .ok (.ishl, 1) := by decide +kernel
theorem dX7_laysLeft_31 : decode cX7_laysLeft 31 = .ok (.iconst 1, 1) := by decide +kernel
theorem dX7_laysLeft_32 : decode cX7_laysLeft 32 = .ok (.isub, 1) := by decide +kernel
theorem dX7_laysLeft_33 : decode cX7_laysLeft 33 = .ok (.iand, 1) := by decide +kernel
theorem dX7_laysLeft_34 : decode cX7_laysLeft 34 = .ok (.iastore, 1) := by decide +kernel
theorem dX7_laysLeft_35 : decode cX7_laysLeft 35 = .ok (.iinc 3 1, 3) := by decide +kernel
theorem dX7_laysLeft_38 : decode cX7_laysLeft 38 = .ok (.goto (-36), 3) := by decide +kernel
theorem dX7_laysLeft_41 : decode cX7_laysLeft 41 = .ok (.iconst 1, 1) := by decide +kernel
theorem dX7_laysLeft_42 : decode cX7_laysLeft 42 = .ok (.istore_n 3, 1) := by decide +kernel
theorem dX7_laysLeft_43 : decode cX7_laysLeft 43 = .ok (.iload_n 3, 1) := by decide +kernel
theorem dX7_laysLeft_44 : decode cX7_laysLeft 44 = .ok (.ifCond .eq 69, 3) := by decide +kernel
theorem dX7_laysLeft_47 : decode cX7_laysLeft 47 = .ok (.iconst 0, 1) := by decide +kernel
theorem dX7_laysLeft_48 : decode cX7_laysLeft 48 = .ok (.istore_n 3, 1) := by decide +kernel
theorem dX7_laysLeft_49 : decode cX7_laysLeft 49 = .ok (.iconst 0, 1) := by decide +kernel
theorem dX7_laysLeft_50 : decode cX7_laysLeft 50 = .ok (.istore 4, 2) := by decide +kernel
theorem dX7_laysLeft_52 : decode cX7_laysLeft 52 = .ok (.iload 4, 2) := by decide +kernel
theorem dX7_laysLeft_54 : decode cX7_laysLeft 54 = .ok (.aload_n 0, 1) := by decide +kernel
theorem dX7_laysLeft_55 : decode cX7_laysLeft 55 = .ok (.getfield 7, 3) := by decide +kernel
theorem dX7_laysLeft_58 : decode cX7_laysLeft 58 = .ok (.iload_n 1, 1) := by decide +kernel
theorem dX7_laysLeft_59 : decode cX7_laysLeft 59 = .ok (.iaload, 1) := by decide +kernel
theorem dX7_laysLeft_60 : decode cX7_laysLeft 60 = .ok (.if_icmp .ge 50, 3) := by decide +kernel
theorem dX7_laysLeft_63 : decode cX7_laysLeft 63 = .ok (.aload_n 0, 1) := by decide +kernel
theorem dX7_laysLeft_64 : decode cX7_laysLeft 64 = .ok (.iload_n 1, 1) := by decide +kernel
theorem dX7_laysLeft_65 : decode cX7_laysLeft 65 = .ok (.iload_n 2, 1) := by decide +kernel
theorem dX7_laysLeft_66 : decode cX7_laysLeft 66 = .ok (.iload 4, 2) := by decide +kernel
theorem dX7_laysLeft_68 : decode cX7_laysLeft 68 = .ok (.invokevirtual 256, 3) := by decide +kernel
theorem dX7_laysLeft_71 : decode cX7_laysLeft 71 = .ok (.istore 5, 2) := by decide +kernel
theorem dX7_laysLeft_73 : decode cX7_laysLeft 73 = .ok (.iload_n 3, 1) := by decide +kernel
theorem dX7_laysLeft_74 : decode cX7_laysLeft 74 = .ok (.ifCond .ne 15, 3) := by decide +kernel
theorem dX7_laysLeft_77 : decode cX7_laysLeft 77 = .ok (.iload 5, 2) := by decide +kernel
theorem dX7_laysLeft_79 : decode cX7_laysLeft 79 = .ok (.aload_n 0, 1) := by decide +kernel
theorem dX7_laysLeft_80 : decode cX7_laysLeft 80 = .ok (.getfield 35, 3) := by decide +kernel
theorem dX7_laysLeft_83 : decode cX7_laysLeft 83 = .ok (.iload 4, 2) := by decide +kernel
theorem dX7_laysLeft_85 : decode cX7_laysLeft 85 = .ok (.iaload, 1) := by decide +kernel
theorem dX7_laysLeft_86 : decode cX7_laysLeft 86 = .ok (.if_icmp .eq 7, 3) := by decide +kernel
theorem dX7_laysLeft_89 : decode cX7_laysLeft 89 = .ok (.iconst 1, 1) := by decide +kernel
theorem dX7_laysLeft_90 : decode cX7_laysLeft 90 = .ok (.goto 4, 3) := by decide +kernel
theorem dX7_laysLeft_93 : decode cX7_laysLeft 93 = .ok (.iconst 0, 1) := by decide +kernel
theorem dX7_laysLeft_94 : decode cX7_laysLeft 94 = .ok (.istore_n 3, 1) := by decide +kernel
theorem dX7_laysLeft_95 : decode cX7_laysLeft 95 = .ok (.aload_n 0, 1) := by decide +kernel
theorem dX7_laysLeft_96 : decode cX7_laysLeft 96 = .ok (.getfield 35, 3) := by decide +kernel
theorem dX7_laysLeft_99 : decode cX7_laysLeft 99 = .ok (.iload 4, 2) := by decide +kernel
theorem dX7_laysLeft_101 : decode cX7_laysLeft 101 = .ok (.iload 5, 2) := by decide +kernel
theorem dX7_laysLeft_103 : decode cX7_laysLeft 103 = .ok (.iastore, 1) := by decide +kernel
theorem dX7_laysLeft_104 : decode cX7_laysLeft 104 = .ok (.iinc 4 1, 3) := by decide +kernel
theorem dX7_laysLeft_107 : decode cX7_laysLeft 107 = .ok (.goto (-55), 3) := by decide +kernel
theorem dX7_laysLeft_110 : decode cX7_laysLeft 110 = .ok (.goto (-67), 3) := by decide +kernel
theorem dX7_laysLeft_113 : decode cX7_laysLeft 113 = .ok (.return_, 1) := by decide +kernel
noncomputable def f_X7_laysLeft_L2 (x0 : Nat) (x1 : Int32) (x2 : Int32) (v : (Int32)) (σ : Hp) : Option (((Int32) ⊕ (Unit)) × Hp) := gO (getR shM 7 x0 0 σ) fun v1 => gO (aldI shM 0 v1 x1 σ) fun v2 => if v2 ≤ v then (some (Sum.inr (), σ)) else (gO (getR shM 7 x0 16 σ) fun v3 => gO (getR shM 7 x0 3 σ) fun v4 => gO (aldI shM 0 v4 v σ) fun v5 => gO (getR shM 7 x0 0 σ) fun v6 => gO (aldI shM 0 v6 x2 σ) fun v7 => gO (astI shM 0 v3 v (v5 &&& (((1 : Int32) <<< (v7 &&& 31)) - 1)) σ) fun σ8 => some (Sum.inl (v + 1), σ8))
set_option maxRecDepth 100000 in
set_option maxHeartbeats 4000000 in
theorem t_X7_laysLeft_L2 {l : Launch} {γ : Gm} {ad : Nat → Nat} {K : Option Value → Hp → Prop}  (hc : Cx l γ 4 6 ad shM RX7 cX7_laysLeft none K) {x0 : Nat} {x1 : Int32} {x2 : Int32} {v : (Int32)} {σ : Hp} {KX : (Unit) → Hp → Prop} (h : wpO (wh (f_X7_laysLeft_L2 x0 x1 x2) v σ) KX) (kx41 : ∀ (v : Unit) (σ : Hp), KX v σ → WW l γ 4 6 ad shM 41 [(0, .ref (ad x0)), (1, .int x1), (2, .int x2)] [] σ) : WW l γ 4 6 ad shM 2 [(0, .ref (ad x0)), (1, .int x1), (2, .int x2), (3, .int v)] [] σ := by
  refine wh_W (P := fun v σ => WW l γ 4 6 ad shM 2 [(0, .ref (ad x0)), (1, .int x1), (2, .int x2), (3, .int v)] [] σ) (fun v σ h => ?_) h
  have kn : ∀ (v : (Int32)) (σ : Hp), WW l γ 4 6 ad shM 2 [(0, .ref (ad x0)), (1, .int x1), (2, .int x2), (3, .int v)] [] σ → WW l γ 4 6 ad shM 2 [(0, .ref (ad x0)), (1, .int x1), (2, .int x2), (3, .int v)] [] σ := fun _ _ h => h
  · unfold f_X7_laysLeft_L2 at h
    refine r_iload_n hc 3 rfl rfl dX7_laysLeft_2 ?_
    refine r_aload_n hc 0 rfl rfl dX7_laysLeft_3 ?_
    obtain ⟨v1, ev1, h⟩ := wp_g h
    refine r_getR hc ev1 fl_X7_7 rfl dX7_laysLeft_4 ?_
    refine r_iload_n hc 1 rfl rfl dX7_laysLeft_7 ?_
    obtain ⟨v2, ev2, h⟩ := wp_g h
    refine r_iald hc ev2 dX7_laysLeft_8 ?_
    refine r_icmp_ge hc (tgt := 41) dX7_laysLeft_9 (by decide) (fun c => ?_) (fun c => ?_)
    · have h := wp_t c h
      refine r_sub [0, 1, 2] (lv' := [(0, .ref (ad x0)), (1, .int x1), (2, .int x2)]) rfl ?_
      have h := wp_v h
      exact kx41 () _ h
    · have h := wp_f c h
      refine r_aload_n hc 0 rfl rfl dX7_laysLeft_12 ?_
      obtain ⟨v3, ev3, h⟩ := wp_g h
      refine r_getR hc ev3 fl_X7_35 rfl dX7_laysLeft_13 ?_
      refine r_iload_n hc 3 rfl rfl dX7_laysLeft_16 ?_
      refine r_aload_n hc 0 rfl rfl dX7_laysLeft_17 ?_
      obtain ⟨v4, ev4, h⟩ := wp_g h
      refine r_getR hc ev4 fl_X7_19 rfl dX7_laysLeft_18 ?_
      refine r_iload_n hc 3 rfl rfl dX7_laysLeft_21 ?_
      obtain ⟨v5, ev5, h⟩ := wp_g h
      refine r_iald hc ev5 dX7_laysLeft_22 ?_
      refine r_iconst hc (v := 1) (by decide) dX7_laysLeft_23 ?_
      refine r_aload_n hc 0 rfl rfl dX7_laysLeft_24 ?_
      obtain ⟨v6, ev6, h⟩ := wp_g h
      refine r_getR hc ev6 fl_X7_7 rfl dX7_laysLeft_25 ?_
      refine r_iload_n hc 2 rfl rfl dX7_laysLeft_28 ?_
      obtain ⟨v7, ev7, h⟩ := wp_g h
      refine r_iald hc ev7 dX7_laysLeft_29 ?_
      refine r_ishl hc dX7_laysLeft_30 ?_
      refine r_iconst hc (v := 1) (by decide) dX7_laysLeft_31 ?_
      refine r_isub hc dX7_laysLeft_32 ?_
      refine r_iand hc dX7_laysLeft_33 ?_
      obtain ⟨σ8, eσ8, h⟩ := wp_g h
      refine r_iast hc eσ8 dX7_laysLeft_34 ?_
      refine r_iincE hc (j := 3) (w := 1) (lv' := [(3, .int (v + 1)), (0, .ref (ad x0)), (1, .int x1), (2, .int x2)]) rfl (by decide) rfl (by decide) rfl dX7_laysLeft_35 ?_
      refine r_goto hc (tgt := 2) dX7_laysLeft_38 (by decide) ?_
      refine r_sub [1, 2, 3, 0] (lv' := [(0, .ref (ad x0)), (1, .int x1), (2, .int x2), (3, .int (v + 1))]) rfl ?_
      have h := wp_v h
      exact kn (v + 1) _ h
noncomputable def f_X7_laysLeft_b94 (x0 : Nat) (x1 : Int32) (x2 : Int32) (x4 : Int32) (x5 : Int32) (s0 : Int32) (σ : Hp) : Option (((Int32 × Int32) ⊕ (Int32)) × Hp) := gO (getR shM 7 x0 16 σ) fun v1 => gO (astI shM 0 v1 x4 x5 σ) fun σ2 => some (Sum.inl (s0, (x4 + 1)), σ2)
set_option maxRecDepth 100000 in
set_option maxHeartbeats 4000000 in
theorem t_X7_laysLeft_b94 {l : Launch} {γ : Gm} {ad : Nat → Nat} {K : Option Value → Hp → Prop} (hc : Cx l γ 4 6 ad shM RX7 cX7_laysLeft none K) {x0 : Nat} {x1 : Int32} {x2 : Int32} {x4 : Int32} {x5 : Int32} {s0 : Int32}  {σ : Hp} {KL : ((Int32 × Int32) ⊕ (Int32)) → Hp → Prop} (h : wpO (f_X7_laysLeft_b94 x0 x1 x2 x4 x5 s0 σ) KL) (kn : ∀ (v : (Int32 × Int32)) (σ : Hp), KL (Sum.inl v) σ → WW l γ 4 6 ad shM 52 [(0, .ref (ad x0)), (1, .int x1), (2, .int x2), (3, .int v.1), (4, .int v.2)] [] σ) (kx110 : ∀ (v : Int32) (σ : Hp), KL (Sum.inr v) σ → WW l γ 4 6 ad shM 110 [(0, .ref (ad x0)), (1, .int x1), (2, .int x2), (3, .int v)] [] σ) : WW l γ 4 6 ad shM 94 [(0, .ref (ad x0)), (1, .int x1), (2, .int x2), (4, .int x4), (5, .int x5)] [.int s0] σ := by
  unfold f_X7_laysLeft_b94 at h
  refine r_istore_nE hc (i := 3) (lv' := [(3, .int s0), (0, .ref (ad x0)), (1, .int x1), (2, .int x2), (4, .int x4), (5, .int x5)]) rfl rfl (by decide) rfl dX7_laysLeft_94 ?_
  refine r_aload_n hc 1 rfl rfl dX7_laysLeft_95 ?_
  obtain ⟨v1, ev1, h⟩ := wp_g h
  refine r_getR hc ev1 fl_X7_35 rfl dX7_laysLeft_96 ?_
  refine r_iload hc 4 rfl dX7_laysLeft_99 ?_
  refine r_iload hc 5 rfl dX7_laysLeft_101 ?_
  obtain ⟨σ2, eσ2, h⟩ := wp_g h
  refine r_iast hc eσ2 dX7_laysLeft_103 ?_
  refine r_iincE hc (j := 4) (w := 1) (lv' := [(4, .int (x4 + 1)), (3, .int s0), (0, .ref (ad x0)), (1, .int x1), (2, .int x2), (5, .int x5)]) rfl (by decide) rfl (by decide) rfl dX7_laysLeft_104 ?_
  refine r_goto hc (tgt := 52) dX7_laysLeft_107 (by decide) ?_
  refine r_sub [2, 3, 4, 1, 0] (lv' := [(0, .ref (ad x0)), (1, .int x1), (2, .int x2), (3, .int s0), (4, .int (x4 + 1))]) rfl ?_
  have h := wp_v h
  exact kn (s0, (x4 + 1)) _ h
noncomputable def f_X7_laysLeft_b89 (x0 : Nat) (x1 : Int32) (x2 : Int32) (x4 : Int32) (x5 : Int32) (σ : Hp) : Option (((Int32 × Int32) ⊕ (Int32)) × Hp) := f_X7_laysLeft_b94 x0 x1 x2 x4 x5 1 σ
set_option maxRecDepth 100000 in
set_option maxHeartbeats 4000000 in
theorem t_X7_laysLeft_b89 {l : Launch} {γ : Gm} {ad : Nat → Nat} {K : Option Value → Hp → Prop} (hc : Cx l γ 4 6 ad shM RX7 cX7_laysLeft none K) {x0 : Nat} {x1 : Int32} {x2 : Int32} {x4 : Int32} {x5 : Int32}  {σ : Hp} {KL : ((Int32 × Int32) ⊕ (Int32)) → Hp → Prop} (h : wpO (f_X7_laysLeft_b89 x0 x1 x2 x4 x5 σ) KL) (kn : ∀ (v : (Int32 × Int32)) (σ : Hp), KL (Sum.inl v) σ → WW l γ 4 6 ad shM 52 [(0, .ref (ad x0)), (1, .int x1), (2, .int x2), (3, .int v.1), (4, .int v.2)] [] σ) (kx110 : ∀ (v : Int32) (σ : Hp), KL (Sum.inr v) σ → WW l γ 4 6 ad shM 110 [(0, .ref (ad x0)), (1, .int x1), (2, .int x2), (3, .int v)] [] σ) : WW l γ 4 6 ad shM 89 [(0, .ref (ad x0)), (1, .int x1), (2, .int x2), (4, .int x4), (5, .int x5)] [] σ := by
  unfold f_X7_laysLeft_b89 at h
  refine r_iconst hc (v := 1) (by decide) dX7_laysLeft_89 ?_
  refine r_goto hc (tgt := 94) dX7_laysLeft_90 (by decide) ?_
  exact t_X7_laysLeft_b94 hc h kn kx110
noncomputable def f_X7_laysLeft_L52 (x0 : Nat) (x1 : Int32) (x2 : Int32) (v : (Int32 × Int32)) (σ : Hp) : Option (((Int32 × Int32) ⊕ (Int32)) × Hp) := gO (getR shM 7 x0 0 σ) fun v1 => gO (aldI shM 0 v1 x1 σ) fun v2 => if v2 ≤ v.2 then (some (Sum.inr v.1, σ)) else (gO (chk shM x0 7) fun _ => bO (f_X7_holds x0 x1 x2 v.2 σ) fun r3 σ4 => if v.1 = 0 then (gO (getR shM 7 x0 16 σ4) fun v6 => gO (aldI shM 0 v6 v.2 σ4) fun v7 => if r3 = v7 then (f_X7_laysLeft_b94 x0 x1 x2 v.2 r3 0 σ4) else (f_X7_laysLeft_b89 x0 x1 x2 v.2 r3 σ4)) else (f_X7_laysLeft_b89 x0 x1 x2 v.2 r3 σ4))
set_option maxRecDepth 100000 in
set_option maxHeartbeats 4000000 in
theorem t_X7_laysLeft_L52 {l : Launch} {γ : Gm} {ad : Nat → Nat} {K : Option Value → Hp → Prop}  (hc : Cx l γ 4 6 ad shM RX7 cX7_laysLeft none K) {x0 : Nat} {x1 : Int32} {x2 : Int32} {v : (Int32 × Int32)} {σ : Hp} {KX : (Int32) → Hp → Prop} (h : wpO (wh (f_X7_laysLeft_L52 x0 x1 x2) v σ) KX) (kx110 : ∀ (v : Int32) (σ : Hp), KX v σ → WW l γ 4 6 ad shM 110 [(0, .ref (ad x0)), (1, .int x1), (2, .int x2), (3, .int v)] [] σ) : WW l γ 4 6 ad shM 52 [(0, .ref (ad x0)), (1, .int x1), (2, .int x2), (3, .int v.1), (4, .int v.2)] [] σ := by
  refine wh_W (P := fun v σ => WW l γ 4 6 ad shM 52 [(0, .ref (ad x0)), (1, .int x1), (2, .int x2), (3, .int v.1), (4, .int v.2)] [] σ) (fun v σ h => ?_) h
  have kn : ∀ (v : (Int32 × Int32)) (σ : Hp), WW l γ 4 6 ad shM 52 [(0, .ref (ad x0)), (1, .int x1), (2, .int x2), (3, .int v.1), (4, .int v.2)] [] σ → WW l γ 4 6 ad shM 52 [(0, .ref (ad x0)), (1, .int x1), (2, .int x2), (3, .int v.1), (4, .int v.2)] [] σ := fun _ _ h => h
  · unfold f_X7_laysLeft_L52 at h
    refine r_iload hc 4 rfl dX7_laysLeft_52 ?_
    refine r_aload_n hc 0 rfl rfl dX7_laysLeft_54 ?_
    obtain ⟨v1, ev1, h⟩ := wp_g h
    refine r_getR hc ev1 fl_X7_7 rfl dX7_laysLeft_55 ?_
    refine r_iload_n hc 1 rfl rfl dX7_laysLeft_58 ?_
    obtain ⟨v2, ev2, h⟩ := wp_g h
    refine r_iald hc ev2 dX7_laysLeft_59 ?_
    refine r_icmp_ge hc (tgt := 110) dX7_laysLeft_60 (by decide) (fun c => ?_) (fun c => ?_)
    · have h := wp_t c h
      refine r_sub [0, 1, 2, 3] (lv' := [(0, .ref (ad x0)), (1, .int x1), (2, .int x2), (3, .int v.1)]) rfl ?_
      have h := wp_v h
      exact kx110 v.1 _ h
    · have h := wp_f c h
      refine r_aload_n hc 0 rfl rfl dX7_laysLeft_63 ?_
      refine r_iload_n hc 1 rfl rfl dX7_laysLeft_64 ?_
      refine r_iload_n hc 2 rfl rfl dX7_laysLeft_65 ?_
      refine r_iload hc 4 rfl dX7_laysLeft_66 ?_
      obtain ⟨_, ek5, h⟩ := wp_g h
      obtain ⟨r3, σ4, er3, h⟩ := wp_b h
      refine r_callV hc (k0 := x0) mv_X7_holds ml_X7_256 (c_X7_holds er3) (chk_of ek5) cls_7.1 rfl rfl rfl (by decide) rfl (Nat.le_of_ble_eq_true rfl) dX7_laysLeft_68 ?_
      refine r_istoreE hc (i := 5) (lv' := [(5, .int r3), (0, .ref (ad x0)), (1, .int x1), (2, .int x2), (3, .int v.1), (4, .int v.2)]) rfl (by decide) rfl dX7_laysLeft_71 ?_
      refine r_iload_n hc 4 rfl rfl dX7_laysLeft_73 ?_
      refine r_if_ne hc (tgt := 89) dX7_laysLeft_74 (by decide) (fun c => ?_) (fun c => ?_)
      · have h := wp_f c h
        refine r_sub [1, 2, 3, 5, 0] (lv' := [(0, .ref (ad x0)), (1, .int x1), (2, .int x2), (4, .int v.2), (5, .int r3)]) rfl ?_
        exact t_X7_laysLeft_b89 hc h kn kx110
      · have h := wp_t c h
        refine r_iload hc 0 rfl dX7_laysLeft_77 ?_
        refine r_aload_n hc 1 rfl rfl dX7_laysLeft_79 ?_
        obtain ⟨v6, ev6, h⟩ := wp_g h
        refine r_getR hc ev6 fl_X7_35 rfl dX7_laysLeft_80 ?_
        refine r_iload hc 5 rfl dX7_laysLeft_83 ?_
        obtain ⟨v7, ev7, h⟩ := wp_g h
        refine r_iald hc ev7 dX7_laysLeft_85 ?_
        refine r_icmp_eq hc (tgt := 93) dX7_laysLeft_86 (by decide) (fun c => ?_) (fun c => ?_)
        · have h := wp_t c h
          refine r_iconst hc (v := 0) (by decide) dX7_laysLeft_93 ?_
          refine r_sub [1, 2, 3, 5, 0] (lv' := [(0, .ref (ad x0)), (1, .int x1), (2, .int x2), (4, .int v.2), (5, .int r3)]) rfl ?_
          exact t_X7_laysLeft_b94 hc h kn kx110
        · have h := wp_f c h
          refine r_sub [1, 2, 3, 5, 0] (lv' := [(0, .ref (ad x0)), (1, .int x1), (2, .int x2), (4, .int v.2), (5, .int r3)]) rfl ?_
          exact t_X7_laysLeft_b89 hc h kn kx110
noncomputable def f_X7_laysLeft_L43 (x0 : Nat) (x1 : Int32) (x2 : Int32) (v : (Int32)) (σ : Hp) : Option (((Int32) ⊕ (Unit)) × Hp) := if v = 0 then (some (Sum.inr (), σ)) else (bO (wh (f_X7_laysLeft_L52 x0 x1 x2) (0, 0) σ) fun y1 σ2 => (some (Sum.inl y1, σ2)))
set_option maxRecDepth 100000 in
set_option maxHeartbeats 4000000 in
theorem t_X7_laysLeft_L43 {l : Launch} {γ : Gm} {ad : Nat → Nat} {K : Option Value → Hp → Prop}  (hc : Cx l γ 4 6 ad shM RX7 cX7_laysLeft none K) {x0 : Nat} {x1 : Int32} {x2 : Int32} {v : (Int32)} {σ : Hp} {KX : (Unit) → Hp → Prop} (h : wpO (wh (f_X7_laysLeft_L43 x0 x1 x2) v σ) KX) (kx113 : ∀ (v : Unit) (σ : Hp), KX v σ → WW l γ 4 6 ad shM 113 [] [] σ) : WW l γ 4 6 ad shM 43 [(0, .ref (ad x0)), (1, .int x1), (2, .int x2), (3, .int v)] [] σ := by
  refine wh_W (P := fun v σ => WW l γ 4 6 ad shM 43 [(0, .ref (ad x0)), (1, .int x1), (2, .int x2), (3, .int v)] [] σ) (fun v σ h => ?_) h
  have kn : ∀ (v : (Int32)) (σ : Hp), WW l γ 4 6 ad shM 43 [(0, .ref (ad x0)), (1, .int x1), (2, .int x2), (3, .int v)] [] σ → WW l γ 4 6 ad shM 43 [(0, .ref (ad x0)), (1, .int x1), (2, .int x2), (3, .int v)] [] σ := fun _ _ h => h
  · unfold f_X7_laysLeft_L43 at h
    refine r_iload_n hc 3 rfl rfl dX7_laysLeft_43 ?_
    refine r_if_eq hc (tgt := 113) dX7_laysLeft_44 (by decide) (fun c => ?_) (fun c => ?_)
    · have h := wp_t c h
      refine r_sub [] (lv' := []) rfl ?_
      have h := wp_v h
      exact kx113 () _ h
    · have h := wp_f c h
      refine r_iconst hc (v := 0) (by decide) dX7_laysLeft_47 ?_
      refine r_istore_nE hc (i := 3) (lv' := [(3, .int 0), (0, .ref (ad x0)), (1, .int x1), (2, .int x2)]) rfl rfl (by decide) rfl dX7_laysLeft_48 ?_
      refine r_iconst hc (v := 0) (by decide) dX7_laysLeft_49 ?_
      refine r_istoreE hc (i := 4) (lv' := [(4, .int 0), (3, .int 0), (0, .ref (ad x0)), (1, .int x1), (2, .int x2)]) rfl (by decide) rfl dX7_laysLeft_50 ?_
      refine r_sub [2, 3, 4, 1, 0] (lv' := [(0, .ref (ad x0)), (1, .int x1), (2, .int x2), (3, .int 0), (4, .int 0)]) rfl ?_
      refine t_X7_laysLeft_L52 hc (wp_bb h) ?_
      · intro y1 σ2 h
        refine r_goto hc (tgt := 43) dX7_laysLeft_110 (by decide) ?_
        have h := wp_v h
        exact kn y1 _ h
noncomputable def f_X7_laysLeft (x0 : Nat) (x1 : Int32) (x2 : Int32) (σ : Hp) : Option (Unit × Hp) := bO (wh (f_X7_laysLeft_L2 x0 x1 x2) 0 σ) fun y1 σ2 => (bO (wh (f_X7_laysLeft_L43 x0 x1 x2) 1 σ2) fun y3 σ4 => (some ((), σ4)))
set_option maxRecDepth 100000 in
set_option maxHeartbeats 4000000 in
theorem t_X7_laysLeft {l : Launch} {γ : Gm} {ad : Nat → Nat} {K : Option Value → Hp → Prop} (hc : Cx l γ 4 6 ad shM RX7 cX7_laysLeft none K) {x0 : Nat} {x1 : Int32} {x2 : Int32} {σ : Hp} (h : wpO (f_X7_laysLeft x0 x1 x2 σ) (KU K)) : WW l γ 4 6 ad shM 0 [(0, .ref (ad x0)), (1, .int x1), (2, .int x2)] [] σ := by
  unfold f_X7_laysLeft at h
  refine r_iconst hc (v := 0) (by decide) dX7_laysLeft_0 ?_
  refine r_istore_nE hc (i := 3) (lv' := [(3, .int 0), (0, .ref (ad x0)), (1, .int x1), (2, .int x2)]) rfl rfl (by decide) rfl dX7_laysLeft_1 ?_
  refine r_sub [1, 2, 3, 0] (lv' := [(0, .ref (ad x0)), (1, .int x1), (2, .int x2), (3, .int 0)]) rfl ?_
  refine t_X7_laysLeft_L2 hc (wp_bb h) ?_
  · intro y1 σ2 h
    refine r_iconst hc (v := 1) (by decide) dX7_laysLeft_41 ?_
    refine r_istore_nE hc (i := 3) (lv' := [(3, .int 1), (0, .ref (ad x0)), (1, .int x1), (2, .int x2)]) rfl rfl (by decide) rfl dX7_laysLeft_42 ?_
    refine r_sub [1, 2, 3, 0] (lv' := [(0, .ref (ad x0)), (1, .int x1), (2, .int x2), (3, .int 1)]) rfl ?_
    refine t_X7_laysLeft_L43 hc (wp_bb h) ?_
    · intro y3 σ4 h
      have h := wp_v h
      exact r_vret hc h dX7_laysLeft_113
theorem c_X7_laysLeft {l : Launch} {x0 : Nat} {x1 : Int32} {x2 : Int32} {σ σ' : Hp} {r : Unit} (h : f_X7_laysLeft x0 x1 x2 σ = some (r, σ')) : Mt l yX7_laysLeft cX7_laysLeft 6 none 4 shM (fun ad => [.ref (ad x0), .int x1, .int x2]) σ (fun ad => none) σ' := mt_i (own := RX7) (by decide) rfl (fun _ => Nat.le_of_ble_eq_true rfl) (fun γ ad K hc hk => t_X7_laysLeft hc ⟨_, _, h, hk⟩)

-- NetMapsModel.left(III)I
theorem dX7_left_0 : decode cX7_left 0 = .ok (.iload_n 1, 1) := by decide +kernel
theorem dX7_left_1 : decode cX7_left 1 = .ok (.iload_n 2, 1) := by decide +kernel
theorem dX7_left_2 : decode cX7_left 2 = .ok (.invokestatic 243, 3) := by decide +kernel
theorem dX7_left_5 : decode cX7_left 5 = .ok (.ifCond .eq 12, 3) := by decide +kernel
theorem dX7_left_8 : decode cX7_left 8 = .ok (.aload_n 0, 1) := by decide +kernel
theorem dX7_left_9 : decode cX7_left 9 = .ok (.iload_n 1, 1) := by decide +kernel
theorem dX7_left_10 : decode cX7_left 10 = .ok (.iload_n 3, 1) := by decide +kernel
theorem dX7_left_11 : decode cX7_left 11 = .ok (.invokevirtual 144, 3) := by decide +kernel
theorem dX7_left_14 : decode cX7_left 14 = .ok (.ifCond .ne 5, 3) := by decide +kernel
theorem dX7_left_17 : decode cX7_left 17 = .ok (.iconst (-1), 1) := by decide +kernel
theorem dX7_left_18 : decode cX7_left 18 = .ok (.ireturn, 1) := by decide +kernel
theorem dX7_left_19 : decode cX7_left 19 = .ok (.aload_n 0, 1) := by decide +kernel
theorem dX7_left_20 : decode cX7_left 20 = .ok (.iload_n 1, 1) := by decide +kernel
theorem dX7_left_21 : decode cX7_left 21 = .ok (.iload_n 2, 1) := by decide +kernel
theorem dX7_left_22 : decode cX7_left 22 = .ok (.invokevirtual 246, 3) := by decide +kernel
theorem dX7_left_25 : decode cX7_left 25 = .ok (.ifCond .eq 6, 3) := by decide +kernel
theorem dX7_left_28 : decode cX7_left 28 = .ok (.bipush (-2), 2) := by decide +kernel
theorem dX7_left_30 : decode cX7_left 30 = .ok (.ireturn, 1) := by decide +kernel
theorem dX7_left_31 : decode cX7_left 31 = .ok (.aload_n 0, 1) := by decide +kernel
theorem dX7_left_32 : decode cX7_left 32 = .ok (.iload_n 1, 1) := by decide +kernel
theorem dX7_left_33 : decode cX7_left 33 = .ok (.iload_n 2, 1) := by decide +kernel
theorem dX7_left_34 : decode cX7_left 34 = .ok (.invokevirtual 260, 3) := by decide +kernel
theorem dX7_left_37 : decode cX7_left 37 = .ok (.aload_n 0, 1) := by decide +kernel
theorem dX7_left_38 : decode cX7_left 38 = .ok (.getfield 35, 3) := by decide +kernel
theorem dX7_left_41 : decode cX7_left 41 = .ok (.iload_n 3, 1) := by decide +kernel
theorem dX7_left_42 : decode cX7_left 42 = .ok (.iaload, 1) := by decide +kernel
theorem dX7_left_43 : decode cX7_left 43 = .ok (.ireturn, 1) := by decide +kernel
noncomputable def f_X7_left_b17  (σ : Hp) : Option (Int32 × Hp) := some ((-1), σ)
set_option maxRecDepth 100000 in
set_option maxHeartbeats 4000000 in
theorem t_X7_left_b17 {l : Launch} {γ : Gm} {ad : Nat → Nat} {K : Option Value → Hp → Prop} (hc : Cx l γ 5 4 ad shM RX7 cX7_left (some .int) K)  {σ : Hp} (h : wpO (f_X7_left_b17  σ) (KI K)) : WW l γ 5 4 ad shM 17 [] [] σ := by
  unfold f_X7_left_b17 at h
  refine r_iconst hc (v := (-1)) (by decide) dX7_left_17 ?_
  have h := wp_v h
  exact r_iret hc h dX7_left_18
noncomputable def f_X7_left (x0 : Nat) (x1 : Int32) (x2 : Int32) (x3 : Int32) (σ : Hp) : Option (Int32 × Hp) := bO (f_X7_areDrawers x1 x2 σ) fun r1 σ2 => if r1 = 0 then (f_X7_left_b17  σ2) else (gO (chk shM x0 7) fun _ => bO (f_X7_isNode x0 x1 x3 σ2) fun r3 σ4 => if r3 = 0 then (f_X7_left_b17  σ4) else (gO (chk shM x0 7) fun _ => bO (f_X7_isOneEmpty x0 x1 x2 σ4) fun r6 σ7 => if r6 = 0 then (gO (chk shM x0 7) fun _ => bO (f_X7_laysLeft x0 x1 x2 σ7) fun _ σ10 => gO (getR shM 7 x0 16 σ10) fun v12 => gO (aldI shM 0 v12 x3 σ10) fun v13 => some (v13, σ10)) else (some ((-2), σ7))))
set_option maxRecDepth 100000 in
set_option maxHeartbeats 4000000 in
theorem t_X7_left {l : Launch} {γ : Gm} {ad : Nat → Nat} {K : Option Value → Hp → Prop} (hc : Cx l γ 5 4 ad shM RX7 cX7_left (some .int) K) {x0 : Nat} {x1 : Int32} {x2 : Int32} {x3 : Int32} {σ : Hp} (h : wpO (f_X7_left x0 x1 x2 x3 σ) (KI K)) : WW l γ 5 4 ad shM 0 [(0, .ref (ad x0)), (1, .int x1), (2, .int x2), (3, .int x3)] [] σ := by
  unfold f_X7_left at h
  refine r_iload_n hc 1 rfl rfl dX7_left_0 ?_
  refine r_iload_n hc 2 rfl rfl dX7_left_1 ?_
  obtain ⟨r1, σ2, er1, h⟩ := wp_b h
  refine r_callS hc ms_X7_areDrawers ml_X7_243 (c_X7_areDrawers er1) rfl rfl (by decide) rfl (Nat.le_of_ble_eq_true rfl) dX7_left_2 ?_
  refine r_if_eq hc (tgt := 17) dX7_left_5 (by decide) (fun c => ?_) (fun c => ?_)
  · have h := wp_t c h
    refine r_sub [] (lv' := []) rfl ?_
    exact t_X7_left_b17 hc h
  · have h := wp_f c h
    refine r_aload_n hc 0 rfl rfl dX7_left_8 ?_
    refine r_iload_n hc 1 rfl rfl dX7_left_9 ?_
    refine r_iload_n hc 3 rfl rfl dX7_left_10 ?_
    obtain ⟨_, ek5, h⟩ := wp_g h
    obtain ⟨r3, σ4, er3, h⟩ := wp_b h
    refine r_callV hc (k0 := x0) mv_X7_isNode ml_X7_144 (c_X7_isNode er3) (chk_of ek5) cls_7.1 rfl rfl rfl (by decide) rfl (Nat.le_of_ble_eq_true rfl) dX7_left_11 ?_
    refine r_if_ne hc (tgt := 19) dX7_left_14 (by decide) (fun c => ?_) (fun c => ?_)
    · have h := wp_f c h
      refine r_aload_n hc 0 rfl rfl dX7_left_19 ?_
      refine r_iload_n hc 1 rfl rfl dX7_left_20 ?_
      refine r_iload_n hc 2 rfl rfl dX7_left_21 ?_
      obtain ⟨_, ek8, h⟩ := wp_g h
      obtain ⟨r6, σ7, er6, h⟩ := wp_b h
      refine r_callV hc (k0 := x0) mv_X7_isOneEmpty ml_X7_246 (c_X7_isOneEmpty er6) (chk_of ek8) cls_7.1 rfl rfl rfl (by decide) rfl (Nat.le_of_ble_eq_true rfl) dX7_left_22 ?_
      refine r_if_eq hc (tgt := 31) dX7_left_25 (by decide) (fun c => ?_) (fun c => ?_)
      · have h := wp_t c h
        refine r_aload_n hc 0 rfl rfl dX7_left_31 ?_
        refine r_iload_n hc 1 rfl rfl dX7_left_32 ?_
        refine r_iload_n hc 2 rfl rfl dX7_left_33 ?_
        obtain ⟨_, ek11, h⟩ := wp_g h
        obtain ⟨_, σ10, er9, h⟩ := wp_b h
        refine r_callV hc (k0 := x0) mv_X7_laysLeft ml_X7_260 (c_X7_laysLeft er9) (chk_of ek11) cls_7.1 rfl rfl rfl (by decide) rfl (Nat.le_of_ble_eq_true rfl) dX7_left_34 ?_
        refine r_aload_n hc 0 rfl rfl dX7_left_37 ?_
        obtain ⟨v12, ev12, h⟩ := wp_g h
        refine r_getR hc ev12 fl_X7_35 rfl dX7_left_38 ?_
        refine r_iload_n hc 3 rfl rfl dX7_left_41 ?_
        obtain ⟨v13, ev13, h⟩ := wp_g h
        refine r_iald hc ev13 dX7_left_42 ?_
        have h := wp_v h
        exact r_iret hc h dX7_left_43
      · have h := wp_f c h
        refine r_bipush hc (v := (-2)) (by decide) dX7_left_28 ?_
        have h := wp_v h
        exact r_iret hc h dX7_left_30
    · have h := wp_t c h
      refine r_sub [] (lv' := []) rfl ?_
      exact t_X7_left_b17 hc h
theorem c_X7_left {l : Launch} {x0 : Nat} {x1 : Int32} {x2 : Int32} {x3 : Int32} {σ σ' : Hp} {r : Int32} (h : f_X7_left x0 x1 x2 x3 σ = some (r, σ')) : Mt l yX7_left cX7_left 4 (some .int) 5 shM (fun ad => [.ref (ad x0), .int x1, .int x2, .int x3]) σ (fun ad => some (.int r)) σ' := mt_i (own := RX7) (by decide) rfl (fun _ => Nat.le_of_ble_eq_true rfl) (fun γ ad K hc hk => t_X7_left hc ⟨_, _, h, hk⟩)

-- NetMapsModel.tighten(II)I
theorem dX7_tighten_0 : decode cX7_tighten 0 = .ok (.iload_n 1, 1) := by decide +kernel
theorem dX7_tighten_1 : decode cX7_tighten 1 = .ok (.iload_n 2, 1) := by decide +kernel
theorem dX7_tighten_2 : decode cX7_tighten 2 = .ok (.invokestatic 243, 3) := by decide +kernel
theorem dX7_tighten_5 : decode cX7_tighten 5 = .ok (.ifCond .ne 5, 3) := by decide +kernel
theorem dX7_tighten_8 : decode cX7_tighten 8 = .ok (.iconst (-1), 1) := by decide +kernel
theorem dX7_tighten_9 : decode cX7_tighten 9 = .ok (.ireturn, 1) := by decide +kernel
theorem dX7_tighten_10 : decode cX7_tighten 10 = .ok (.aload_n 0, 1) := by decide +kernel
theorem dX7_tighten_11 : decode cX7_tighten 11 = .ok (.iload_n 1, 1) := by decide +kernel
theorem dX7_tighten_12 : decode cX7_tighten 12 = .ok (.iload_n 2, 1) := by decide +kernel
theorem dX7_tighten_13 : decode cX7_tighten 13 = .ok (.invokevirtual 246, 3) := by decide +kernel
theorem dX7_tighten_16 : decode cX7_tighten 16 = .ok (.ifCond .eq 6, 3) := by decide +kernel
theorem dX7_tighten_19 : decode cX7_tighten 19 = .ok (.bipush (-2), 2) := by decide +kernel
theorem dX7_tighten_21 : decode cX7_tighten 21 = .ok (.ireturn, 1) := by decide +kernel
theorem dX7_tighten_22 : decode cX7_tighten 22 = .ok (.aload_n 0, 1) := by decide +kernel
theorem dX7_tighten_23 : decode cX7_tighten 23 = .ok (.iload_n 1, 1) := by decide +kernel
theorem dX7_tighten_24 : decode cX7_tighten 24 = .ok (.iload_n 2, 1) := by decide +kernel
theorem dX7_tighten_25 : decode cX7_tighten 25 = .ok (.invokevirtual 260, 3) := by decide +kernel
theorem dX7_tighten_28 : decode cX7_tighten 28 = .ok (.iconst 0, 1) := by decide +kernel
theorem dX7_tighten_29 : decode cX7_tighten 29 = .ok (.istore_n 3, 1) := by decide +kernel
theorem dX7_tighten_30 : decode cX7_tighten 30 = .ok (.iconst 0, 1) := by decide +kernel
theorem dX7_tighten_31 : decode cX7_tighten 31 = .ok (.istore 4, 2) := by decide +kernel
theorem dX7_tighten_33 : decode cX7_tighten 33 = .ok (.iload 4, 2) := by decide +kernel
theorem dX7_tighten_35 : decode cX7_tighten 35 = .ok (.aload_n 0, 1) := by decide +kernel
theorem dX7_tighten_36 : decode cX7_tighten 36 = .ok (.getfield 7, 3) := by decide +kernel
theorem dX7_tighten_39 : decode cX7_tighten 39 = .ok (.iload_n 1, 1) := by decide +kernel
theorem dX7_tighten_40 : decode cX7_tighten 40 = .ok (.iaload, 1) := by decide +kernel
theorem dX7_tighten_41 : decode cX7_tighten 41 = .ok (.if_icmp .ge 57, 3) := by decide +kernel
theorem dX7_tighten_44 : decode cX7_tighten 44 = .ok (.iload_n 3, 1) := by decide +kernel
theorem dX7_tighten_45 : decode cX7_tighten 45 = .ok (.aload_n 0, 1) := by decide +kernel
theorem dX7_tighten_46 : decode cX7_tighten 46 = .ok (.getfield 19, 3) := by decide +kernel
theorem dX7_tighten_49 : decode cX7_tighten 49 = .ok (.iload 4, 2) := by decide +kernel
theorem dX7_tighten_51 : decode cX7_tighten 51 = .ok (.iaload, 1) := by decide +kernel
theorem dX7_tighten_52 : decode cX7_tighten 52 = .ok (.iconst 1, 1) := by decide +kernel
theorem dX7_tighten_53 : decode cX7_tighten 53 = .ok (.aload_n 0, 1) := by decide +kernel
theorem dX7_tighten_54 : decode cX7_tighten 54 = .ok (.getfield 7, 3) := by decide +kernel
theorem dX7_tighten_57 : decode cX7_tighten 57 = .ok (.iload_n 2, 1) := by decide +kernel
theorem dX7_tighten_58 : decode cX7_tighten 58 = .ok (.iaload, 1) := by decide +kernel
theorem dX7_tighten_59 : decode cX7_tighten 59 = .ok (.ishl, 1) := by decide +kernel
theorem dX7_tighten_60 : decode cX7_tighten 60 = .ok (.iconst 1, 1) := by decide +kernel
theorem dX7_tighten_61 : decode cX7_tighten 61 = .ok (.isub, 1) := by decide +kernel
theorem dX7_tighten_62 : decode cX7_tighten 62 = .ok (.iand, 1) := by decide +kernel
theorem dX7_tighten_63 : decode cX7_tighten 63 = .ok (.aload_n 0, 1) := by decide +kernel
theorem dX7_tighten_64 : decode cX7_tighten 64 = .ok (.getfield 35, 3) := by decide +kernel
theorem dX7_tighten_67 : decode cX7_tighten 67 = .ok (.iload 4, 2) := by decide +kernel
theorem dX7_tighten_69 : decode cX7_tighten 69 = .ok (.iaload, 1) := by decide +kernel
theorem dX7_tighten_70 : decode cX7_tighten 70 = .ok (.iconst (-1), 1) := by decide +kernel
theorem dX7_tighten_71 : decode cX7_tighten 71 = .ok (.ixor, 1) := by decide +kernel
theorem dX7_tighten_72 : decode cX7_tighten 72 = .ok (.iand, 1) := by decide +kernel
theorem dX7_tighten_73 : decode cX7_tighten 73 = .ok (.invokestatic 93, 3) := by decide +kernel
theorem dX7_tighten_76 : decode cX7_tighten 76 = .ok (.iadd, 1) := by decide +kernel
theorem dX7_tighten_77 : decode cX7_tighten 77 = .ok (.istore_n 3, 1) := by decide +kernel
theorem dX7_tighten_78 : decode cX7_tighten 78 = .ok (.aload_n 0, 1) := by decide +kernel
theorem dX7_tighten_79 : decode cX7_tighten 79 = .ok (.getfield 19, 3) := by decide +kernel
theorem dX7_tighten_82 : decode cX7_tighten 82 = .ok (.iload 4, 2) := by decide +kernel
theorem dX7_tighten_84 : decode cX7_tighten 84 = .ok (.aload_n 0, 1) := by decide +kernel
theorem dX7_tighten_85 : decode cX7_tighten 85 = .ok (.getfield 35, 3) := by decide +kernel
theorem dX7_tighten_88 : decode cX7_tighten 88 = .ok (.iload 4, 2) := by decide +kernel
theorem dX7_tighten_90 : decode cX7_tighten 90 = .ok (.iaload, 1) := by decide +kernel
theorem dX7_tighten_91 : decode cX7_tighten 91 = .ok (.iastore, 1) := by decide +kernel
theorem dX7_tighten_92 : decode cX7_tighten 92 = .ok (.iinc 4 1, 3) := by decide +kernel
theorem dX7_tighten_95 : decode cX7_tighten 95 = .ok (.goto (-62), 3) := by decide +kernel
theorem dX7_tighten_98 : decode cX7_tighten 98 = .ok (.iload_n 3, 1) := by decide +kernel
theorem dX7_tighten_99 : decode cX7_tighten 99 = .ok (.ireturn, 1) := by decide +kernel
noncomputable def f_X7_tighten_L33 (x0 : Nat) (x1 : Int32) (x2 : Int32) (v : (Int32 × Int32)) (σ : Hp) : Option (((Int32 × Int32) ⊕ (Int32)) × Hp) := gO (getR shM 7 x0 0 σ) fun v1 => gO (aldI shM 0 v1 x1 σ) fun v2 => if v2 ≤ v.2 then (some (Sum.inr v.1, σ)) else (gO (getR shM 7 x0 3 σ) fun v3 => gO (aldI shM 0 v3 v.2 σ) fun v4 => gO (getR shM 7 x0 0 σ) fun v5 => gO (aldI shM 0 v5 x2 σ) fun v6 => gO (getR shM 7 x0 16 σ) fun v7 => gO (aldI shM 0 v7 v.2 σ) fun v8 => bO (f_X7_bits ((v4 &&& (((1 : Int32) <<< (v6 &&& 31)) - 1)) &&& (v8 ^^^ (-1))) σ) fun r9 σ10 => gO (getR shM 7 x0 3 σ10) fun v11 => gO (getR shM 7 x0 16 σ10) fun v12 => gO (aldI shM 0 v12 v.2 σ10) fun v13 => gO (astI shM 0 v11 v.2 v13 σ10) fun σ14 => some (Sum.inl ((v.1 + r9), (v.2 + 1)), σ14))
set_option maxRecDepth 100000 in
set_option maxHeartbeats 4000000 in
theorem t_X7_tighten_L33 {l : Launch} {γ : Gm} {ad : Nat → Nat} {K : Option Value → Hp → Prop}  (hc : Cx l γ 5 5 ad shM RX7 cX7_tighten (some .int) K) {x0 : Nat} {x1 : Int32} {x2 : Int32} {v : (Int32 × Int32)} {σ : Hp} {KX : (Int32) → Hp → Prop} (h : wpO (wh (f_X7_tighten_L33 x0 x1 x2) v σ) KX) (kx98 : ∀ (v : Int32) (σ : Hp), KX v σ → WW l γ 5 5 ad shM 98 [(3, .int v)] [] σ) : WW l γ 5 5 ad shM 33 [(0, .ref (ad x0)), (1, .int x1), (2, .int x2), (3, .int v.1), (4, .int v.2)] [] σ := by
  refine wh_W (P := fun v σ => WW l γ 5 5 ad shM 33 [(0, .ref (ad x0)), (1, .int x1), (2, .int x2), (3, .int v.1), (4, .int v.2)] [] σ) (fun v σ h => ?_) h
  have kn : ∀ (v : (Int32 × Int32)) (σ : Hp), WW l γ 5 5 ad shM 33 [(0, .ref (ad x0)), (1, .int x1), (2, .int x2), (3, .int v.1), (4, .int v.2)] [] σ → WW l γ 5 5 ad shM 33 [(0, .ref (ad x0)), (1, .int x1), (2, .int x2), (3, .int v.1), (4, .int v.2)] [] σ := fun _ _ h => h
  · unfold f_X7_tighten_L33 at h
    refine r_iload hc 4 rfl dX7_tighten_33 ?_
    refine r_aload_n hc 0 rfl rfl dX7_tighten_35 ?_
    obtain ⟨v1, ev1, h⟩ := wp_g h
    refine r_getR hc ev1 fl_X7_7 rfl dX7_tighten_36 ?_
    refine r_iload_n hc 1 rfl rfl dX7_tighten_39 ?_
    obtain ⟨v2, ev2, h⟩ := wp_g h
    refine r_iald hc ev2 dX7_tighten_40 ?_
    refine r_icmp_ge hc (tgt := 98) dX7_tighten_41 (by decide) (fun c => ?_) (fun c => ?_)
    · have h := wp_t c h
      refine r_sub [3] (lv' := [(3, .int v.1)]) rfl ?_
      have h := wp_v h
      exact kx98 v.1 _ h
    · have h := wp_f c h
      refine r_iload_n hc 3 rfl rfl dX7_tighten_44 ?_
      refine r_aload_n hc 0 rfl rfl dX7_tighten_45 ?_
      obtain ⟨v3, ev3, h⟩ := wp_g h
      refine r_getR hc ev3 fl_X7_19 rfl dX7_tighten_46 ?_
      refine r_iload hc 4 rfl dX7_tighten_49 ?_
      obtain ⟨v4, ev4, h⟩ := wp_g h
      refine r_iald hc ev4 dX7_tighten_51 ?_
      refine r_iconst hc (v := 1) (by decide) dX7_tighten_52 ?_
      refine r_aload_n hc 0 rfl rfl dX7_tighten_53 ?_
      obtain ⟨v5, ev5, h⟩ := wp_g h
      refine r_getR hc ev5 fl_X7_7 rfl dX7_tighten_54 ?_
      refine r_iload_n hc 2 rfl rfl dX7_tighten_57 ?_
      obtain ⟨v6, ev6, h⟩ := wp_g h
      refine r_iald hc ev6 dX7_tighten_58 ?_
      refine r_ishl hc dX7_tighten_59 ?_
      refine r_iconst hc (v := 1) (by decide) dX7_tighten_60 ?_
      refine r_isub hc dX7_tighten_61 ?_
      refine r_iand hc dX7_tighten_62 ?_
      refine r_aload_n hc 0 rfl rfl dX7_tighten_63 ?_
      obtain ⟨v7, ev7, h⟩ := wp_g h
      refine r_getR hc ev7 fl_X7_35 rfl dX7_tighten_64 ?_
      refine r_iload hc 4 rfl dX7_tighten_67 ?_
      obtain ⟨v8, ev8, h⟩ := wp_g h
      refine r_iald hc ev8 dX7_tighten_69 ?_
      refine r_iconst hc (v := (-1)) (by decide) dX7_tighten_70 ?_
      refine r_ixor hc dX7_tighten_71 ?_
      refine r_iand hc dX7_tighten_72 ?_
      obtain ⟨r9, σ10, er9, h⟩ := wp_b h
      refine r_callS hc ms_X7_bits ml_X7_93 (c_X7_bits er9) rfl rfl (by decide) rfl (Nat.le_of_ble_eq_true rfl) dX7_tighten_73 ?_
      refine r_iadd hc dX7_tighten_76 ?_
      refine r_istore_nE hc (i := 3) (lv' := [(3, .int (v.1 + r9)), (0, .ref (ad x0)), (1, .int x1), (2, .int x2), (4, .int v.2)]) rfl rfl (by decide) rfl dX7_tighten_77 ?_
      refine r_aload_n hc 1 rfl rfl dX7_tighten_78 ?_
      obtain ⟨v11, ev11, h⟩ := wp_g h
      refine r_getR hc ev11 fl_X7_19 rfl dX7_tighten_79 ?_
      refine r_iload hc 4 rfl dX7_tighten_82 ?_
      refine r_aload_n hc 1 rfl rfl dX7_tighten_84 ?_
      obtain ⟨v12, ev12, h⟩ := wp_g h
      refine r_getR hc ev12 fl_X7_35 rfl dX7_tighten_85 ?_
      refine r_iload hc 4 rfl dX7_tighten_88 ?_
      obtain ⟨v13, ev13, h⟩ := wp_g h
      refine r_iald hc ev13 dX7_tighten_90 ?_
      obtain ⟨σ14, eσ14, h⟩ := wp_g h
      refine r_iast hc eσ14 dX7_tighten_91 ?_
      refine r_iincE hc (j := 4) (w := 1) (lv' := [(4, .int (v.2 + 1)), (3, .int (v.1 + r9)), (0, .ref (ad x0)), (1, .int x1), (2, .int x2)]) rfl (by decide) rfl (by decide) rfl dX7_tighten_92 ?_
      refine r_goto hc (tgt := 33) dX7_tighten_95 (by decide) ?_
      refine r_sub [2, 3, 4, 1, 0] (lv' := [(0, .ref (ad x0)), (1, .int x1), (2, .int x2), (3, .int (v.1 + r9)), (4, .int (v.2 + 1))]) rfl ?_
      have h := wp_v h
      exact kn ((v.1 + r9), (v.2 + 1)) _ h
noncomputable def f_X7_tighten (x0 : Nat) (x1 : Int32) (x2 : Int32) (σ : Hp) : Option (Int32 × Hp) := bO (f_X7_areDrawers x1 x2 σ) fun r1 σ2 => if r1 = 0 then (some ((-1), σ2)) else (gO (chk shM x0 7) fun _ => bO (f_X7_isOneEmpty x0 x1 x2 σ2) fun r3 σ4 => if r3 = 0 then (gO (chk shM x0 7) fun _ => bO (f_X7_laysLeft x0 x1 x2 σ4) fun _ σ7 => bO (wh (f_X7_tighten_L33 x0 x1 x2) (0, 0) σ7) fun y9 σ10 => (some (y9, σ10))) else (some ((-2), σ4)))
set_option maxRecDepth 100000 in
set_option maxHeartbeats 4000000 in
theorem t_X7_tighten {l : Launch} {γ : Gm} {ad : Nat → Nat} {K : Option Value → Hp → Prop} (hc : Cx l γ 5 5 ad shM RX7 cX7_tighten (some .int) K) {x0 : Nat} {x1 : Int32} {x2 : Int32} {σ : Hp} (h : wpO (f_X7_tighten x0 x1 x2 σ) (KI K)) : WW l γ 5 5 ad shM 0 [(0, .ref (ad x0)), (1, .int x1), (2, .int x2)] [] σ := by
  unfold f_X7_tighten at h
  refine r_iload_n hc 1 rfl rfl dX7_tighten_0 ?_
  refine r_iload_n hc 2 rfl rfl dX7_tighten_1 ?_
  obtain ⟨r1, σ2, er1, h⟩ := wp_b h
  refine r_callS hc ms_X7_areDrawers ml_X7_243 (c_X7_areDrawers er1) rfl rfl (by decide) rfl (Nat.le_of_ble_eq_true rfl) dX7_tighten_2 ?_
  refine r_if_ne hc (tgt := 10) dX7_tighten_5 (by decide) (fun c => ?_) (fun c => ?_)
  · have h := wp_f c h
    refine r_aload_n hc 0 rfl rfl dX7_tighten_10 ?_
    refine r_iload_n hc 1 rfl rfl dX7_tighten_11 ?_
    refine r_iload_n hc 2 rfl rfl dX7_tighten_12 ?_
    obtain ⟨_, ek5, h⟩ := wp_g h
    obtain ⟨r3, σ4, er3, h⟩ := wp_b h
    refine r_callV hc (k0 := x0) mv_X7_isOneEmpty ml_X7_246 (c_X7_isOneEmpty er3) (chk_of ek5) cls_7.1 rfl rfl rfl (by decide) rfl (Nat.le_of_ble_eq_true rfl) dX7_tighten_13 ?_
    refine r_if_eq hc (tgt := 22) dX7_tighten_16 (by decide) (fun c => ?_) (fun c => ?_)
    · have h := wp_t c h
      refine r_aload_n hc 0 rfl rfl dX7_tighten_22 ?_
      refine r_iload_n hc 1 rfl rfl dX7_tighten_23 ?_
      refine r_iload_n hc 2 rfl rfl dX7_tighten_24 ?_
      obtain ⟨_, ek8, h⟩ := wp_g h
      obtain ⟨_, σ7, er6, h⟩ := wp_b h
      refine r_callV hc (k0 := x0) mv_X7_laysLeft ml_X7_260 (c_X7_laysLeft er6) (chk_of ek8) cls_7.1 rfl rfl rfl (by decide) rfl (Nat.le_of_ble_eq_true rfl) dX7_tighten_25 ?_
      refine r_iconst hc (v := 0) (by decide) dX7_tighten_28 ?_
      refine r_istore_nE hc (i := 3) (lv' := [(3, .int 0), (0, .ref (ad x0)), (1, .int x1), (2, .int x2)]) rfl rfl (by decide) rfl dX7_tighten_29 ?_
      refine r_iconst hc (v := 0) (by decide) dX7_tighten_30 ?_
      refine r_istoreE hc (i := 4) (lv' := [(4, .int 0), (3, .int 0), (0, .ref (ad x0)), (1, .int x1), (2, .int x2)]) rfl (by decide) rfl dX7_tighten_31 ?_
      refine r_sub [2, 3, 4, 1, 0] (lv' := [(0, .ref (ad x0)), (1, .int x1), (2, .int x2), (3, .int 0), (4, .int 0)]) rfl ?_
      refine t_X7_tighten_L33 hc (wp_bb h) ?_
      · intro y9 σ10 h
        refine r_iload_n hc 0 rfl rfl dX7_tighten_98 ?_
        have h := wp_v h
        exact r_iret hc h dX7_tighten_99
    · have h := wp_f c h
      refine r_bipush hc (v := (-2)) (by decide) dX7_tighten_19 ?_
      have h := wp_v h
      exact r_iret hc h dX7_tighten_21
  · have h := wp_t c h
    refine r_iconst hc (v := (-1)) (by decide) dX7_tighten_8 ?_
    have h := wp_v h
    exact r_iret hc h dX7_tighten_9
theorem c_X7_tighten {l : Launch} {x0 : Nat} {x1 : Int32} {x2 : Int32} {σ σ' : Hp} {r : Int32} (h : f_X7_tighten x0 x1 x2 σ = some (r, σ')) : Mt l yX7_tighten cX7_tighten 5 (some .int) 5 shM (fun ad => [.ref (ad x0), .int x1, .int x2]) σ (fun ad => some (.int r)) σ' := mt_i (own := RX7) (by decide) rfl (fun _ => Nat.le_of_ble_eq_true rfl) (fun γ ad K hc hk => t_X7_tighten hc ⟨_, _, h, hk⟩)

-- NetMapsModel.fits(II)I
theorem dX7_fits_0 : decode cX7_fits 0 = .ok (.iload_n 1, 1) := by decide +kernel
theorem dX7_fits_1 : decode cX7_fits 1 = .ok (.iload_n 2, 1) := by decide +kernel
theorem dX7_fits_2 : decode cX7_fits 2 = .ok (.invokestatic 243, 3) := by decide +kernel
theorem dX7_fits_5 : decode cX7_fits 5 = .ok (.ifCond .ne 5, 3) := by decide +kernel
theorem dX7_fits_8 : decode cX7_fits 8 = .ok (.iconst (-1), 1) := by decide +kernel
theorem dX7_fits_9 : decode cX7_fits 9 = .ok (.ireturn, 1) := by decide +kernel
theorem dX7_fits_10 : decode cX7_fits 10 = .ok (.aload_n 0, 1) := by decide +kernel
theorem dX7_fits_11 : decode cX7_fits 11 = .ok (.iload_n 1, 1) := by decide +kernel
theorem dX7_fits_12 : decode cX7_fits 12 = .ok (.iload_n 2, 1) := by decide +kernel
theorem dX7_fits_13 : decode cX7_fits 13 = .ok (.invokevirtual 246, 3) := by decide +kernel
theorem dX7_fits_16 : decode cX7_fits 16 = .ok (.ifCond .eq 6, 3) := by decide +kernel
theorem dX7_fits_19 : decode cX7_fits 19 = .ok (.bipush (-2), 2) := by decide +kernel
theorem dX7_fits_21 : decode cX7_fits 21 = .ok (.ireturn, 1) := by decide +kernel
theorem dX7_fits_22 : decode cX7_fits 22 = .ok (.aload_n 0, 1) := by decide +kernel
theorem dX7_fits_23 : decode cX7_fits 23 = .ok (.iload_n 1, 1) := by decide +kernel
theorem dX7_fits_24 : decode cX7_fits 24 = .ok (.iload_n 2, 1) := by decide +kernel
theorem dX7_fits_25 : decode cX7_fits 25 = .ok (.invokevirtual 263, 3) := by decide +kernel
theorem dX7_fits_28 : decode cX7_fits 28 = .ok (.ifCond .eq 7, 3) := by decide +kernel
theorem dX7_fits_31 : decode cX7_fits 31 = .ok (.iconst 1, 1) := by decide +kernel
theorem dX7_fits_32 : decode cX7_fits 32 = .ok (.goto 4, 3) := by decide +kernel
theorem dX7_fits_35 : decode cX7_fits 35 = .ok (.iconst 0, 1) := by decide +kernel
theorem dX7_fits_36 : decode cX7_fits 36 = .ok (.aload_n 0, 1) := by decide +kernel
theorem dX7_fits_37 : decode cX7_fits 37 = .ok (.iload_n 2, 1) := by decide +kernel
theorem dX7_fits_38 : decode cX7_fits 38 = .ok (.iload_n 1, 1) := by decide +kernel
theorem dX7_fits_39 : decode cX7_fits 39 = .ok (.invokevirtual 263, 3) := by decide +kernel
theorem dX7_fits_42 : decode cX7_fits 42 = .ok (.ifCond .eq 7, 3) := by decide +kernel
theorem dX7_fits_45 : decode cX7_fits 45 = .ok (.iconst 2, 1) := by decide +kernel
theorem dX7_fits_46 : decode cX7_fits 46 = .ok (.goto 4, 3) := by decide +kernel
theorem dX7_fits_49 : decode cX7_fits 49 = .ok (.iconst 0, 1) := by decide +kernel
theorem dX7_fits_50 : decode cX7_fits 50 = .ok (.iadd, 1) := by decide +kernel
theorem dX7_fits_51 : decode cX7_fits 51 = .ok (.ireturn, 1) := by decide +kernel
noncomputable def f_X7_fits_b50 (s0 : Int32) (s1 : Int32) (σ : Hp) : Option (Int32 × Hp) := some ((s0 + s1), σ)
set_option maxRecDepth 100000 in
set_option maxHeartbeats 4000000 in
theorem t_X7_fits_b50 {l : Launch} {γ : Gm} {ad : Nat → Nat} {K : Option Value → Hp → Prop} (hc : Cx l γ 6 3 ad shM RX7 cX7_fits (some .int) K) {s0 : Int32} {s1 : Int32} {σ : Hp} (h : wpO (f_X7_fits_b50 s0 s1 σ) (KI K)) : WW l γ 6 3 ad shM 50 [] [.int s1, .int s0] σ := by
  unfold f_X7_fits_b50 at h
  refine r_iadd hc dX7_fits_50 ?_
  have h := wp_v h
  exact r_iret hc h dX7_fits_51
noncomputable def f_X7_fits_b36 (x0 : Nat) (x1 : Int32) (x2 : Int32) (s0 : Int32) (σ : Hp) : Option (Int32 × Hp) := gO (chk shM x0 7) fun _ => bO (f_X7_doesFit x0 x2 x1 σ) fun r1 σ2 => if r1 = 0 then (f_X7_fits_b50 s0 0 σ2) else (f_X7_fits_b50 s0 2 σ2)
set_option maxRecDepth 100000 in
set_option maxHeartbeats 4000000 in
theorem t_X7_fits_b36 {l : Launch} {γ : Gm} {ad : Nat → Nat} {K : Option Value → Hp → Prop} (hc : Cx l γ 6 3 ad shM RX7 cX7_fits (some .int) K) {x0 : Nat} {x1 : Int32} {x2 : Int32} {s0 : Int32} {σ : Hp} (h : wpO (f_X7_fits_b36 x0 x1 x2 s0 σ) (KI K)) : WW l γ 6 3 ad shM 36 [(0, .ref (ad x0)), (1, .int x1), (2, .int x2)] [.int s0] σ := by
  unfold f_X7_fits_b36 at h
  refine r_aload_n hc 0 rfl rfl dX7_fits_36 ?_
  refine r_iload_n hc 2 rfl rfl dX7_fits_37 ?_
  refine r_iload_n hc 1 rfl rfl dX7_fits_38 ?_
  obtain ⟨_, ek3, h⟩ := wp_g h
  obtain ⟨r1, σ2, er1, h⟩ := wp_b h
  refine r_callV hc (k0 := x0) mv_X7_doesFit ml_X7_263 (c_X7_doesFit er1) (chk_of ek3) cls_7.1 rfl rfl rfl (by decide) rfl (Nat.le_of_ble_eq_true rfl) dX7_fits_39 ?_
  refine r_if_eq hc (tgt := 49) dX7_fits_42 (by decide) (fun c => ?_) (fun c => ?_)
  · have h := wp_t c h
    refine r_iconst hc (v := 0) (by decide) dX7_fits_49 ?_
    refine r_sub [] (lv' := []) rfl ?_
    exact t_X7_fits_b50 hc h
  · have h := wp_f c h
    refine r_iconst hc (v := 2) (by decide) dX7_fits_45 ?_
    refine r_goto hc (tgt := 50) dX7_fits_46 (by decide) ?_
    refine r_sub [] (lv' := []) rfl ?_
    exact t_X7_fits_b50 hc h
noncomputable def f_X7_fits (x0 : Nat) (x1 : Int32) (x2 : Int32) (σ : Hp) : Option (Int32 × Hp) := bO (f_X7_areDrawers x1 x2 σ) fun r1 σ2 => if r1 = 0 then (some ((-1), σ2)) else (gO (chk shM x0 7) fun _ => bO (f_X7_isOneEmpty x0 x1 x2 σ2) fun r3 σ4 => if r3 = 0 then (gO (chk shM x0 7) fun _ => bO (f_X7_doesFit x0 x1 x2 σ4) fun r6 σ7 => if r6 = 0 then (f_X7_fits_b36 x0 x1 x2 0 σ7) else (f_X7_fits_b36 x0 x1 x2 1 σ7)) else (some ((-2), σ4)))
set_option maxRecDepth 100000 in
set_option maxHeartbeats 4000000 in
theorem t_X7_fits {l : Launch} {γ : Gm} {ad : Nat → Nat} {K : Option Value → Hp → Prop} (hc : Cx l γ 6 3 ad shM RX7 cX7_fits (some .int) K) {x0 : Nat} {x1 : Int32} {x2 : Int32} {σ : Hp} (h : wpO (f_X7_fits x0 x1 x2 σ) (KI K)) : WW l γ 6 3 ad shM 0 [(0, .ref (ad x0)), (1, .int x1), (2, .int x2)] [] σ := by
  unfold f_X7_fits at h
  refine r_iload_n hc 1 rfl rfl dX7_fits_0 ?_
  refine r_iload_n hc 2 rfl rfl dX7_fits_1 ?_
  obtain ⟨r1, σ2, er1, h⟩ := wp_b h
  refine r_callS hc ms_X7_areDrawers ml_X7_243 (c_X7_areDrawers er1) rfl rfl (by decide) rfl (Nat.le_of_ble_eq_true rfl) dX7_fits_2 ?_
  refine r_if_ne hc (tgt := 10) dX7_fits_5 (by decide) (fun c => ?_) (fun c => ?_)
  · have h := wp_f c h
    refine r_aload_n hc 0 rfl rfl dX7_fits_10 ?_
    refine r_iload_n hc 1 rfl rfl dX7_fits_11 ?_
    refine r_iload_n hc 2 rfl rfl dX7_fits_12 ?_
    obtain ⟨_, ek5, h⟩ := wp_g h
    obtain ⟨r3, σ4, er3, h⟩ := wp_b h
    refine r_callV hc (k0 := x0) mv_X7_isOneEmpty ml_X7_246 (c_X7_isOneEmpty er3) (chk_of ek5) cls_7.1 rfl rfl rfl (by decide) rfl (Nat.le_of_ble_eq_true rfl) dX7_fits_13 ?_
    refine r_if_eq hc (tgt := 22) dX7_fits_16 (by decide) (fun c => ?_) (fun c => ?_)
    · have h := wp_t c h
      refine r_aload_n hc 0 rfl rfl dX7_fits_22 ?_
      refine r_iload_n hc 1 rfl rfl dX7_fits_23 ?_
      refine r_iload_n hc 2 rfl rfl dX7_fits_24 ?_
      obtain ⟨_, ek8, h⟩ := wp_g h
      obtain ⟨r6, σ7, er6, h⟩ := wp_b h
      refine r_callV hc (k0 := x0) mv_X7_doesFit ml_X7_263 (c_X7_doesFit er6) (chk_of ek8) cls_7.1 rfl rfl rfl (by decide) rfl (Nat.le_of_ble_eq_true rfl) dX7_fits_25 ?_
      refine r_if_eq hc (tgt := 35) dX7_fits_28 (by decide) (fun c => ?_) (fun c => ?_)
      · have h := wp_t c h
        refine r_iconst hc (v := 0) (by decide) dX7_fits_35 ?_
        exact t_X7_fits_b36 hc h
      · have h := wp_f c h
        refine r_iconst hc (v := 1) (by decide) dX7_fits_31 ?_
        refine r_goto hc (tgt := 36) dX7_fits_32 (by decide) ?_
        exact t_X7_fits_b36 hc h
    · have h := wp_f c h
      refine r_bipush hc (v := (-2)) (by decide) dX7_fits_19 ?_
      have h := wp_v h
      exact r_iret hc h dX7_fits_21
  · have h := wp_t c h
    refine r_iconst hc (v := (-1)) (by decide) dX7_fits_8 ?_
    have h := wp_v h
    exact r_iret hc h dX7_fits_9
theorem c_X7_fits {l : Launch} {x0 : Nat} {x1 : Int32} {x2 : Int32} {σ σ' : Hp} {r : Int32} (h : f_X7_fits x0 x1 x2 σ = some (r, σ')) : Mt l yX7_fits cX7_fits 3 (some .int) 6 shM (fun ad => [.ref (ad x0), .int x1, .int x2]) σ (fun ad => some (.int r)) σ' := mt_i (own := RX7) (by decide) rfl (fun _ => Nat.le_of_ble_eq_true rfl) (fun γ ad K hc hk => t_X7_fits hc ⟨_, _, h, hk⟩)

-- NetMapsModel.search(II)I
theorem dX7_search_0 : decode cX7_search 0 = .ok (.iload_n 1, 1) := by decide +kernel
theorem dX7_search_1 : decode cX7_search 1 = .ok (.iload_n 2, 1) := by decide +kernel
theorem dX7_search_2 : decode cX7_search 2 = .ok (.invokestatic 243, 3) := by decide +kernel
theorem dX7_search_5 : decode cX7_search 5 = .ok (.ifCond .ne 5, 3) := by decide +kernel
theorem dX7_search_8 : decode cX7_search 8 = .ok (.iconst (-1), 1) := by decide +kernel
theorem dX7_search_9 : decode cX7_search 9 = .ok (.ireturn, 1) := by decide +kernel
theorem dX7_search_10 : decode cX7_search 10 = .ok (.aload_n 0, 1) := by decide +kernel
theorem dX7_search_11 : decode cX7_search 11 = .ok (.iload_n 1, 1) := by decide +kernel
theorem dX7_search_12 : decode cX7_search 12 = .ok (.iload_n 2, 1) := by decide +kernel
theorem dX7_search_13 : decode cX7_search 13 = .ok (.invokevirtual 246, 3) := by decide +kernel
theorem dX7_search_16 : decode cX7_search 16 = .ok (.ifCond .eq 6, 3) := by decide +kernel
theorem dX7_search_19 : decode cX7_search 19 = .ok (.bipush (-2), 2) := by decide +kernel
theorem dX7_search_21 : decode cX7_search 21 = .ok (.ireturn, 1) := by decide +kernel
theorem dX7_search_22 : decode cX7_search 22 = .ok (.aload_n 0, 1) := by decide +kernel
theorem dX7_search_23 : decode cX7_search 23 = .ok (.iload_n 1, 1) := by decide +kernel
theorem dX7_search_24 : decode cX7_search 24 = .ok (.iload_n 2, 1) := by decide +kernel
theorem dX7_search_25 : decode cX7_search 25 = .ok (.iconst 1, 1) := by decide +kernel
theorem dX7_search_26 : decode cX7_search 26 = .ok (.invokevirtual 237, 3) := by decide +kernel
theorem dX7_search_29 : decode cX7_search 29 = .ok (.aload_n 0, 1) := by decide +kernel
theorem dX7_search_30 : decode cX7_search 30 = .ok (.invokevirtual 240, 3) := by decide +kernel
theorem dX7_search_33 : decode cX7_search 33 = .ok (.istore_n 3, 1) := by decide +kernel
theorem dX7_search_34 : decode cX7_search 34 = .ok (.iload_n 3, 1) := by decide +kernel
theorem dX7_search_35 : decode cX7_search 35 = .ok (.ifCond .ne 10, 3) := by decide +kernel
theorem dX7_search_38 : decode cX7_search 38 = .ok (.aload_n 0, 1) := by decide +kernel
theorem dX7_search_39 : decode cX7_search 39 = .ok (.getfield 221, 3) := by decide +kernel
theorem dX7_search_42 : decode cX7_search 42 = .ok (.ifCond .lt 10, 3) := by decide +kernel
theorem dX7_search_45 : decode cX7_search 45 = .ok (.aload_n 0, 1) := by decide +kernel
theorem dX7_search_46 : decode cX7_search 46 = .ok (.getfield 221, 3) := by decide +kernel
theorem dX7_search_49 : decode cX7_search 49 = .ok (.goto 4, 3) := by decide +kernel
theorem dX7_search_52 : decode cX7_search 52 = .ok (.iconst (-1), 1) := by decide +kernel
theorem dX7_search_53 : decode cX7_search 53 = .ok (.ireturn, 1) := by decide +kernel
noncomputable def f_X7_search_b53 (s0 : Int32) (σ : Hp) : Option (Int32 × Hp) := some (s0, σ)
set_option maxRecDepth 100000 in
set_option maxHeartbeats 4000000 in
theorem t_X7_search_b53 {l : Launch} {γ : Gm} {ad : Nat → Nat} {K : Option Value → Hp → Prop} (hc : Cx l γ 5 4 ad shM RX7 cX7_search (some .int) K) {s0 : Int32} {σ : Hp} (h : wpO (f_X7_search_b53 s0 σ) (KI K)) : WW l γ 5 4 ad shM 53 [] [.int s0] σ := by
  unfold f_X7_search_b53 at h
  have h := wp_v h
  exact r_iret hc h dX7_search_53
noncomputable def f_X7_search_b45 (x0 : Nat) (σ : Hp) : Option (Int32 × Hp) := gO (getI shM 7 x0 14 σ) fun v1 => f_X7_search_b53 v1 σ
set_option maxRecDepth 100000 in
set_option maxHeartbeats 4000000 in
theorem t_X7_search_b45 {l : Launch} {γ : Gm} {ad : Nat → Nat} {K : Option Value → Hp → Prop} (hc : Cx l γ 5 4 ad shM RX7 cX7_search (some .int) K) {x0 : Nat} {σ : Hp} (h : wpO (f_X7_search_b45 x0 σ) (KI K)) : WW l γ 5 4 ad shM 45 [(0, .ref (ad x0))] [] σ := by
  unfold f_X7_search_b45 at h
  refine r_aload_n hc 0 rfl rfl dX7_search_45 ?_
  obtain ⟨v1, ev1, h⟩ := wp_g h
  refine r_getI hc ev1 fl_X7_221 rfl dX7_search_46 ?_
  refine r_goto hc (tgt := 53) dX7_search_49 (by decide) ?_
  refine r_sub [] (lv' := []) rfl ?_
  exact t_X7_search_b53 hc h
noncomputable def f_X7_search (x0 : Nat) (x1 : Int32) (x2 : Int32) (σ : Hp) : Option (Int32 × Hp) := bO (f_X7_areDrawers x1 x2 σ) fun r1 σ2 => if r1 = 0 then (some ((-1), σ2)) else (gO (chk shM x0 7) fun _ => bO (f_X7_isOneEmpty x0 x1 x2 σ2) fun r3 σ4 => if r3 = 0 then (gO (chk shM x0 7) fun _ => bO (f_X7_starts x0 x1 x2 1 σ4) fun _ σ7 => gO (chk shM x0 7) fun _ => bO (f_X7_next x0 σ7) fun r9 σ10 => if r9 = 0 then (gO (getI shM 7 x0 14 σ10) fun v12 => if v12 < 0 then (f_X7_search_b53 (-1) σ10) else (f_X7_search_b45 x0 σ10)) else (f_X7_search_b45 x0 σ10)) else (some ((-2), σ4)))
set_option maxRecDepth 100000 in
set_option maxHeartbeats 4000000 in
theorem t_X7_search {l : Launch} {γ : Gm} {ad : Nat → Nat} {K : Option Value → Hp → Prop} (hc : Cx l γ 5 4 ad shM RX7 cX7_search (some .int) K) {x0 : Nat} {x1 : Int32} {x2 : Int32} {σ : Hp} (h : wpO (f_X7_search x0 x1 x2 σ) (KI K)) : WW l γ 5 4 ad shM 0 [(0, .ref (ad x0)), (1, .int x1), (2, .int x2)] [] σ := by
  unfold f_X7_search at h
  refine r_iload_n hc 1 rfl rfl dX7_search_0 ?_
  refine r_iload_n hc 2 rfl rfl dX7_search_1 ?_
  obtain ⟨r1, σ2, er1, h⟩ := wp_b h
  refine r_callS hc ms_X7_areDrawers ml_X7_243 (c_X7_areDrawers er1) rfl rfl (by decide) rfl (Nat.le_of_ble_eq_true rfl) dX7_search_2 ?_
  refine r_if_ne hc (tgt := 10) dX7_search_5 (by decide) (fun c => ?_) (fun c => ?_)
  · have h := wp_f c h
    refine r_aload_n hc 0 rfl rfl dX7_search_10 ?_
    refine r_iload_n hc 1 rfl rfl dX7_search_11 ?_
    refine r_iload_n hc 2 rfl rfl dX7_search_12 ?_
    obtain ⟨_, ek5, h⟩ := wp_g h
    obtain ⟨r3, σ4, er3, h⟩ := wp_b h
    refine r_callV hc (k0 := x0) mv_X7_isOneEmpty ml_X7_246 (c_X7_isOneEmpty er3) (chk_of ek5) cls_7.1 rfl rfl rfl (by decide) rfl (Nat.le_of_ble_eq_true rfl) dX7_search_13 ?_
    refine r_if_eq hc (tgt := 22) dX7_search_16 (by decide) (fun c => ?_) (fun c => ?_)
    · have h := wp_t c h
      refine r_aload_n hc 0 rfl rfl dX7_search_22 ?_
      refine r_iload_n hc 1 rfl rfl dX7_search_23 ?_
      refine r_iload_n hc 2 rfl rfl dX7_search_24 ?_
      refine r_iconst hc (v := 1) (by decide) dX7_search_25 ?_
      obtain ⟨_, ek8, h⟩ := wp_g h
      obtain ⟨_, σ7, er6, h⟩ := wp_b h
      refine r_callV hc (k0 := x0) mv_X7_starts ml_X7_237 (c_X7_starts er6) (chk_of ek8) cls_7.1 rfl rfl rfl (by decide) rfl (Nat.le_of_ble_eq_true rfl) dX7_search_26 ?_
      refine r_aload_n hc 0 rfl rfl dX7_search_29 ?_
      obtain ⟨_, ek11, h⟩ := wp_g h
      obtain ⟨r9, σ10, er9, h⟩ := wp_b h
      refine r_callV hc (k0 := x0) mv_X7_next ml_X7_240 (c_X7_next er9) (chk_of ek11) cls_7.1 rfl rfl rfl (by decide) rfl (Nat.le_of_ble_eq_true rfl) dX7_search_30 ?_
      refine r_istore_nE hc (i := 3) (lv' := [(3, .int r9), (0, .ref (ad x0)), (1, .int x1), (2, .int x2)]) rfl rfl (by decide) rfl dX7_search_33 ?_
      refine r_iload_n hc 0 rfl rfl dX7_search_34 ?_
      refine r_if_ne hc (tgt := 45) dX7_search_35 (by decide) (fun c => ?_) (fun c => ?_)
      · have h := wp_f c h
        refine r_sub [1] (lv' := [(0, .ref (ad x0))]) rfl ?_
        exact t_X7_search_b45 hc h
      · have h := wp_t c h
        refine r_aload_n hc 1 rfl rfl dX7_search_38 ?_
        obtain ⟨v12, ev12, h⟩ := wp_g h
        refine r_getI hc ev12 fl_X7_221 rfl dX7_search_39 ?_
        refine r_if_lt hc (tgt := 52) dX7_search_42 (by decide) (fun c => ?_) (fun c => ?_)
        · have h := wp_t c h
          refine r_iconst hc (v := (-1)) (by decide) dX7_search_52 ?_
          refine r_sub [] (lv' := []) rfl ?_
          exact t_X7_search_b53 hc h
        · have h := wp_f c h
          refine r_sub [1] (lv' := [(0, .ref (ad x0))]) rfl ?_
          exact t_X7_search_b45 hc h
    · have h := wp_f c h
      refine r_bipush hc (v := (-2)) (by decide) dX7_search_19 ?_
      have h := wp_v h
      exact r_iret hc h dX7_search_21
  · have h := wp_t c h
    refine r_iconst hc (v := (-1)) (by decide) dX7_search_8 ?_
    have h := wp_v h
    exact r_iret hc h dX7_search_9
theorem c_X7_search {l : Launch} {x0 : Nat} {x1 : Int32} {x2 : Int32} {σ σ' : Hp} {r : Int32} (h : f_X7_search x0 x1 x2 σ = some (r, σ')) : Mt l yX7_search cX7_search 4 (some .int) 5 shM (fun ad => [.ref (ad x0), .int x1, .int x2]) σ (fun ad => some (.int r)) σ' := mt_i (own := RX7) (by decide) rfl (fun _ => Nat.le_of_ble_eq_true rfl) (fun γ ad K hc hk => t_X7_search hc ⟨_, _, h, hk⟩)

-- NetMapsModel.weightNow()I
theorem dX7_weightNow_0 : decode cX7_weightNow 0 = .ok (.iconst 0, 1) := by decide +kernel
theorem dX7_weightNow_1 : decode cX7_weightNow 1 = .ok (.istore_n 1, 1) := by decide +kernel
theorem dX7_weightNow_2 : decode cX7_weightNow 2 = .ok (.iconst 0, 1) := by decide +kernel
theorem dX7_weightNow_3 : decode cX7_weightNow 3 = .ok (.istore_n 2, 1) := by decide +kernel
theorem dX7_weightNow_4 : decode cX7_weightNow 4 = .ok (.iload_n 2, 1) := by decide +kernel
theorem dX7_weightNow_5 : decode cX7_weightNow 5 = .ok (.aload_n 0, 1) := by decide +kernel
theorem dX7_weightNow_6 : decode cX7_weightNow 6 = .ok (.getfield 7, 3) := by decide +kernel
theorem dX7_weightNow_9 : decode cX7_weightNow 9 = .ok (.aload_n 0, 1) := by decide +kernel
theorem dX7_weightNow_10 : decode cX7_weightNow 10 = .ok (.getfield 215, 3) := by decide +kernel
theorem dX7_weightNow_13 : decode cX7_weightNow 13 = .ok (.iaload, 1) := by decide +kernel
theorem dX7_weightNow_14 : decode cX7_weightNow 14 = .ok (.if_icmp .ge 23, 3) := by decide +kernel
theorem dX7_weightNow_17 : decode cX7_weightNow 17 = .ok (.iload_n 1, 1) := by decide +kernel
theorem dX7_weightNow_18 : decode cX7_weightNow 18 = .ok (.aload_n 0, 1) := by decide +kernel
theorem dX7_weightNow_19 : decode cX7_weightNow 19 = .ok (.getfield 22, 3) := by decide +kernel
theorem dX7_weightNow_22 : decode cX7_weightNow 22 = .ok (.aload_n 0, 1) := by decide +kernel
theorem dX7_weightNow_23 : decode cX7_weightNow 23 = .ok (.getfield 29, 3) := by decide +kernel
theorem dX7_weightNow_26 : decode cX7_weightNow 26 = .ok (.iload_n 2, 1) := by decide +kernel
theorem dX7_weightNow_27 : decode cX7_weightNow 27 = .ok (.iaload, 1) := by decide +kernel
theorem dX7_weightNow_28 : decode cX7_weightNow 28 = .ok (.iaload, 1) := by decide +kernel
theorem dX7_weightNow_29 : decode cX7_weightNow 29 = .ok (.iadd, 1) := by decide +kernel
theorem dX7_weightNow_30 : decode cX7_weightNow 30 = .ok (.istore_n 1, 1) := by decide +kernel
theorem dX7_weightNow_31 : decode cX7_weightNow 31 = .ok (.iinc 2 1, 3) := by decide +kernel
theorem dX7_weightNow_34 : decode cX7_weightNow 34 = .ok (.goto (-30), 3) := by decide +kernel
theorem dX7_weightNow_37 : decode cX7_weightNow 37 = .ok (.iload_n 1, 1) := by decide +kernel
theorem dX7_weightNow_38 : decode cX7_weightNow 38 = .ok (.ireturn, 1) := by decide +kernel
noncomputable def f_X7_weightNow_L4 (x0 : Nat) (v : (Int32 × Int32)) (σ : Hp) : Option (((Int32 × Int32) ⊕ (Int32)) × Hp) := gO (getR shM 7 x0 0 σ) fun v1 => gO (getI shM 7 x0 11 σ) fun v2 => gO (aldI shM 0 v1 v2 σ) fun v3 => if v3 ≤ v.2 then (some (Sum.inr v.1, σ)) else (gO (getR shM 7 x0 4 σ) fun v4 => gO (getR shM 7 x0 9 σ) fun v5 => gO (aldI shM 0 v5 v.2 σ) fun v6 => gO (aldI shM 0 v4 v6 σ) fun v7 => some (Sum.inl ((v.1 + v7), (v.2 + 1)), σ))
set_option maxRecDepth 100000 in
set_option maxHeartbeats 4000000 in
theorem t_X7_weightNow_L4 {l : Launch} {γ : Gm} {ad : Nat → Nat} {K : Option Value → Hp → Prop}  (hc : Cx l γ 1 3 ad shM RX7 cX7_weightNow (some .int) K) {x0 : Nat} {v : (Int32 × Int32)} {σ : Hp} {KX : (Int32) → Hp → Prop} (h : wpO (wh (f_X7_weightNow_L4 x0) v σ) KX) (kx37 : ∀ (v : Int32) (σ : Hp), KX v σ → WW l γ 1 3 ad shM 37 [(1, .int v)] [] σ) : WW l γ 1 3 ad shM 4 [(0, .ref (ad x0)), (1, .int v.1), (2, .int v.2)] [] σ := by
  refine wh_W (P := fun v σ => WW l γ 1 3 ad shM 4 [(0, .ref (ad x0)), (1, .int v.1), (2, .int v.2)] [] σ) (fun v σ h => ?_) h
  have kn : ∀ (v : (Int32 × Int32)) (σ : Hp), WW l γ 1 3 ad shM 4 [(0, .ref (ad x0)), (1, .int v.1), (2, .int v.2)] [] σ → WW l γ 1 3 ad shM 4 [(0, .ref (ad x0)), (1, .int v.1), (2, .int v.2)] [] σ := fun _ _ h => h
  · unfold f_X7_weightNow_L4 at h
    refine r_iload_n hc 2 rfl rfl dX7_weightNow_4 ?_
    refine r_aload_n hc 0 rfl rfl dX7_weightNow_5 ?_
    obtain ⟨v1, ev1, h⟩ := wp_g h
    refine r_getR hc ev1 fl_X7_7 rfl dX7_weightNow_6 ?_
    refine r_aload_n hc 0 rfl rfl dX7_weightNow_9 ?_
    obtain ⟨v2, ev2, h⟩ := wp_g h
    refine r_getI hc ev2 fl_X7_215 rfl dX7_weightNow_10 ?_
    obtain ⟨v3, ev3, h⟩ := wp_g h
    refine r_iald hc ev3 dX7_weightNow_13 ?_
    refine r_icmp_ge hc (tgt := 37) dX7_weightNow_14 (by decide) (fun c => ?_) (fun c => ?_)
    · have h := wp_t c h
      refine r_sub [1] (lv' := [(1, .int v.1)]) rfl ?_
      have h := wp_v h
      exact kx37 v.1 _ h
    · have h := wp_f c h
      refine r_iload_n hc 1 rfl rfl dX7_weightNow_17 ?_
      refine r_aload_n hc 0 rfl rfl dX7_weightNow_18 ?_
      obtain ⟨v4, ev4, h⟩ := wp_g h
      refine r_getR hc ev4 fl_X7_22 rfl dX7_weightNow_19 ?_
      refine r_aload_n hc 0 rfl rfl dX7_weightNow_22 ?_
      obtain ⟨v5, ev5, h⟩ := wp_g h
      refine r_getR hc ev5 fl_X7_29 rfl dX7_weightNow_23 ?_
      refine r_iload_n hc 2 rfl rfl dX7_weightNow_26 ?_
      obtain ⟨v6, ev6, h⟩ := wp_g h
      refine r_iald hc ev6 dX7_weightNow_27 ?_
      obtain ⟨v7, ev7, h⟩ := wp_g h
      refine r_iald hc ev7 dX7_weightNow_28 ?_
      refine r_iadd hc dX7_weightNow_29 ?_
      refine r_istore_nE hc (i := 1) (lv' := [(1, .int (v.1 + v7)), (0, .ref (ad x0)), (2, .int v.2)]) rfl rfl (by decide) rfl dX7_weightNow_30 ?_
      refine r_iincE hc (j := 2) (w := 1) (lv' := [(2, .int (v.2 + 1)), (1, .int (v.1 + v7)), (0, .ref (ad x0))]) rfl (by decide) rfl (by decide) rfl dX7_weightNow_31 ?_
      refine r_goto hc (tgt := 4) dX7_weightNow_34 (by decide) ?_
      refine r_sub [2, 1, 0] (lv' := [(0, .ref (ad x0)), (1, .int (v.1 + v7)), (2, .int (v.2 + 1))]) rfl ?_
      have h := wp_v h
      exact kn ((v.1 + v7), (v.2 + 1)) _ h
noncomputable def f_X7_weightNow (x0 : Nat) (σ : Hp) : Option (Int32 × Hp) := bO (wh (f_X7_weightNow_L4 x0) (0, 0) σ) fun y1 σ2 => (some (y1, σ2))
set_option maxRecDepth 100000 in
set_option maxHeartbeats 4000000 in
theorem t_X7_weightNow {l : Launch} {γ : Gm} {ad : Nat → Nat} {K : Option Value → Hp → Prop} (hc : Cx l γ 1 3 ad shM RX7 cX7_weightNow (some .int) K) {x0 : Nat} {σ : Hp} (h : wpO (f_X7_weightNow x0 σ) (KI K)) : WW l γ 1 3 ad shM 0 [(0, .ref (ad x0))] [] σ := by
  unfold f_X7_weightNow at h
  refine r_iconst hc (v := 0) (by decide) dX7_weightNow_0 ?_
  refine r_istore_nE hc (i := 1) (lv' := [(1, .int 0), (0, .ref (ad x0))]) rfl rfl (by decide) rfl dX7_weightNow_1 ?_
  refine r_iconst hc (v := 0) (by decide) dX7_weightNow_2 ?_
  refine r_istore_nE hc (i := 2) (lv' := [(2, .int 0), (1, .int 0), (0, .ref (ad x0))]) rfl rfl (by decide) rfl dX7_weightNow_3 ?_
  refine r_sub [2, 1, 0] (lv' := [(0, .ref (ad x0)), (1, .int 0), (2, .int 0)]) rfl ?_
  refine t_X7_weightNow_L4 hc (wp_bb h) ?_
  · intro y1 σ2 h
    refine r_iload_n hc 0 rfl rfl dX7_weightNow_37 ?_
    have h := wp_v h
    exact r_iret hc h dX7_weightNow_38
theorem c_X7_weightNow {l : Launch} {x0 : Nat} {σ σ' : Hp} {r : Int32} (h : f_X7_weightNow x0 σ = some (r, σ')) : Mt l yX7_weightNow cX7_weightNow 3 (some .int) 1 shM (fun ad => [.ref (ad x0)]) σ (fun ad => some (.int r)) σ' := mt_i (own := RX7) (by decide) rfl (fun _ => Nat.le_of_ble_eq_true rfl) (fun γ ad K hc hk => t_X7_weightNow hc ⟨_, _, h, hk⟩)

-- NetMapsModel.best(IIZZI)I
theorem dX7_best_0 : decode cX7_best 0 = .ok (.iload_n 1, 1) := by decide +kernel
theorem dX7_best_1 : decode cX7_best 1 = .ok (.iload_n 2, 1) := by decide +kernel
theorem dX7_best_2 : decode cX7_best 2 = .ok (.invokestatic 243, 3) := by decide +kernel
theorem dX7_best_5 : decode cX7_best 5 = .ok (.ifCond .eq 13, 3) := by decide +kernel
theorem dX7_best_8 : decode cX7_best 8 = .ok (.iload 5, 2) := by decide +kernel
theorem dX7_best_10 : decode cX7_best 10 = .ok (.iconst 0, 1) := by decide +kernel
theorem dX7_best_11 : decode cX7_best 11 = .ok (.iconst 2, 1) := by decide +kernel
theorem dX7_best_12 : decode cX7_best 12 = .ok (.invokestatic 81, 3) := by decide +kernel
theorem dX7_best_15 : decode cX7_best 15 = .ok (.ifCond .ne 5, 3) := by decide +kernel
theorem dX7_best_18 : decode cX7_best 18 = .ok (.iconst (-1), 1) := by decide +kernel
theorem dX7_best_19 : decode cX7_best 19 = .ok (.ireturn, 1) := by decide +kernel
theorem dX7_best_20 : decode cX7_best 20 = .ok (.aload_n 0, 1) := by decide +kernel
theorem dX7_best_21 : decode cX7_best 21 = .ok (.iload_n 1, 1) := by decide +kernel
theorem dX7_best_22 : decode cX7_best 22 = .ok (.iload_n 2, 1) := by decide +kernel
theorem dX7_best_23 : decode cX7_best 23 = .ok (.invokevirtual 246, 3) := by decide +kernel
theorem dX7_best_26 : decode cX7_best 26 = .ok (.ifCond .eq 6, 3) := by decide +kernel
theorem dX7_best_29 : decode cX7_best 29 = .ok (.bipush (-2), 2) := by decide +kernel
theorem dX7_best_31 : decode cX7_best 31 = .ok (.ireturn, 1) := by decide +kernel
theorem dX7_best_32 : decode cX7_best 32 = .ok (.iconst (-1), 1) := by decide +kernel
theorem dX7_best_33 : decode cX7_best 33 = .ok (.istore 6, 2) := by decide +kernel
theorem dX7_best_35 : decode cX7_best 35 = .ok (.iconst 0, 1) := by decide +kernel
theorem dX7_best_36 : decode cX7_best 36 = .ok (.istore 7, 2) := by decide +kernel
theorem dX7_best_38 : decode cX7_best 38 = .ok (.iconst 0, 1) := by decide +kernel
theorem dX7_best_39 : decode cX7_best 39 = .ok (.istore 8, 2) := by decide +kernel
theorem dX7_best_41 : decode cX7_best 41 = .ok (.iconst 0, 1) := by decide +kernel
theorem dX7_best_42 : decode cX7_best 42 = .ok (.istore 9, 2) := by decide +kernel
theorem dX7_best_44 : decode cX7_best 44 = .ok (.aload_n 0, 1) := by decide +kernel
theorem dX7_best_45 : decode cX7_best 45 = .ok (.iload_n 1, 1) := by decide +kernel
theorem dX7_best_46 : decode cX7_best 46 = .ok (.iload_n 2, 1) := by decide +kernel
theorem dX7_best_47 : decode cX7_best 47 = .ok (.iconst 1, 1) := by decide +kernel
theorem dX7_best_48 : decode cX7_best 48 = .ok (.invokevirtual 237, 3) := by decide +kernel
theorem dX7_best_51 : decode cX7_best 51 = .ok (.aload_n 0, 1) := by decide +kernel
theorem dX7_best_52 : decode cX7_best 52 = .ok (.invokevirtual 240, 3) := by decide +kernel
theorem dX7_best_55 : decode cX7_best 55 = .ok (.ifCond .eq 88, 3) := by decide +kernel
theorem dX7_best_58 : decode cX7_best 58 = .ok (.iload 4, 2) := by decide +kernel
theorem dX7_best_60 : decode cX7_best 60 = .ok (.ifCond .eq 10, 3) := by decide +kernel
theorem dX7_best_63 : decode cX7_best 63 = .ok (.aload_n 0, 1) := by decide +kernel
theorem dX7_best_64 : decode cX7_best 64 = .ok (.invokevirtual 266, 3) := by decide +kernel
theorem dX7_best_67 : decode cX7_best 67 = .ok (.goto 10, 3) := by decide +kernel
theorem dX7_best_70 : decode cX7_best 70 = .ok (.aload_n 0, 1) := by decide +kernel
theorem dX7_best_71 : decode cX7_best 71 = .ok (.invokevirtual 230, 3) := by decide +kernel
theorem dX7_best_74 : decode cX7_best 74 = .ok (.invokestatic 93, 3) := by decide +kernel
theorem dX7_best_77 : decode cX7_best 77 = .ok (.istore 10, 2) := by decide +kernel
theorem dX7_best_79 : decode cX7_best 79 = .ok (.iload 6, 2) := by decide +kernel
theorem dX7_best_81 : decode cX7_best 81 = .ok (.iconst (-1), 1) := by decide +kernel
theorem dX7_best_82 : decode cX7_best 82 = .ok (.if_icmp .eq 24, 3) := by decide +kernel
theorem dX7_best_85 : decode cX7_best 85 = .ok (.iload_n 3, 1) := by decide +kernel
theorem dX7_best_86 : decode cX7_best 86 = .ok (.ifCond .eq 13, 3) := by decide +kernel
theorem dX7_best_89 : decode cX7_best 89 = .ok (.iload 10, 2) := by decide +kernel
theorem dX7_best_91 : decode cX7_best 91 = .ok (.iload 6, 2) := by decide +kernel
theorem dX7_best_93 : decode cX7_best 93 = .ok (.if_icmp .ge 24, 3) := by decide +kernel
theorem dX7_best_96 : decode cX7_best 96 = .ok (.goto 10, 3) := by decide +kernel
theorem dX7_best_99 : decode cX7_best 99 = .ok (.iload 10, 2) := by decide +kernel
theorem dX7_best_101 : decode cX7_best 101 = .ok (.iload 6, 2) := by decide +kernel
theorem dX7_best_103 : decode cX7_best 103 = .ok (.if_icmp .le 14, 3) := by decide +kernel
theorem dX7_best_106 : decode cX7_best 106 = .ok (.iload 10, 2) := by decide +kernel
theorem dX7_best_108 : decode cX7_best 108 = .ok (.istore 6, 2) := by decide +kernel
theorem dX7_best_110 : decode cX7_best 110 = .ok (.iconst 0, 1) := by decide +kernel
theorem dX7_best_111 : decode cX7_best 111 = .ok (.istore 7, 2) := by decide +kernel
theorem dX7_best_113 : decode cX7_best 113 = .ok (.iload 9, 2) := by decide +kernel
theorem dX7_best_115 : decode cX7_best 115 = .ok (.istore 8, 2) := by decide +kernel
theorem dX7_best_117 : decode cX7_best 117 = .ok (.iload 7, 2) := by decide +kernel
theorem dX7_best_119 : decode cX7_best 119 = .ok (.iload 10, 2) := by decide +kernel
theorem dX7_best_121 : decode cX7_best 121 = .ok (.iload 6, 2) := by decide +kernel
theorem dX7_best_123 : decode cX7_best 123 = .ok (.if_icmp .ne 7, 3) := by decide +kernel
theorem dX7_best_126 : decode cX7_best 126 = .ok (.iconst 1, 1) := by decide +kernel
theorem dX7_best_127 : decode cX7_best 127 = .ok (.goto 4, 3) := by decide +kernel
theorem dX7_best_130 : decode cX7_best 130 = .ok (.iconst 0, 1) := by decide +kernel
theorem dX7_best_131 : decode cX7_best 131 = .ok (.iadd, 1) := by decide +kernel
theorem dX7_best_132 : decode cX7_best 132 = .ok (.istore 7, 2) := by decide +kernel
theorem dX7_best_134 : decode cX7_best 134 = .ok (.iload 9, 2) := by decide +kernel
theorem dX7_best_136 : decode cX7_best 136 = .ok (.iconst 1, 1) := by decide +kernel
theorem dX7_best_137 : decode cX7_best 137 = .ok (.iadd, 1) := by decide +kernel
theorem dX7_best_138 : decode cX7_best 138 = .ok (.istore 9, 2) := by decide +kernel
theorem dX7_best_140 : decode cX7_best 140 = .ok (.goto (-89), 3) := by decide +kernel
theorem dX7_best_143 : decode cX7_best 143 = .ok (.iload 6, 2) := by decide +kernel
theorem dX7_best_145 : decode cX7_best 145 = .ok (.iconst (-1), 1) := by decide +kernel
theorem dX7_best_146 : decode cX7_best 146 = .ok (.if_icmp .ne 6, 3) := by decide +kernel
theorem dX7_best_149 : decode cX7_best 149 = .ok (.bipush (-4), 2) := by decide +kernel
theorem dX7_best_151 : decode cX7_best 151 = .ok (.ireturn, 1) := by decide +kernel
theorem dX7_best_152 : decode cX7_best 152 = .ok (.iload 5, 2) := by decide +kernel
theorem dX7_best_154 : decode cX7_best 154 = .ok (.ifCond .ne 8, 3) := by decide +kernel
theorem dX7_best_157 : decode cX7_best 157 = .ok (.iload 6, 2) := by decide +kernel
theorem dX7_best_159 : decode cX7_best 159 = .ok (.goto 16, 3) := by decide +kernel
theorem dX7_best_162 : decode cX7_best 162 = .ok (.iload 5, 2) := by decide +kernel
theorem dX7_best_164 : decode cX7_best 164 = .ok (.iconst 1, 1) := by decide +kernel
theorem dX7_best_165 : decode cX7_best 165 = .ok (.if_icmp .ne 8, 3) := by decide +kernel
theorem dX7_best_168 : decode cX7_best 168 = .ok (.iload 7, 2) := by decide +kernel
theorem dX7_best_170 : decode cX7_best 170 = .ok (.goto 5, 3) := by decide +kernel
theorem dX7_best_173 : decode cX7_best 173 = .ok (.iload 8, 2) := by decide +kernel
theorem dX7_best_175 : decode cX7_best 175 = .ok (.ireturn, 1) := by decide +kernel
noncomputable def f_X7_best_b18  (σ : Hp) : Option (Int32 × Hp) := some ((-1), σ)
set_option maxRecDepth 100000 in
set_option maxHeartbeats 4000000 in
theorem t_X7_best_b18 {l : Launch} {γ : Gm} {ad : Nat → Nat} {K : Option Value → Hp → Prop} (hc : Cx l γ 5 11 ad shM RX7 cX7_best (some .int) K)  {σ : Hp} (h : wpO (f_X7_best_b18  σ) (KI K)) : WW l γ 5 11 ad shM 18 [] [] σ := by
  unfold f_X7_best_b18 at h
  refine r_iconst hc (v := (-1)) (by decide) dX7_best_18 ?_
  have h := wp_v h
  exact r_iret hc h dX7_best_19
noncomputable def f_X7_best_b131 (x0 : Nat) (x3 : Int32) (x4 : Int32) (x5 : Int32) (x6 : Int32) (x8 : Int32) (x9 : Int32) (s0 : Int32) (s1 : Int32) (σ : Hp) : Option (((Int32 × Int32 × Int32 × Int32) ⊕ (Int32 × Int32 × Int32)) × Hp) := some (Sum.inl (x6, (s0 + s1), x8, (x9 + 1)), σ)
set_option maxRecDepth 100000 in
set_option maxHeartbeats 4000000 in
theorem t_X7_best_b131 {l : Launch} {γ : Gm} {ad : Nat → Nat} {K : Option Value → Hp → Prop} (hc : Cx l γ 5 11 ad shM RX7 cX7_best (some .int) K) {x0 : Nat} {x3 : Int32} {x4 : Int32} {x5 : Int32} {x6 : Int32} {x8 : Int32} {x9 : Int32} {s0 : Int32} {s1 : Int32}  {σ : Hp} {KL : ((Int32 × Int32 × Int32 × Int32) ⊕ (Int32 × Int32 × Int32)) → Hp → Prop} (h : wpO (f_X7_best_b131 x0 x3 x4 x5 x6 x8 x9 s0 s1 σ) KL) (kn : ∀ (v : (Int32 × Int32 × Int32 × Int32)) (σ : Hp), KL (Sum.inl v) σ → WW l γ 5 11 ad shM 51 [(0, .ref (ad x0)), (3, .int x3), (4, .int x4), (5, .int x5), (6, .int v.1), (7, .int v.2.1), (8, .int v.2.2.1), (9, .int v.2.2.2)] [] σ) (kx143 : ∀ (v : Int32 × Int32 × Int32) (σ : Hp), KL (Sum.inr v) σ → WW l γ 5 11 ad shM 143 [(5, .int x5), (6, .int v.1), (7, .int v.2.1), (8, .int v.2.2)] [] σ) : WW l γ 5 11 ad shM 131 [(0, .ref (ad x0)), (3, .int x3), (4, .int x4), (5, .int x5), (6, .int x6), (8, .int x8), (9, .int x9)] [.int s1, .int s0] σ := by
  unfold f_X7_best_b131 at h
  refine r_iadd hc dX7_best_131 ?_
  refine r_istoreE hc (i := 7) (lv' := [(7, .int (s0 + s1)), (0, .ref (ad x0)), (3, .int x3), (4, .int x4), (5, .int x5), (6, .int x6), (8, .int x8), (9, .int x9)]) rfl (by decide) rfl dX7_best_132 ?_
  refine r_iload hc 7 rfl dX7_best_134 ?_
  refine r_iconst hc (v := 1) (by decide) dX7_best_136 ?_
  refine r_iadd hc dX7_best_137 ?_
  refine r_istoreE hc (i := 9) (lv' := [(9, .int (x9 + 1)), (7, .int (s0 + s1)), (0, .ref (ad x0)), (3, .int x3), (4, .int x4), (5, .int x5), (6, .int x6), (8, .int x8)]) rfl (by decide) rfl dX7_best_138 ?_
  refine r_goto hc (tgt := 51) dX7_best_140 (by decide) ?_
  refine r_sub [2, 3, 4, 5, 6, 1, 7, 0] (lv' := [(0, .ref (ad x0)), (3, .int x3), (4, .int x4), (5, .int x5), (6, .int x6), (7, .int (s0 + s1)), (8, .int x8), (9, .int (x9 + 1))]) rfl ?_
  have h := wp_v h
  exact kn (x6, (s0 + s1), x8, (x9 + 1)) _ h
noncomputable def f_X7_best_b117 (x0 : Nat) (x3 : Int32) (x4 : Int32) (x5 : Int32) (x6 : Int32) (x7 : Int32) (x8 : Int32) (x9 : Int32) (x10 : Int32) (σ : Hp) : Option (((Int32 × Int32 × Int32 × Int32) ⊕ (Int32 × Int32 × Int32)) × Hp) := if x10 = x6 then (f_X7_best_b131 x0 x3 x4 x5 x6 x8 x9 x7 1 σ) else (f_X7_best_b131 x0 x3 x4 x5 x6 x8 x9 x7 0 σ)
set_option maxRecDepth 100000 in
set_option maxHeartbeats 4000000 in
theorem t_X7_best_b117 {l : Launch} {γ : Gm} {ad : Nat → Nat} {K : Option Value → Hp → Prop} (hc : Cx l γ 5 11 ad shM RX7 cX7_best (some .int) K) {x0 : Nat} {x3 : Int32} {x4 : Int32} {x5 : Int32} {x6 : Int32} {x7 : Int32} {x8 : Int32} {x9 : Int32} {x10 : Int32}  {σ : Hp} {KL : ((Int32 × Int32 × Int32 × Int32) ⊕ (Int32 × Int32 × Int32)) → Hp → Prop} (h : wpO (f_X7_best_b117 x0 x3 x4 x5 x6 x7 x8 x9 x10 σ) KL) (kn : ∀ (v : (Int32 × Int32 × Int32 × Int32)) (σ : Hp), KL (Sum.inl v) σ → WW l γ 5 11 ad shM 51 [(0, .ref (ad x0)), (3, .int x3), (4, .int x4), (5, .int x5), (6, .int v.1), (7, .int v.2.1), (8, .int v.2.2.1), (9, .int v.2.2.2)] [] σ) (kx143 : ∀ (v : Int32 × Int32 × Int32) (σ : Hp), KL (Sum.inr v) σ → WW l γ 5 11 ad shM 143 [(5, .int x5), (6, .int v.1), (7, .int v.2.1), (8, .int v.2.2)] [] σ) : WW l γ 5 11 ad shM 117 [(0, .ref (ad x0)), (3, .int x3), (4, .int x4), (5, .int x5), (6, .int x6), (7, .int x7), (8, .int x8), (9, .int x9), (10, .int x10)] [] σ := by
  unfold f_X7_best_b117 at h
  refine r_iload hc 5 rfl dX7_best_117 ?_
  refine r_iload hc 8 rfl dX7_best_119 ?_
  refine r_iload hc 4 rfl dX7_best_121 ?_
  refine r_icmp_ne hc (tgt := 130) dX7_best_123 (by decide) (fun c => ?_) (fun c => ?_)
  · have h := wp_f c h
    refine r_iconst hc (v := 0) (by decide) dX7_best_130 ?_
    refine r_sub [0, 1, 2, 3, 4, 6, 7] (lv' := [(0, .ref (ad x0)), (3, .int x3), (4, .int x4), (5, .int x5), (6, .int x6), (8, .int x8), (9, .int x9)]) rfl ?_
    exact t_X7_best_b131 hc h kn kx143
  · have h := wp_t c h
    refine r_iconst hc (v := 1) (by decide) dX7_best_126 ?_
    refine r_goto hc (tgt := 131) dX7_best_127 (by decide) ?_
    refine r_sub [0, 1, 2, 3, 4, 6, 7] (lv' := [(0, .ref (ad x0)), (3, .int x3), (4, .int x4), (5, .int x5), (6, .int x6), (8, .int x8), (9, .int x9)]) rfl ?_
    exact t_X7_best_b131 hc h kn kx143
noncomputable def f_X7_best_b106 (x0 : Nat) (x3 : Int32) (x4 : Int32) (x5 : Int32) (x9 : Int32) (x10 : Int32) (σ : Hp) : Option (((Int32 × Int32 × Int32 × Int32) ⊕ (Int32 × Int32 × Int32)) × Hp) := f_X7_best_b117 x0 x3 x4 x5 x10 0 x9 x9 x10 σ
set_option maxRecDepth 100000 in
set_option maxHeartbeats 4000000 in
theorem t_X7_best_b106 {l : Launch} {γ : Gm} {ad : Nat → Nat} {K : Option Value → Hp → Prop} (hc : Cx l γ 5 11 ad shM RX7 cX7_best (some .int) K) {x0 : Nat} {x3 : Int32} {x4 : Int32} {x5 : Int32} {x9 : Int32} {x10 : Int32}  {σ : Hp} {KL : ((Int32 × Int32 × Int32 × Int32) ⊕ (Int32 × Int32 × Int32)) → Hp → Prop} (h : wpO (f_X7_best_b106 x0 x3 x4 x5 x9 x10 σ) KL) (kn : ∀ (v : (Int32 × Int32 × Int32 × Int32)) (σ : Hp), KL (Sum.inl v) σ → WW l γ 5 11 ad shM 51 [(0, .ref (ad x0)), (3, .int x3), (4, .int x4), (5, .int x5), (6, .int v.1), (7, .int v.2.1), (8, .int v.2.2.1), (9, .int v.2.2.2)] [] σ) (kx143 : ∀ (v : Int32 × Int32 × Int32) (σ : Hp), KL (Sum.inr v) σ → WW l γ 5 11 ad shM 143 [(5, .int x5), (6, .int v.1), (7, .int v.2.1), (8, .int v.2.2)] [] σ) : WW l γ 5 11 ad shM 106 [(0, .ref (ad x0)), (3, .int x3), (4, .int x4), (5, .int x5), (9, .int x9), (10, .int x10)] [] σ := by
  unfold f_X7_best_b106 at h
  refine r_iload hc 5 rfl dX7_best_106 ?_
  refine r_istoreE hc (i := 6) (lv' := [(6, .int x10), (0, .ref (ad x0)), (3, .int x3), (4, .int x4), (5, .int x5), (9, .int x9), (10, .int x10)]) rfl (by decide) rfl dX7_best_108 ?_
  refine r_iconst hc (v := 0) (by decide) dX7_best_110 ?_
  refine r_istoreE hc (i := 7) (lv' := [(7, .int 0), (6, .int x10), (0, .ref (ad x0)), (3, .int x3), (4, .int x4), (5, .int x5), (9, .int x9), (10, .int x10)]) rfl (by decide) rfl dX7_best_111 ?_
  refine r_iload hc 6 rfl dX7_best_113 ?_
  refine r_istoreE hc (i := 8) (lv' := [(8, .int x9), (7, .int 0), (6, .int x10), (0, .ref (ad x0)), (3, .int x3), (4, .int x4), (5, .int x5), (9, .int x9), (10, .int x10)]) rfl (by decide) rfl dX7_best_115 ?_
  refine r_sub [3, 4, 5, 6, 2, 1, 0, 7, 8] (lv' := [(0, .ref (ad x0)), (3, .int x3), (4, .int x4), (5, .int x5), (6, .int x10), (7, .int 0), (8, .int x9), (9, .int x9), (10, .int x10)]) rfl ?_
  exact t_X7_best_b117 hc h kn kx143
noncomputable def f_X7_best_b77 (x0 : Nat) (x3 : Int32) (x4 : Int32) (x5 : Int32) (x6 : Int32) (x7 : Int32) (x8 : Int32) (x9 : Int32) (s0 : Int32) (σ : Hp) : Option (((Int32 × Int32 × Int32 × Int32) ⊕ (Int32 × Int32 × Int32)) × Hp) := if x6 = (-1) then (f_X7_best_b106 x0 x3 x4 x5 x9 s0 σ) else (if x3 = 0 then (if s0 ≤ x6 then (f_X7_best_b117 x0 x3 x4 x5 x6 x7 x8 x9 s0 σ) else (f_X7_best_b106 x0 x3 x4 x5 x9 s0 σ)) else (if x6 ≤ s0 then (f_X7_best_b117 x0 x3 x4 x5 x6 x7 x8 x9 s0 σ) else (f_X7_best_b106 x0 x3 x4 x5 x9 s0 σ)))
set_option maxRecDepth 100000 in
set_option maxHeartbeats 4000000 in
theorem t_X7_best_b77 {l : Launch} {γ : Gm} {ad : Nat → Nat} {K : Option Value → Hp → Prop} (hc : Cx l γ 5 11 ad shM RX7 cX7_best (some .int) K) {x0 : Nat} {x3 : Int32} {x4 : Int32} {x5 : Int32} {x6 : Int32} {x7 : Int32} {x8 : Int32} {x9 : Int32} {s0 : Int32}  {σ : Hp} {KL : ((Int32 × Int32 × Int32 × Int32) ⊕ (Int32 × Int32 × Int32)) → Hp → Prop} (h : wpO (f_X7_best_b77 x0 x3 x4 x5 x6 x7 x8 x9 s0 σ) KL) (kn : ∀ (v : (Int32 × Int32 × Int32 × Int32)) (σ : Hp), KL (Sum.inl v) σ → WW l γ 5 11 ad shM 51 [(0, .ref (ad x0)), (3, .int x3), (4, .int x4), (5, .int x5), (6, .int v.1), (7, .int v.2.1), (8, .int v.2.2.1), (9, .int v.2.2.2)] [] σ) (kx143 : ∀ (v : Int32 × Int32 × Int32) (σ : Hp), KL (Sum.inr v) σ → WW l γ 5 11 ad shM 143 [(5, .int x5), (6, .int v.1), (7, .int v.2.1), (8, .int v.2.2)] [] σ) : WW l γ 5 11 ad shM 77 [(0, .ref (ad x0)), (3, .int x3), (4, .int x4), (5, .int x5), (6, .int x6), (7, .int x7), (8, .int x8), (9, .int x9)] [.int s0] σ := by
  unfold f_X7_best_b77 at h
  refine r_istoreE hc (i := 10) (lv' := [(10, .int s0), (0, .ref (ad x0)), (3, .int x3), (4, .int x4), (5, .int x5), (6, .int x6), (7, .int x7), (8, .int x8), (9, .int x9)]) rfl (by decide) rfl dX7_best_77 ?_
  refine r_iload hc 5 rfl dX7_best_79 ?_
  refine r_iconst hc (v := (-1)) (by decide) dX7_best_81 ?_
  refine r_icmp_eq hc (tgt := 106) dX7_best_82 (by decide) (fun c => ?_) (fun c => ?_)
  · have h := wp_t c h
    refine r_sub [1, 2, 3, 4, 8, 0] (lv' := [(0, .ref (ad x0)), (3, .int x3), (4, .int x4), (5, .int x5), (9, .int x9), (10, .int s0)]) rfl ?_
    exact t_X7_best_b106 hc h kn kx143
  · have h := wp_f c h
    refine r_iload_n hc 2 rfl rfl dX7_best_85 ?_
    refine r_if_eq hc (tgt := 99) dX7_best_86 (by decide) (fun c => ?_) (fun c => ?_)
    · have h := wp_t c h
      refine r_iload hc 0 rfl dX7_best_99 ?_
      refine r_iload hc 5 rfl dX7_best_101 ?_
      refine r_icmp_le hc (tgt := 117) dX7_best_103 (by decide) (fun c => ?_) (fun c => ?_)
      · have h := wp_t c h
        refine r_sub [1, 2, 3, 4, 5, 6, 7, 8, 0] (lv' := [(0, .ref (ad x0)), (3, .int x3), (4, .int x4), (5, .int x5), (6, .int x6), (7, .int x7), (8, .int x8), (9, .int x9), (10, .int s0)]) rfl ?_
        exact t_X7_best_b117 hc h kn kx143
      · have h := wp_f c h
        refine r_sub [1, 2, 3, 4, 8, 0] (lv' := [(0, .ref (ad x0)), (3, .int x3), (4, .int x4), (5, .int x5), (9, .int x9), (10, .int s0)]) rfl ?_
        exact t_X7_best_b106 hc h kn kx143
    · have h := wp_f c h
      refine r_iload hc 0 rfl dX7_best_89 ?_
      refine r_iload hc 5 rfl dX7_best_91 ?_
      refine r_icmp_ge hc (tgt := 117) dX7_best_93 (by decide) (fun c => ?_) (fun c => ?_)
      · have h := wp_t c h
        refine r_sub [1, 2, 3, 4, 5, 6, 7, 8, 0] (lv' := [(0, .ref (ad x0)), (3, .int x3), (4, .int x4), (5, .int x5), (6, .int x6), (7, .int x7), (8, .int x8), (9, .int x9), (10, .int s0)]) rfl ?_
        exact t_X7_best_b117 hc h kn kx143
      · have h := wp_f c h
        refine r_goto hc (tgt := 106) dX7_best_96 (by decide) ?_
        refine r_sub [1, 2, 3, 4, 8, 0] (lv' := [(0, .ref (ad x0)), (3, .int x3), (4, .int x4), (5, .int x5), (9, .int x9), (10, .int s0)]) rfl ?_
        exact t_X7_best_b106 hc h kn kx143
noncomputable def f_X7_best_L51 (x0 : Nat) (x3 : Int32) (x4 : Int32) (x5 : Int32) (v : (Int32 × Int32 × Int32 × Int32)) (σ : Hp) : Option (((Int32 × Int32 × Int32 × Int32) ⊕ (Int32 × Int32 × Int32)) × Hp) := gO (chk shM x0 7) fun _ => bO (f_X7_next x0 σ) fun r1 σ2 => if r1 = 0 then (some (Sum.inr (v.1, v.2.1, v.2.2.1), σ2)) else (if x4 = 0 then (gO (chk shM x0 7) fun _ => bO (f_X7_became x0 σ2) fun r4 σ5 => bO (f_X7_bits r4 σ5) fun r7 σ8 => f_X7_best_b77 x0 x3 x4 x5 v.1 v.2.1 v.2.2.1 v.2.2.2 r7 σ8) else (gO (chk shM x0 7) fun _ => bO (f_X7_weightNow x0 σ2) fun r9 σ10 => f_X7_best_b77 x0 x3 x4 x5 v.1 v.2.1 v.2.2.1 v.2.2.2 r9 σ10))
set_option maxRecDepth 100000 in
set_option maxHeartbeats 4000000 in
theorem t_X7_best_L51 {l : Launch} {γ : Gm} {ad : Nat → Nat} {K : Option Value → Hp → Prop}  (hc : Cx l γ 5 11 ad shM RX7 cX7_best (some .int) K) {x0 : Nat} {x3 : Int32} {x4 : Int32} {x5 : Int32} {v : (Int32 × Int32 × Int32 × Int32)} {σ : Hp} {KX : (Int32 × Int32 × Int32) → Hp → Prop} (h : wpO (wh (f_X7_best_L51 x0 x3 x4 x5) v σ) KX) (kx143 : ∀ (v : Int32 × Int32 × Int32) (σ : Hp), KX v σ → WW l γ 5 11 ad shM 143 [(5, .int x5), (6, .int v.1), (7, .int v.2.1), (8, .int v.2.2)] [] σ) : WW l γ 5 11 ad shM 51 [(0, .ref (ad x0)), (3, .int x3), (4, .int x4), (5, .int x5), (6, .int v.1), (7, .int v.2.1), (8, .int v.2.2.1), (9, .int v.2.2.2)] [] σ := by
  refine wh_W (P := fun v σ => WW l γ 5 11 ad shM 51 [(0, .ref (ad x0)), (3, .int x3), (4, .int x4), (5, .int x5), (6, .int v.1), (7, .int v.2.1), (8, .int v.2.2.1), (9, .int v.2.2.2)] [] σ) (fun v σ h => ?_) h
  have kn : ∀ (v : (Int32 × Int32 × Int32 × Int32)) (σ : Hp), WW l γ 5 11 ad shM 51 [(0, .ref (ad x0)), (3, .int x3), (4, .int x4), (5, .int x5), (6, .int v.1), (7, .int v.2.1), (8, .int v.2.2.1), (9, .int v.2.2.2)] [] σ → WW l γ 5 11 ad shM 51 [(0, .ref (ad x0)), (3, .int x3), (4, .int x4), (5, .int x5), (6, .int v.1), (7, .int v.2.1), (8, .int v.2.2.1), (9, .int v.2.2.2)] [] σ := fun _ _ h => h
  · unfold f_X7_best_L51 at h
    refine r_aload_n hc 0 rfl rfl dX7_best_51 ?_
    obtain ⟨_, ek3, h⟩ := wp_g h
    obtain ⟨r1, σ2, er1, h⟩ := wp_b h
    refine r_callV hc (k0 := x0) mv_X7_next ml_X7_240 (c_X7_next er1) (chk_of ek3) cls_7.1 rfl rfl rfl (by decide) rfl (Nat.le_of_ble_eq_true rfl) dX7_best_52 ?_
    refine r_if_eq hc (tgt := 143) dX7_best_55 (by decide) (fun c => ?_) (fun c => ?_)
    · have h := wp_t c h
      refine r_sub [3, 4, 5, 6] (lv' := [(5, .int x5), (6, .int v.1), (7, .int v.2.1), (8, .int v.2.2.1)]) rfl ?_
      have h := wp_v h
      exact kx143 (v.1, v.2.1, v.2.2.1) _ h
    · have h := wp_f c h
      refine r_iload hc 2 rfl dX7_best_58 ?_
      refine r_if_eq hc (tgt := 70) dX7_best_60 (by decide) (fun c => ?_) (fun c => ?_)
      · have h := wp_t c h
        refine r_aload_n hc 0 rfl rfl dX7_best_70 ?_
        obtain ⟨_, ek6, h⟩ := wp_g h
        obtain ⟨r4, σ5, er4, h⟩ := wp_b h
        refine r_callV hc (k0 := x0) mv_X7_became ml_X7_230 (c_X7_became er4) (chk_of ek6) cls_7.1 rfl rfl rfl (by decide) rfl (Nat.le_of_ble_eq_true rfl) dX7_best_71 ?_
        obtain ⟨r7, σ8, er7, h⟩ := wp_b h
        refine r_callS hc ms_X7_bits ml_X7_93 (c_X7_bits er7) rfl rfl (by decide) rfl (Nat.le_of_ble_eq_true rfl) dX7_best_74 ?_
        exact t_X7_best_b77 hc h kn kx143
      · have h := wp_f c h
        refine r_aload_n hc 0 rfl rfl dX7_best_63 ?_
        obtain ⟨_, ek11, h⟩ := wp_g h
        obtain ⟨r9, σ10, er9, h⟩ := wp_b h
        refine r_callV hc (k0 := x0) mv_X7_weightNow ml_X7_266 (c_X7_weightNow er9) (chk_of ek11) cls_7.1 rfl rfl rfl (by decide) rfl (Nat.le_of_ble_eq_true rfl) dX7_best_64 ?_
        refine r_goto hc (tgt := 77) dX7_best_67 (by decide) ?_
        exact t_X7_best_b77 hc h kn kx143
noncomputable def f_X7_best_b175 (s0 : Int32) (σ : Hp) : Option (Int32 × Hp) := some (s0, σ)
set_option maxRecDepth 100000 in
set_option maxHeartbeats 4000000 in
theorem t_X7_best_b175 {l : Launch} {γ : Gm} {ad : Nat → Nat} {K : Option Value → Hp → Prop} (hc : Cx l γ 5 11 ad shM RX7 cX7_best (some .int) K) {s0 : Int32} {σ : Hp} (h : wpO (f_X7_best_b175 s0 σ) (KI K)) : WW l γ 5 11 ad shM 175 [] [.int s0] σ := by
  unfold f_X7_best_b175 at h
  have h := wp_v h
  exact r_iret hc h dX7_best_175
noncomputable def f_X7_best (x0 : Nat) (x1 : Int32) (x2 : Int32) (x3 : Int32) (x4 : Int32) (x5 : Int32) (σ : Hp) : Option (Int32 × Hp) := bO (f_X7_areDrawers x1 x2 σ) fun r1 σ2 => if r1 = 0 then (f_X7_best_b18  σ2) else (bO (f_X7_in x5 0 2 σ2) fun r3 σ4 => if r3 = 0 then (f_X7_best_b18  σ4) else (gO (chk shM x0 7) fun _ => bO (f_X7_isOneEmpty x0 x1 x2 σ4) fun r5 σ6 => if r5 = 0 then (gO (chk shM x0 7) fun _ => bO (f_X7_starts x0 x1 x2 1 σ6) fun _ σ9 => bO (wh (f_X7_best_L51 x0 x3 x4 x5) ((-1), 0, 0, 0) σ9) fun y11 σ12 => (if y11.1 = (-1) then (some ((-4), σ12)) else (if x5 = 0 then (f_X7_best_b175 y11.1 σ12) else (if x5 = 1 then (f_X7_best_b175 y11.2.1 σ12) else (f_X7_best_b175 y11.2.2 σ12))))) else (some ((-2), σ6))))
set_option maxRecDepth 100000 in
set_option maxHeartbeats 4000000 in
theorem t_X7_best {l : Launch} {γ : Gm} {ad : Nat → Nat} {K : Option Value → Hp → Prop} (hc : Cx l γ 5 11 ad shM RX7 cX7_best (some .int) K) {x0 : Nat} {x1 : Int32} {x2 : Int32} {x3 : Int32} {x4 : Int32} {x5 : Int32} {σ : Hp} (h : wpO (f_X7_best x0 x1 x2 x3 x4 x5 σ) (KI K)) : WW l γ 5 11 ad shM 0 [(0, .ref (ad x0)), (1, .int x1), (2, .int x2), (3, .int x3), (4, .int x4), (5, .int x5)] [] σ := by
  unfold f_X7_best at h
  refine r_iload_n hc 1 rfl rfl dX7_best_0 ?_
  refine r_iload_n hc 2 rfl rfl dX7_best_1 ?_
  obtain ⟨r1, σ2, er1, h⟩ := wp_b h
  refine r_callS hc ms_X7_areDrawers ml_X7_243 (c_X7_areDrawers er1) rfl rfl (by decide) rfl (Nat.le_of_ble_eq_true rfl) dX7_best_2 ?_
  refine r_if_eq hc (tgt := 18) dX7_best_5 (by decide) (fun c => ?_) (fun c => ?_)
  · have h := wp_t c h
    refine r_sub [] (lv' := []) rfl ?_
    exact t_X7_best_b18 hc h
  · have h := wp_f c h
    refine r_iload hc 5 rfl dX7_best_8 ?_
    refine r_iconst hc (v := 0) (by decide) dX7_best_10 ?_
    refine r_iconst hc (v := 2) (by decide) dX7_best_11 ?_
    obtain ⟨r3, σ4, er3, h⟩ := wp_b h
    refine r_callS hc ms_X7_in ml_X7_81 (c_X7_in er3) rfl rfl (by decide) rfl (Nat.le_of_ble_eq_true rfl) dX7_best_12 ?_
    refine r_if_ne hc (tgt := 20) dX7_best_15 (by decide) (fun c => ?_) (fun c => ?_)
    · have h := wp_f c h
      refine r_aload_n hc 0 rfl rfl dX7_best_20 ?_
      refine r_iload_n hc 1 rfl rfl dX7_best_21 ?_
      refine r_iload_n hc 2 rfl rfl dX7_best_22 ?_
      obtain ⟨_, ek7, h⟩ := wp_g h
      obtain ⟨r5, σ6, er5, h⟩ := wp_b h
      refine r_callV hc (k0 := x0) mv_X7_isOneEmpty ml_X7_246 (c_X7_isOneEmpty er5) (chk_of ek7) cls_7.1 rfl rfl rfl (by decide) rfl (Nat.le_of_ble_eq_true rfl) dX7_best_23 ?_
      refine r_if_eq hc (tgt := 32) dX7_best_26 (by decide) (fun c => ?_) (fun c => ?_)
      · have h := wp_t c h
        refine r_iconst hc (v := (-1)) (by decide) dX7_best_32 ?_
        refine r_istoreE hc (i := 6) (lv' := [(6, .int (-1)), (0, .ref (ad x0)), (1, .int x1), (2, .int x2), (3, .int x3), (4, .int x4), (5, .int x5)]) rfl (by decide) rfl dX7_best_33 ?_
        refine r_iconst hc (v := 0) (by decide) dX7_best_35 ?_
        refine r_istoreE hc (i := 7) (lv' := [(7, .int 0), (6, .int (-1)), (0, .ref (ad x0)), (1, .int x1), (2, .int x2), (3, .int x3), (4, .int x4), (5, .int x5)]) rfl (by decide) rfl dX7_best_36 ?_
        refine r_iconst hc (v := 0) (by decide) dX7_best_38 ?_
        refine r_istoreE hc (i := 8) (lv' := [(8, .int 0), (7, .int 0), (6, .int (-1)), (0, .ref (ad x0)), (1, .int x1), (2, .int x2), (3, .int x3), (4, .int x4), (5, .int x5)]) rfl (by decide) rfl dX7_best_39 ?_
        refine r_iconst hc (v := 0) (by decide) dX7_best_41 ?_
        refine r_istoreE hc (i := 9) (lv' := [(9, .int 0), (8, .int 0), (7, .int 0), (6, .int (-1)), (0, .ref (ad x0)), (1, .int x1), (2, .int x2), (3, .int x3), (4, .int x4), (5, .int x5)]) rfl (by decide) rfl dX7_best_42 ?_
        refine r_aload_n hc 4 rfl rfl dX7_best_44 ?_
        refine r_iload_n hc 5 rfl rfl dX7_best_45 ?_
        refine r_iload_n hc 6 rfl rfl dX7_best_46 ?_
        refine r_iconst hc (v := 1) (by decide) dX7_best_47 ?_
        obtain ⟨_, ek10, h⟩ := wp_g h
        obtain ⟨_, σ9, er8, h⟩ := wp_b h
        refine r_callV hc (k0 := x0) mv_X7_starts ml_X7_237 (c_X7_starts er8) (chk_of ek10) cls_7.1 rfl rfl rfl (by decide) rfl (Nat.le_of_ble_eq_true rfl) dX7_best_48 ?_
        refine r_sub [4, 7, 8, 9, 3, 2, 1, 0] (lv' := [(0, .ref (ad x0)), (3, .int x3), (4, .int x4), (5, .int x5), (6, .int (-1)), (7, .int 0), (8, .int 0), (9, .int 0)]) rfl ?_
        refine t_X7_best_L51 hc (wp_bb h) ?_
        · intro y11 σ12 h
          refine r_iload hc 1 rfl dX7_best_143 ?_
          refine r_iconst hc (v := (-1)) (by decide) dX7_best_145 ?_
          refine r_icmp_ne hc (tgt := 152) dX7_best_146 (by decide) (fun c => ?_) (fun c => ?_)
          · have h := wp_f c h
            refine r_iload hc 0 rfl dX7_best_152 ?_
            refine r_if_ne hc (tgt := 162) dX7_best_154 (by decide) (fun c => ?_) (fun c => ?_)
            · have h := wp_f c h
              refine r_iload hc 0 rfl dX7_best_162 ?_
              refine r_iconst hc (v := 1) (by decide) dX7_best_164 ?_
              refine r_icmp_ne hc (tgt := 173) dX7_best_165 (by decide) (fun c => ?_) (fun c => ?_)
              · have h := wp_f c h
                refine r_iload hc 3 rfl dX7_best_173 ?_
                refine r_sub [] (lv' := []) rfl ?_
                exact t_X7_best_b175 hc h
              · have h := wp_t c h
                refine r_iload hc 2 rfl dX7_best_168 ?_
                refine r_goto hc (tgt := 175) dX7_best_170 (by decide) ?_
                refine r_sub [] (lv' := []) rfl ?_
                exact t_X7_best_b175 hc h
            · have h := wp_t c h
              refine r_iload hc 1 rfl dX7_best_157 ?_
              refine r_goto hc (tgt := 175) dX7_best_159 (by decide) ?_
              refine r_sub [] (lv' := []) rfl ?_
              exact t_X7_best_b175 hc h
          · have h := wp_t c h
            refine r_bipush hc (v := (-4)) (by decide) dX7_best_149 ?_
            have h := wp_v h
            exact r_iret hc h dX7_best_151
      · have h := wp_f c h
        refine r_bipush hc (v := (-2)) (by decide) dX7_best_29 ?_
        have h := wp_v h
        exact r_iret hc h dX7_best_31
    · have h := wp_t c h
      refine r_sub [] (lv' := []) rfl ?_
      exact t_X7_best_b18 hc h
theorem c_X7_best {l : Launch} {x0 : Nat} {x1 : Int32} {x2 : Int32} {x3 : Int32} {x4 : Int32} {x5 : Int32} {σ σ' : Hp} {r : Int32} (h : f_X7_best x0 x1 x2 x3 x4 x5 σ = some (r, σ')) : Mt l yX7_best cX7_best 11 (some .int) 5 shM (fun ad => [.ref (ad x0), .int x1, .int x2, .int x3, .int x4, .int x5]) σ (fun ad => some (.int r)) σ' := mt_i (own := RX7) (by decide) rfl (fun _ => Nat.le_of_ble_eq_true rfl) (fun γ ad K hc hk => t_X7_best hc ⟨_, _, h, hk⟩)

-- NetMapsModel.image(IIZI)I
theorem dX7_image_0 : decode cX7_image 0 = .ok (.aload_n 0, 1) := by decide +kernel
theorem dX7_image_1 : decode cX7_image 1 = .ok (.iload_n 1, 1) := by decide +kernel
theorem dX7_image_2 : decode cX7_image 2 = .ok (.iload_n 2, 1) := by decide +kernel
theorem dX7_image_3 : decode cX7_image 3 = .ok (.iload_n 3, 1) := by decide +kernel
theorem dX7_image_4 : decode cX7_image 4 = .ok (.iconst 0, 1) := by decide +kernel
theorem dX7_image_5 : decode cX7_image 5 = .ok (.iload 4, 2) := by decide +kernel
theorem dX7_image_7 : decode cX7_image 7 = .ok (.invokevirtual 269, 3) := by decide +kernel
theorem dX7_image_10 : decode cX7_image 10 = .ok (.ireturn, 1) := by decide +kernel
noncomputable def f_X7_image (x0 : Nat) (x1 : Int32) (x2 : Int32) (x3 : Int32) (x4 : Int32) (σ : Hp) : Option (Int32 × Hp) := gO (chk shM x0 7) fun _ => bO (f_X7_best x0 x1 x2 x3 0 x4 σ) fun r1 σ2 => some (r1, σ2)
set_option maxRecDepth 100000 in
set_option maxHeartbeats 4000000 in
theorem t_X7_image {l : Launch} {γ : Gm} {ad : Nat → Nat} {K : Option Value → Hp → Prop} (hc : Cx l γ 6 5 ad shM RX7 cX7_image (some .int) K) {x0 : Nat} {x1 : Int32} {x2 : Int32} {x3 : Int32} {x4 : Int32} {σ : Hp} (h : wpO (f_X7_image x0 x1 x2 x3 x4 σ) (KI K)) : WW l γ 6 5 ad shM 0 [(0, .ref (ad x0)), (1, .int x1), (2, .int x2), (3, .int x3), (4, .int x4)] [] σ := by
  unfold f_X7_image at h
  refine r_aload_n hc 0 rfl rfl dX7_image_0 ?_
  refine r_iload_n hc 1 rfl rfl dX7_image_1 ?_
  refine r_iload_n hc 2 rfl rfl dX7_image_2 ?_
  refine r_iload_n hc 3 rfl rfl dX7_image_3 ?_
  refine r_iconst hc (v := 0) (by decide) dX7_image_4 ?_
  refine r_iload hc 4 rfl dX7_image_5 ?_
  obtain ⟨_, ek3, h⟩ := wp_g h
  obtain ⟨r1, σ2, er1, h⟩ := wp_b h
  refine r_callV hc (k0 := x0) mv_X7_best ml_X7_269 (c_X7_best er1) (chk_of ek3) cls_7.1 rfl rfl rfl (by decide) rfl (Nat.le_of_ble_eq_true rfl) dX7_image_7 ?_
  have h := wp_v h
  exact r_iret hc h dX7_image_10
theorem c_X7_image {l : Launch} {x0 : Nat} {x1 : Int32} {x2 : Int32} {x3 : Int32} {x4 : Int32} {σ σ' : Hp} {r : Int32} (h : f_X7_image x0 x1 x2 x3 x4 σ = some (r, σ')) : Mt l yX7_image cX7_image 5 (some .int) 6 shM (fun ad => [.ref (ad x0), .int x1, .int x2, .int x3, .int x4]) σ (fun ad => some (.int r)) σ' := mt_i (own := RX7) (by decide) rfl (fun _ => Nat.le_of_ble_eq_true rfl) (fun γ ad K hc hk => t_X7_image hc ⟨_, _, h, hk⟩)

-- NetMapsModel.cheapest(IIZI)I
theorem dX7_cheapest_0 : decode cX7_cheapest 0 = .ok (.aload_n 0, 1) := by decide +kernel
theorem dX7_cheapest_1 : decode cX7_cheapest 1 = .ok (.iload_n 1, 1) := by decide +kernel
theorem dX7_cheapest_2 : decode cX7_cheapest 2 = .ok (.iload_n 2, 1) := by decide +kernel
theorem dX7_cheapest_3 : decode cX7_cheapest 3 = .ok (.iload_n 3, 1) := by decide +kernel
theorem dX7_cheapest_4 : decode cX7_cheapest 4 = .ok (.iconst 1, 1) := by decide +kernel
theorem dX7_cheapest_5 : decode cX7_cheapest 5 = .ok (.iload 4, 2) := by decide +kernel
theorem dX7_cheapest_7 : decode cX7_cheapest 7 = .ok (.invokevirtual 269, 3) := by decide +kernel
theorem dX7_cheapest_10 : decode cX7_cheapest 10 = .ok (.ireturn, 1) := by decide +kernel
noncomputable def f_X7_cheapest (x0 : Nat) (x1 : Int32) (x2 : Int32) (x3 : Int32) (x4 : Int32) (σ : Hp) : Option (Int32 × Hp) := gO (chk shM x0 7) fun _ => bO (f_X7_best x0 x1 x2 x3 1 x4 σ) fun r1 σ2 => some (r1, σ2)
set_option maxRecDepth 100000 in
set_option maxHeartbeats 4000000 in
theorem t_X7_cheapest {l : Launch} {γ : Gm} {ad : Nat → Nat} {K : Option Value → Hp → Prop} (hc : Cx l γ 6 5 ad shM RX7 cX7_cheapest (some .int) K) {x0 : Nat} {x1 : Int32} {x2 : Int32} {x3 : Int32} {x4 : Int32} {σ : Hp} (h : wpO (f_X7_cheapest x0 x1 x2 x3 x4 σ) (KI K)) : WW l γ 6 5 ad shM 0 [(0, .ref (ad x0)), (1, .int x1), (2, .int x2), (3, .int x3), (4, .int x4)] [] σ := by
  unfold f_X7_cheapest at h
  refine r_aload_n hc 0 rfl rfl dX7_cheapest_0 ?_
  refine r_iload_n hc 1 rfl rfl dX7_cheapest_1 ?_
  refine r_iload_n hc 2 rfl rfl dX7_cheapest_2 ?_
  refine r_iload_n hc 3 rfl rfl dX7_cheapest_3 ?_
  refine r_iconst hc (v := 1) (by decide) dX7_cheapest_4 ?_
  refine r_iload hc 4 rfl dX7_cheapest_5 ?_
  obtain ⟨_, ek3, h⟩ := wp_g h
  obtain ⟨r1, σ2, er1, h⟩ := wp_b h
  refine r_callV hc (k0 := x0) mv_X7_best ml_X7_269 (c_X7_best er1) (chk_of ek3) cls_7.1 rfl rfl rfl (by decide) rfl (Nat.le_of_ble_eq_true rfl) dX7_cheapest_7 ?_
  have h := wp_v h
  exact r_iret hc h dX7_cheapest_10
theorem c_X7_cheapest {l : Launch} {x0 : Nat} {x1 : Int32} {x2 : Int32} {x3 : Int32} {x4 : Int32} {σ σ' : Hp} {r : Int32} (h : f_X7_cheapest x0 x1 x2 x3 x4 σ = some (r, σ')) : Mt l yX7_cheapest cX7_cheapest 5 (some .int) 6 shM (fun ad => [.ref (ad x0), .int x1, .int x2, .int x3, .int x4]) σ (fun ad => some (.int r)) σ' := mt_i (own := RX7) (by decide) rfl (fun _ => Nat.le_of_ble_eq_true rfl) (fun γ ad K hc hk => t_X7_cheapest hc ⟨_, _, h, hk⟩)

-- NetMapsModel.weigh(II)I
theorem dX7_weigh_0 : decode cX7_weigh 0 = .ok (.iload_n 1, 1) := by decide +kernel
theorem dX7_weigh_1 : decode cX7_weigh 1 = .ok (.iconst 0, 1) := by decide +kernel
theorem dX7_weigh_2 : decode cX7_weigh 2 = .ok (.bipush 6, 2) := by decide +kernel
theorem dX7_weigh_4 : decode cX7_weigh 4 = .ok (.invokestatic 81, 3) := by decide +kernel
theorem dX7_weigh_7 : decode cX7_weigh 7 = .ok (.ifCond .eq 13, 3) := by decide +kernel
theorem dX7_weigh_10 : decode cX7_weigh 10 = .ok (.iload_n 2, 1) := by decide +kernel
theorem dX7_weigh_11 : decode cX7_weigh 11 = .ok (.iconst 0, 1) := by decide +kernel
theorem dX7_weigh_12 : decode cX7_weigh 12 = .ok (.bipush 9, 2) := by decide +kernel
theorem dX7_weigh_14 : decode cX7_weigh 14 = .ok (.invokestatic 81, 3) := by decide +kernel
theorem dX7_weigh_17 : decode cX7_weigh 17 = .ok (.ifCond .ne 5, 3) := by decide +kernel
theorem dX7_weigh_20 : decode cX7_weigh 20 = .ok (.iconst (-1), 1) := by decide +kernel
theorem dX7_weigh_21 : decode cX7_weigh 21 = .ok (.ireturn, 1) := by decide +kernel
theorem dX7_weigh_22 : decode cX7_weigh 22 = .ok (.aload_n 0, 1) := by decide +kernel
theorem dX7_weigh_23 : decode cX7_weigh 23 = .ok (.getfield 22, 3) := by decide +kernel
theorem dX7_weigh_26 : decode cX7_weigh 26 = .ok (.iload_n 1, 1) := by decide +kernel
theorem dX7_weigh_27 : decode cX7_weigh 27 = .ok (.iaload, 1) := by decide +kernel
theorem dX7_weigh_28 : decode cX7_weigh 28 = .ok (.istore_n 3, 1) := by decide +kernel
theorem dX7_weigh_29 : decode cX7_weigh 29 = .ok (.aload_n 0, 1) := by decide +kernel
theorem dX7_weigh_30 : decode cX7_weigh 30 = .ok (.getfield 22, 3) := by decide +kernel
theorem dX7_weigh_33 : decode cX7_weigh 33 = .ok (.iload_n 1, 1) := by decide +kernel
theorem dX7_weigh_34 : decode cX7_weigh 34 = .ok (.iload_n 2, 1) := by decide +kernel
theorem dX7_weigh_35 : decode cX7_weigh 35 = .ok (.iastore, 1) := by decide +kernel
theorem dX7_weigh_36 : decode cX7_weigh 36 = .ok (.iload_n 3, 1) := by decide +kernel
theorem dX7_weigh_37 : decode cX7_weigh 37 = .ok (.ireturn, 1) := by decide +kernel
noncomputable def f_X7_weigh_b20  (σ : Hp) : Option (Int32 × Hp) := some ((-1), σ)
set_option maxRecDepth 100000 in
set_option maxHeartbeats 4000000 in
theorem t_X7_weigh_b20 {l : Launch} {γ : Gm} {ad : Nat → Nat} {K : Option Value → Hp → Prop} (hc : Cx l γ 2 4 ad shM RX7 cX7_weigh (some .int) K)  {σ : Hp} (h : wpO (f_X7_weigh_b20  σ) (KI K)) : WW l γ 2 4 ad shM 20 [] [] σ := by
  unfold f_X7_weigh_b20 at h
  refine r_iconst hc (v := (-1)) (by decide) dX7_weigh_20 ?_
  have h := wp_v h
  exact r_iret hc h dX7_weigh_21
noncomputable def f_X7_weigh (x0 : Nat) (x1 : Int32) (x2 : Int32) (σ : Hp) : Option (Int32 × Hp) := bO (f_X7_in x1 0 6 σ) fun r1 σ2 => if r1 = 0 then (f_X7_weigh_b20  σ2) else (bO (f_X7_in x2 0 9 σ2) fun r3 σ4 => if r3 = 0 then (f_X7_weigh_b20  σ4) else (gO (getR shM 7 x0 4 σ4) fun v5 => gO (aldI shM 0 v5 x1 σ4) fun v6 => gO (getR shM 7 x0 4 σ4) fun v7 => gO (astI shM 0 v7 x1 x2 σ4) fun σ8 => some (v6, σ8)))
set_option maxRecDepth 100000 in
set_option maxHeartbeats 4000000 in
theorem t_X7_weigh {l : Launch} {γ : Gm} {ad : Nat → Nat} {K : Option Value → Hp → Prop} (hc : Cx l γ 2 4 ad shM RX7 cX7_weigh (some .int) K) {x0 : Nat} {x1 : Int32} {x2 : Int32} {σ : Hp} (h : wpO (f_X7_weigh x0 x1 x2 σ) (KI K)) : WW l γ 2 4 ad shM 0 [(0, .ref (ad x0)), (1, .int x1), (2, .int x2)] [] σ := by
  unfold f_X7_weigh at h
  refine r_iload_n hc 1 rfl rfl dX7_weigh_0 ?_
  refine r_iconst hc (v := 0) (by decide) dX7_weigh_1 ?_
  refine r_bipush hc (v := 6) (by decide) dX7_weigh_2 ?_
  obtain ⟨r1, σ2, er1, h⟩ := wp_b h
  refine r_callS hc ms_X7_in ml_X7_81 (c_X7_in er1) rfl rfl (by decide) rfl (Nat.le_of_ble_eq_true rfl) dX7_weigh_4 ?_
  refine r_if_eq hc (tgt := 20) dX7_weigh_7 (by decide) (fun c => ?_) (fun c => ?_)
  · have h := wp_t c h
    refine r_sub [] (lv' := []) rfl ?_
    exact t_X7_weigh_b20 hc h
  · have h := wp_f c h
    refine r_iload_n hc 2 rfl rfl dX7_weigh_10 ?_
    refine r_iconst hc (v := 0) (by decide) dX7_weigh_11 ?_
    refine r_bipush hc (v := 9) (by decide) dX7_weigh_12 ?_
    obtain ⟨r3, σ4, er3, h⟩ := wp_b h
    refine r_callS hc ms_X7_in ml_X7_81 (c_X7_in er3) rfl rfl (by decide) rfl (Nat.le_of_ble_eq_true rfl) dX7_weigh_14 ?_
    refine r_if_ne hc (tgt := 22) dX7_weigh_17 (by decide) (fun c => ?_) (fun c => ?_)
    · have h := wp_f c h
      refine r_aload_n hc 0 rfl rfl dX7_weigh_22 ?_
      obtain ⟨v5, ev5, h⟩ := wp_g h
      refine r_getR hc ev5 fl_X7_22 rfl dX7_weigh_23 ?_
      refine r_iload_n hc 1 rfl rfl dX7_weigh_26 ?_
      obtain ⟨v6, ev6, h⟩ := wp_g h
      refine r_iald hc ev6 dX7_weigh_27 ?_
      refine r_istore_nE hc (i := 3) (lv' := [(3, .int v6), (0, .ref (ad x0)), (1, .int x1), (2, .int x2)]) rfl rfl (by decide) rfl dX7_weigh_28 ?_
      refine r_aload_n hc 1 rfl rfl dX7_weigh_29 ?_
      obtain ⟨v7, ev7, h⟩ := wp_g h
      refine r_getR hc ev7 fl_X7_22 rfl dX7_weigh_30 ?_
      refine r_iload_n hc 2 rfl rfl dX7_weigh_33 ?_
      refine r_iload_n hc 3 rfl rfl dX7_weigh_34 ?_
      obtain ⟨σ8, eσ8, h⟩ := wp_g h
      refine r_iast hc eσ8 dX7_weigh_35 ?_
      refine r_iload_n hc 0 rfl rfl dX7_weigh_36 ?_
      have h := wp_v h
      exact r_iret hc h dX7_weigh_37
    · have h := wp_t c h
      refine r_sub [] (lv' := []) rfl ?_
      exact t_X7_weigh_b20 hc h
theorem c_X7_weigh {l : Launch} {x0 : Nat} {x1 : Int32} {x2 : Int32} {σ σ' : Hp} {r : Int32} (h : f_X7_weigh x0 x1 x2 σ = some (r, σ')) : Mt l yX7_weigh cX7_weigh 4 (some .int) 2 shM (fun ad => [.ref (ad x0), .int x1, .int x2]) σ (fun ad => some (.int r)) σ' := mt_i (own := RX7) (by decide) rfl (fun _ => Nat.le_of_ble_eq_true rfl) (fun γ ad K hc hk => t_X7_weigh hc ⟨_, _, h, hk⟩)

-- NetMapsModel.keepsMap(I)V
theorem dX7_keepsMap_0 : decode cX7_keepsMap 0 = .ok (.iconst 0, 1) := by decide +kernel
theorem dX7_keepsMap_1 : decode cX7_keepsMap 1 = .ok (.istore_n 2, 1) := by decide +kernel
theorem dX7_keepsMap_2 : decode cX7_keepsMap 2 = .ok (.iload_n 2, 1) := by decide +kernel
theorem dX7_keepsMap_3 : decode cX7_keepsMap 3 = .ok (.iload_n 1, 1) := by decide +kernel
theorem dX7_keepsMap_4 : decode cX7_keepsMap 4 = .ok (.if_icmp .ge 21, 3) := by decide +kernel
theorem dX7_keepsMap_7 : decode cX7_keepsMap 7 = .ok (.aload_n 0, 1) := by decide +kernel
theorem dX7_keepsMap_8 : decode cX7_keepsMap 8 = .ok (.getfield 38, 3) := by decide +kernel
theorem dX7_keepsMap_11 : decode cX7_keepsMap 11 = .ok (.iload_n 2, 1) := by decide +kernel
theorem dX7_keepsMap_12 : decode cX7_keepsMap 12 = .ok (.aload_n 0, 1) := by decide +kernel
theorem dX7_keepsMap_13 : decode cX7_keepsMap 13 = .ok (.getfield 29, 3) := by decide +kernel
theorem dX7_keepsMap_16 : decode cX7_keepsMap 16 = .ok (.iload_n 2, 1) := by decide +kernel
theorem dX7_keepsMap_17 : decode cX7_keepsMap 17 = .ok (.iaload, 1) := by decide +kernel
theorem dX7_keepsMap_18 : decode cX7_keepsMap 18 = .ok (.iastore, 1) := by decide +kernel
theorem dX7_keepsMap_19 : decode cX7_keepsMap 19 = .ok (.iinc 2 1, 3) := by decide +kernel
theorem dX7_keepsMap_22 : decode cX7_keepsMap 22 = .ok (.goto (-20), 3) := by decide +kernel
theorem dX7_keepsMap_25 : decode cX7_keepsMap 25 = .ok (.return_, 1) := by decide +kernel
noncomputable def f_X7_keepsMap_L2 (x0 : Nat) (x1 : Int32) (v : (Int32)) (σ : Hp) : Option (((Int32) ⊕ (Unit)) × Hp) := if x1 ≤ v then (some (Sum.inr (), σ)) else (gO (getR shM 7 x0 17 σ) fun v1 => gO (getR shM 7 x0 9 σ) fun v2 => gO (aldI shM 0 v2 v σ) fun v3 => gO (astI shM 0 v1 v v3 σ) fun σ4 => some (Sum.inl (v + 1), σ4))
set_option maxRecDepth 100000 in
set_option maxHeartbeats 4000000 in
theorem t_X7_keepsMap_L2 {l : Launch} {γ : Gm} {ad : Nat → Nat} {K : Option Value → Hp → Prop}  (hc : Cx l γ 1 3 ad shM RX7 cX7_keepsMap none K) {x0 : Nat} {x1 : Int32} {v : (Int32)} {σ : Hp} {KX : (Unit) → Hp → Prop} (h : wpO (wh (f_X7_keepsMap_L2 x0 x1) v σ) KX) (kx25 : ∀ (v : Unit) (σ : Hp), KX v σ → WW l γ 1 3 ad shM 25 [] [] σ) : WW l γ 1 3 ad shM 2 [(0, .ref (ad x0)), (1, .int x1), (2, .int v)] [] σ := by
  refine wh_W (P := fun v σ => WW l γ 1 3 ad shM 2 [(0, .ref (ad x0)), (1, .int x1), (2, .int v)] [] σ) (fun v σ h => ?_) h
  have kn : ∀ (v : (Int32)) (σ : Hp), WW l γ 1 3 ad shM 2 [(0, .ref (ad x0)), (1, .int x1), (2, .int v)] [] σ → WW l γ 1 3 ad shM 2 [(0, .ref (ad x0)), (1, .int x1), (2, .int v)] [] σ := fun _ _ h => h
  · unfold f_X7_keepsMap_L2 at h
    refine r_iload_n hc 2 rfl rfl dX7_keepsMap_2 ?_
    refine r_iload_n hc 1 rfl rfl dX7_keepsMap_3 ?_
    refine r_icmp_ge hc (tgt := 25) dX7_keepsMap_4 (by decide) (fun c => ?_) (fun c => ?_)
    · have h := wp_t c h
      refine r_sub [] (lv' := []) rfl ?_
      have h := wp_v h
      exact kx25 () _ h
    · have h := wp_f c h
      refine r_aload_n hc 0 rfl rfl dX7_keepsMap_7 ?_
      obtain ⟨v1, ev1, h⟩ := wp_g h
      refine r_getR hc ev1 fl_X7_38 rfl dX7_keepsMap_8 ?_
      refine r_iload_n hc 2 rfl rfl dX7_keepsMap_11 ?_
      refine r_aload_n hc 0 rfl rfl dX7_keepsMap_12 ?_
      obtain ⟨v2, ev2, h⟩ := wp_g h
      refine r_getR hc ev2 fl_X7_29 rfl dX7_keepsMap_13 ?_
      refine r_iload_n hc 2 rfl rfl dX7_keepsMap_16 ?_
      obtain ⟨v3, ev3, h⟩ := wp_g h
      refine r_iald hc ev3 dX7_keepsMap_17 ?_
      obtain ⟨σ4, eσ4, h⟩ := wp_g h
      refine r_iast hc eσ4 dX7_keepsMap_18 ?_
      refine r_iincE hc (j := 2) (w := 1) (lv' := [(2, .int (v + 1)), (0, .ref (ad x0)), (1, .int x1)]) rfl (by decide) rfl (by decide) rfl dX7_keepsMap_19 ?_
      refine r_goto hc (tgt := 2) dX7_keepsMap_22 (by decide) ?_
      refine r_sub [1, 2, 0] (lv' := [(0, .ref (ad x0)), (1, .int x1), (2, .int (v + 1))]) rfl ?_
      have h := wp_v h
      exact kn (v + 1) _ h
noncomputable def f_X7_keepsMap (x0 : Nat) (x1 : Int32) (σ : Hp) : Option (Unit × Hp) := bO (wh (f_X7_keepsMap_L2 x0 x1) 0 σ) fun y1 σ2 => (some ((), σ2))
set_option maxRecDepth 100000 in
set_option maxHeartbeats 4000000 in
theorem t_X7_keepsMap {l : Launch} {γ : Gm} {ad : Nat → Nat} {K : Option Value → Hp → Prop} (hc : Cx l γ 1 3 ad shM RX7 cX7_keepsMap none K) {x0 : Nat} {x1 : Int32} {σ : Hp} (h : wpO (f_X7_keepsMap x0 x1 σ) (KU K)) : WW l γ 1 3 ad shM 0 [(0, .ref (ad x0)), (1, .int x1)] [] σ := by
  unfold f_X7_keepsMap at h
  refine r_iconst hc (v := 0) (by decide) dX7_keepsMap_0 ?_
  refine r_istore_nE hc (i := 2) (lv' := [(2, .int 0), (0, .ref (ad x0)), (1, .int x1)]) rfl rfl (by decide) rfl dX7_keepsMap_1 ?_
  refine r_sub [1, 2, 0] (lv' := [(0, .ref (ad x0)), (1, .int x1), (2, .int 0)]) rfl ?_
  refine t_X7_keepsMap_L2 hc (wp_bb h) ?_
  · intro y1 σ2 h
    have h := wp_v h
    exact r_vret hc h dX7_keepsMap_25
theorem c_X7_keepsMap {l : Launch} {x0 : Nat} {x1 : Int32} {σ σ' : Hp} {r : Unit} (h : f_X7_keepsMap x0 x1 σ = some (r, σ')) : Mt l yX7_keepsMap cX7_keepsMap 3 none 1 shM (fun ad => [.ref (ad x0), .int x1]) σ (fun ad => none) σ' := mt_i (own := RX7) (by decide) rfl (fun _ => Nat.le_of_ble_eq_true rfl) (fun γ ad K hc hk => t_X7_keepsMap hc ⟨_, _, h, hk⟩)

-- NetMapsModel.behind(IIIII)I
theorem dX7_behind_0 : decode cX7_behind 0 = .ok (.iload_n 1, 1) := by decide +kernel
theorem dX7_behind_1 : decode cX7_behind 1 = .ok (.iload_n 2, 1) := by decide +kernel
theorem dX7_behind_2 : decode cX7_behind 2 = .ok (.invokestatic 243, 3) := by decide +kernel
theorem dX7_behind_5 : decode cX7_behind 5 = .ok (.ifCond .eq 20, 3) := by decide +kernel
theorem dX7_behind_8 : decode cX7_behind 8 = .ok (.iload_n 3, 1) := by decide +kernel
theorem dX7_behind_9 : decode cX7_behind 9 = .ok (.invokestatic 132, 3) := by decide +kernel
theorem dX7_behind_12 : decode cX7_behind 12 = .ok (.ifCond .eq 13, 3) := by decide +kernel
theorem dX7_behind_15 : decode cX7_behind 15 = .ok (.iload 4, 2) := by decide +kernel
theorem dX7_behind_17 : decode cX7_behind 17 = .ok (.ifCond .lt 8, 3) := by decide +kernel
theorem dX7_behind_20 : decode cX7_behind 20 = .ok (.iload 5, 2) := by decide +kernel
theorem dX7_behind_22 : decode cX7_behind 22 = .ok (.ifCond .ge 5, 3) := by decide +kernel
theorem dX7_behind_25 : decode cX7_behind 25 = .ok (.iconst (-1), 1) := by decide +kernel
theorem dX7_behind_26 : decode cX7_behind 26 = .ok (.ireturn, 1) := by decide +kernel
theorem dX7_behind_27 : decode cX7_behind 27 = .ok (.aload_n 0, 1) := by decide +kernel
theorem dX7_behind_28 : decode cX7_behind 28 = .ok (.iload_n 1, 1) := by decide +kernel
theorem dX7_behind_29 : decode cX7_behind 29 = .ok (.iload_n 2, 1) := by decide +kernel
theorem dX7_behind_30 : decode cX7_behind 30 = .ok (.invokevirtual 246, 3) := by decide +kernel
theorem dX7_behind_33 : decode cX7_behind 33 = .ok (.ifCond .ne 11, 3) := by decide +kernel
theorem dX7_behind_36 : decode cX7_behind 36 = .ok (.aload_n 0, 1) := by decide +kernel
theorem dX7_behind_37 : decode cX7_behind 37 = .ok (.iload_n 3, 1) := by decide +kernel
theorem dX7_behind_38 : decode cX7_behind 38 = .ok (.invokevirtual 85, 3) := by decide +kernel
theorem dX7_behind_41 : decode cX7_behind 41 = .ok (.ifCond .eq 6, 3) := by decide +kernel
theorem dX7_behind_44 : decode cX7_behind 44 = .ok (.bipush (-2), 2) := by decide +kernel
theorem dX7_behind_46 : decode cX7_behind 46 = .ok (.ireturn, 1) := by decide +kernel
theorem dX7_behind_47 : decode cX7_behind 47 = .ok (.aload_n 0, 1) := by decide +kernel
theorem dX7_behind_48 : decode cX7_behind 48 = .ok (.iload_n 1, 1) := by decide +kernel
theorem dX7_behind_49 : decode cX7_behind 49 = .ok (.iload_n 2, 1) := by decide +kernel
theorem dX7_behind_50 : decode cX7_behind 50 = .ok (.iload 4, 2) := by decide +kernel
theorem dX7_behind_52 : decode cX7_behind 52 = .ok (.iconst 0, 1) := by decide +kernel
theorem dX7_behind_53 : decode cX7_behind 53 = .ok (.invokevirtual 252, 3) := by decide +kernel
theorem dX7_behind_56 : decode cX7_behind 56 = .ok (.ifCond .ne 6, 3) := by decide +kernel
theorem dX7_behind_59 : decode cX7_behind 59 = .ok (.bipush (-3), 2) := by decide +kernel
theorem dX7_behind_61 : decode cX7_behind 61 = .ok (.ireturn, 1) := by decide +kernel
theorem dX7_behind_62 : decode cX7_behind 62 = .ok (.aload_n 0, 1) := by decide +kernel
theorem dX7_behind_63 : decode cX7_behind 63 = .ok (.aload_n 0, 1) := by decide +kernel
theorem dX7_behind_64 : decode cX7_behind 64 = .ok (.getfield 7, 3) := by decide +kernel
theorem dX7_behind_67 : decode cX7_behind 67 = .ok (.iload_n 1, 1) := by decide +kernel
theorem dX7_behind_68 : decode cX7_behind 68 = .ok (.iaload, 1) := by decide +kernel
theorem dX7_behind_69 : decode cX7_behind 69 = .ok (.invokevirtual 273, 3) := by decide +kernel
theorem dX7_behind_72 : decode cX7_behind 72 = .ok (.aload_n 0, 1) := by decide +kernel
theorem dX7_behind_73 : decode cX7_behind 73 = .ok (.iload_n 2, 1) := by decide +kernel
theorem dX7_behind_74 : decode cX7_behind 74 = .ok (.iload_n 3, 1) := by decide +kernel
theorem dX7_behind_75 : decode cX7_behind 75 = .ok (.iload 5, 2) := by decide +kernel
theorem dX7_behind_77 : decode cX7_behind 77 = .ok (.iconst 0, 1) := by decide +kernel
theorem dX7_behind_78 : decode cX7_behind 78 = .ok (.invokevirtual 252, 3) := by decide +kernel
theorem dX7_behind_81 : decode cX7_behind 81 = .ok (.ifCond .ne 6, 3) := by decide +kernel
theorem dX7_behind_84 : decode cX7_behind 84 = .ok (.bipush (-3), 2) := by decide +kernel
theorem dX7_behind_86 : decode cX7_behind 86 = .ok (.ireturn, 1) := by decide +kernel
theorem dX7_behind_87 : decode cX7_behind 87 = .ok (.iconst 0, 1) := by decide +kernel
theorem dX7_behind_88 : decode cX7_behind 88 = .ok (.istore 6, 2) := by decide +kernel
theorem dX7_behind_90 : decode cX7_behind 90 = .ok (.iload 6, 2) := by decide +kernel
theorem dX7_behind_92 : decode cX7_behind 92 = .ok (.aload_n 0, 1) := by decide +kernel
theorem dX7_behind_93 : decode cX7_behind 93 = .ok (.getfield 7, 3) := by decide +kernel
theorem dX7_behind_96 : decode cX7_behind 96 = .ok (.iload_n 1, 1) := by decide +kernel
theorem dX7_behind_97 : decode cX7_behind 97 = .ok (.iaload, 1) := by decide +kernel
theorem dX7_behind_98 : decode cX7_behind 98 = .ok (.if_icmp .ge 28, 3) := by decide +kernel
theorem dX7_behind_101 : decode cX7_behind 101 = .ok (.aload_n 0, 1) := by decide +kernel
theorem dX7_behind_102 : decode cX7_behind 102 = .ok (.getfield 38, 3) := by decide +kernel
theorem dX7_behind_105 : decode cX7_behind 105 = .ok (.iload 6, 2) := by decide +kernel
theorem dX7_behind_107 : decode cX7_behind 107 = .ok (.aload_n 0, 1) := by decide +kernel
theorem dX7_behind_108 : decode cX7_behind 108 = .ok (.getfield 29, 3) := by decide +kernel
theorem dX7_behind_111 : decode cX7_behind 111 = .ok (.aload_n 0, 1) := by decide +kernel
theorem dX7_behind_112 : decode cX7_behind 112 = .ok (.getfield 38, 3) := by decide +kernel
theorem dX7_behind_115 : decode cX7_behind 115 = .ok (.iload 6, 2) := by decide +kernel
theorem dX7_behind_117 : decode cX7_behind 117 = .ok (.iaload, 1) := by decide +kernel
theorem dX7_behind_118 : decode cX7_behind 118 = .ok (.iaload, 1) := by decide +kernel
theorem dX7_behind_119 : decode cX7_behind 119 = .ok (.iastore, 1) := by decide +kernel
theorem dX7_behind_120 : decode cX7_behind 120 = .ok (.iinc 6 1, 3) := by decide +kernel
theorem dX7_behind_123 : decode cX7_behind 123 = .ok (.goto (-33), 3) := by decide +kernel
theorem dX7_behind_126 : decode cX7_behind 126 = .ok (.aload_n 0, 1) := by decide +kernel
theorem dX7_behind_127 : decode cX7_behind 127 = .ok (.iload_n 1, 1) := by decide +kernel
theorem dX7_behind_128 : decode cX7_behind 128 = .ok (.iload_n 3, 1) := by decide +kernel
theorem dX7_behind_129 : decode cX7_behind 129 = .ok (.iconst 0, 1) := by decide +kernel
theorem dX7_behind_130 : decode cX7_behind 130 = .ok (.invokevirtual 237, 3) := by decide +kernel
theorem dX7_behind_133 : decode cX7_behind 133 = .ok (.iconst 0, 1) := by decide +kernel
theorem dX7_behind_134 : decode cX7_behind 134 = .ok (.istore 6, 2) := by decide +kernel
theorem dX7_behind_136 : decode cX7_behind 136 = .ok (.iconst 0, 1) := by decide +kernel
theorem dX7_behind_137 : decode cX7_behind 137 = .ok (.istore 7, 2) := by decide +kernel
theorem dX7_behind_139 : decode cX7_behind 139 = .ok (.iload 7, 2) := by decide +kernel
theorem dX7_behind_141 : decode cX7_behind 141 = .ok (.ifCond .ne 80, 3) := by decide +kernel
theorem dX7_behind_144 : decode cX7_behind 144 = .ok (.aload_n 0, 1) := by decide +kernel
theorem dX7_behind_145 : decode cX7_behind 145 = .ok (.invokevirtual 240, 3) := by decide +kernel
theorem dX7_behind_148 : decode cX7_behind 148 = .ok (.ifCond .eq 73, 3) := by decide +kernel
theorem dX7_behind_151 : decode cX7_behind 151 = .ok (.iconst 1, 1) := by decide +kernel
theorem dX7_behind_152 : decode cX7_behind 152 = .ok (.istore 7, 2) := by decide +kernel
theorem dX7_behind_154 : decode cX7_behind 154 = .ok (.iconst 0, 1) := by decide +kernel
theorem dX7_behind_155 : decode cX7_behind 155 = .ok (.istore 8, 2) := by decide +kernel
theorem dX7_behind_157 : decode cX7_behind 157 = .ok (.iload 8, 2) := by decide +kernel
theorem dX7_behind_159 : decode cX7_behind 159 = .ok (.aload_n 0, 1) := by decide +kernel
theorem dX7_behind_160 : decode cX7_behind 160 = .ok (.getfield 7, 3) := by decide +kernel
theorem dX7_behind_163 : decode cX7_behind 163 = .ok (.iload_n 1, 1) := by decide +kernel
theorem dX7_behind_164 : decode cX7_behind 164 = .ok (.iaload, 1) := by decide +kernel
theorem dX7_behind_165 : decode cX7_behind 165 = .ok (.if_icmp .ge 38, 3) := by decide +kernel
theorem dX7_behind_168 : decode cX7_behind 168 = .ok (.iload 7, 2) := by decide +kernel
theorem dX7_behind_170 : decode cX7_behind 170 = .ok (.ifCond .eq 24, 3) := by decide +kernel
theorem dX7_behind_173 : decode cX7_behind 173 = .ok (.aload_n 0, 1) := by decide +kernel
theorem dX7_behind_174 : decode cX7_behind 174 = .ok (.getfield 29, 3) := by decide +kernel
theorem dX7_behind_177 : decode cX7_behind 177 = .ok (.iload 8, 2) := by decide +kernel
theorem dX7_behind_179 : decode cX7_behind 179 = .ok (.iaload, 1) := by decide +kernel
theorem dX7_behind_180 : decode cX7_behind 180 = .ok (.aload_n 0, 1) := by decide +kernel
theorem dX7_behind_181 : decode cX7_behind 181 = .ok (.getfield 38, 3) := by decide +kernel
theorem dX7_behind_184 : decode cX7_behind 184 = .ok (.iload 8, 2) := by decide +kernel
theorem dX7_behind_186 : decode cX7_behind 186 = .ok (.iaload, 1) := by decide +kernel
theorem dX7_behind_187 : decode cX7_behind 187 = .ok (.if_icmp .ne 7, 3) := by decide +kernel
theorem dX7_behind_190 : decode cX7_behind 190 = .ok (.iconst 1, 1) := by decide +kernel
theorem dX7_behind_191 : decode cX7_behind 191 = .ok (.goto 4, 3) := by decide +kernel
theorem dX7_behind_194 : decode cX7_behind 194 = .ok (.iconst 0, 1) := by decide +kernel
theorem dX7_behind_195 : decode cX7_behind 195 = .ok (.istore 7, 2) := by decide +kernel
theorem dX7_behind_197 : decode cX7_behind 197 = .ok (.iinc 8 1, 3) := by decide +kernel
theorem dX7_behind_200 : decode cX7_behind 200 = .ok (.goto (-43), 3) := by decide +kernel
theorem dX7_behind_203 : decode cX7_behind 203 = .ok (.iload 6, 2) := by decide +kernel
theorem dX7_behind_205 : decode cX7_behind 205 = .ok (.iload 7, 2) := by decide +kernel
theorem dX7_behind_207 : decode cX7_behind 207 = .ok (.ifCond .eq 7, 3) := by decide +kernel
theorem dX7_behind_210 : decode cX7_behind 210 = .ok (.iconst 0, 1) := by decide +kernel
theorem dX7_behind_211 : decode cX7_behind 211 = .ok (.goto 4, 3) := by decide +kernel
theorem dX7_behind_214 : decode cX7_behind 214 = .ok (.iconst 1, 1) := by decide +kernel
theorem dX7_behind_215 : decode cX7_behind 215 = .ok (.iadd, 1) := by decide +kernel
theorem dX7_behind_216 : decode cX7_behind 216 = .ok (.istore 6, 2) := by decide +kernel
theorem dX7_behind_218 : decode cX7_behind 218 = .ok (.goto (-79), 3) := by decide +kernel
theorem dX7_behind_221 : decode cX7_behind 221 = .ok (.iload 6, 2) := by decide +kernel
theorem dX7_behind_223 : decode cX7_behind 223 = .ok (.ireturn, 1) := by decide +kernel
noncomputable def f_X7_behind_b25  (σ : Hp) : Option (Int32 × Hp) := some ((-1), σ)
set_option maxRecDepth 100000 in
set_option maxHeartbeats 4000000 in
theorem t_X7_behind_b25 {l : Launch} {γ : Gm} {ad : Nat → Nat} {K : Option Value → Hp → Prop} (hc : Cx l γ 6 9 ad shM RX7 cX7_behind (some .int) K)  {σ : Hp} (h : wpO (f_X7_behind_b25  σ) (KI K)) : WW l γ 6 9 ad shM 25 [] [] σ := by
  unfold f_X7_behind_b25 at h
  refine r_iconst hc (v := (-1)) (by decide) dX7_behind_25 ?_
  have h := wp_v h
  exact r_iret hc h dX7_behind_26
noncomputable def f_X7_behind_b44  (σ : Hp) : Option (Int32 × Hp) := some ((-2), σ)
set_option maxRecDepth 100000 in
set_option maxHeartbeats 4000000 in
theorem t_X7_behind_b44 {l : Launch} {γ : Gm} {ad : Nat → Nat} {K : Option Value → Hp → Prop} (hc : Cx l γ 6 9 ad shM RX7 cX7_behind (some .int) K)  {σ : Hp} (h : wpO (f_X7_behind_b44  σ) (KI K)) : WW l γ 6 9 ad shM 44 [] [] σ := by
  unfold f_X7_behind_b44 at h
  refine r_bipush hc (v := (-2)) (by decide) dX7_behind_44 ?_
  have h := wp_v h
  exact r_iret hc h dX7_behind_46
noncomputable def f_X7_behind_L90 (x0 : Nat) (x1 : Int32) (x3 : Int32) (v : (Int32)) (σ : Hp) : Option (((Int32) ⊕ (Unit)) × Hp) := gO (getR shM 7 x0 0 σ) fun v1 => gO (aldI shM 0 v1 x1 σ) fun v2 => if v2 ≤ v then (some (Sum.inr (), σ)) else (gO (getR shM 7 x0 17 σ) fun v3 => gO (getR shM 7 x0 9 σ) fun v4 => gO (getR shM 7 x0 17 σ) fun v5 => gO (aldI shM 0 v5 v σ) fun v6 => gO (aldI shM 0 v4 v6 σ) fun v7 => gO (astI shM 0 v3 v v7 σ) fun σ8 => some (Sum.inl (v + 1), σ8))
set_option maxRecDepth 100000 in
set_option maxHeartbeats 4000000 in
theorem t_X7_behind_L90 {l : Launch} {γ : Gm} {ad : Nat → Nat} {K : Option Value → Hp → Prop}  (hc : Cx l γ 6 9 ad shM RX7 cX7_behind (some .int) K) {x0 : Nat} {x1 : Int32} {x3 : Int32} {v : (Int32)} {σ : Hp} {KX : (Unit) → Hp → Prop} (h : wpO (wh (f_X7_behind_L90 x0 x1 x3) v σ) KX) (kx126 : ∀ (v : Unit) (σ : Hp), KX v σ → WW l γ 6 9 ad shM 126 [(0, .ref (ad x0)), (1, .int x1), (3, .int x3)] [] σ) : WW l γ 6 9 ad shM 90 [(0, .ref (ad x0)), (1, .int x1), (3, .int x3), (6, .int v)] [] σ := by
  refine wh_W (P := fun v σ => WW l γ 6 9 ad shM 90 [(0, .ref (ad x0)), (1, .int x1), (3, .int x3), (6, .int v)] [] σ) (fun v σ h => ?_) h
  have kn : ∀ (v : (Int32)) (σ : Hp), WW l γ 6 9 ad shM 90 [(0, .ref (ad x0)), (1, .int x1), (3, .int x3), (6, .int v)] [] σ → WW l γ 6 9 ad shM 90 [(0, .ref (ad x0)), (1, .int x1), (3, .int x3), (6, .int v)] [] σ := fun _ _ h => h
  · unfold f_X7_behind_L90 at h
    refine r_iload hc 3 rfl dX7_behind_90 ?_
    refine r_aload_n hc 0 rfl rfl dX7_behind_92 ?_
    obtain ⟨v1, ev1, h⟩ := wp_g h
    refine r_getR hc ev1 fl_X7_7 rfl dX7_behind_93 ?_
    refine r_iload_n hc 1 rfl rfl dX7_behind_96 ?_
    obtain ⟨v2, ev2, h⟩ := wp_g h
    refine r_iald hc ev2 dX7_behind_97 ?_
    refine r_icmp_ge hc (tgt := 126) dX7_behind_98 (by decide) (fun c => ?_) (fun c => ?_)
    · have h := wp_t c h
      refine r_sub [0, 1, 2] (lv' := [(0, .ref (ad x0)), (1, .int x1), (3, .int x3)]) rfl ?_
      have h := wp_v h
      exact kx126 () _ h
    · have h := wp_f c h
      refine r_aload_n hc 0 rfl rfl dX7_behind_101 ?_
      obtain ⟨v3, ev3, h⟩ := wp_g h
      refine r_getR hc ev3 fl_X7_38 rfl dX7_behind_102 ?_
      refine r_iload hc 3 rfl dX7_behind_105 ?_
      refine r_aload_n hc 0 rfl rfl dX7_behind_107 ?_
      obtain ⟨v4, ev4, h⟩ := wp_g h
      refine r_getR hc ev4 fl_X7_29 rfl dX7_behind_108 ?_
      refine r_aload_n hc 0 rfl rfl dX7_behind_111 ?_
      obtain ⟨v5, ev5, h⟩ := wp_g h
      refine r_getR hc ev5 fl_X7_38 rfl dX7_behind_112 ?_
      refine r_iload hc 3 rfl dX7_behind_115 ?_
      obtain ⟨v6, ev6, h⟩ := wp_g h
      refine r_iald hc ev6 dX7_behind_117 ?_
      obtain ⟨v7, ev7, h⟩ := wp_g h
      refine r_iald hc ev7 dX7_behind_118 ?_
      obtain ⟨σ8, eσ8, h⟩ := wp_g h
      refine r_iast hc eσ8 dX7_behind_119 ?_
      refine r_iincE hc (j := 3) (w := 1) (lv' := [(6, .int (v + 1)), (0, .ref (ad x0)), (1, .int x1), (3, .int x3)]) rfl (by decide) rfl (by decide) rfl dX7_behind_120 ?_
      refine r_goto hc (tgt := 90) dX7_behind_123 (by decide) ?_
      refine r_sub [1, 2, 3, 0] (lv' := [(0, .ref (ad x0)), (1, .int x1), (3, .int x3), (6, .int (v + 1))]) rfl ?_
      have h := wp_v h
      exact kn (v + 1) _ h
noncomputable def f_X7_behind_b195 (x0 : Nat) (x1 : Int32) (x6 : Int32) (x8 : Int32) (s0 : Int32) (σ : Hp) : Option (((Int32 × Int32) ⊕ (Int32)) × Hp) := some (Sum.inl (s0, (x8 + 1)), σ)
set_option maxRecDepth 100000 in
set_option maxHeartbeats 4000000 in
theorem t_X7_behind_b195 {l : Launch} {γ : Gm} {ad : Nat → Nat} {K : Option Value → Hp → Prop} (hc : Cx l γ 6 9 ad shM RX7 cX7_behind (some .int) K) {x0 : Nat} {x1 : Int32} {x6 : Int32} {x8 : Int32} {s0 : Int32}  {σ : Hp} {KL : ((Int32 × Int32) ⊕ (Int32)) → Hp → Prop} (h : wpO (f_X7_behind_b195 x0 x1 x6 x8 s0 σ) KL) (kn : ∀ (v : (Int32 × Int32)) (σ : Hp), KL (Sum.inl v) σ → WW l γ 6 9 ad shM 157 [(0, .ref (ad x0)), (1, .int x1), (6, .int x6), (7, .int v.1), (8, .int v.2)] [] σ) (kx203 : ∀ (v : Int32) (σ : Hp), KL (Sum.inr v) σ → WW l γ 6 9 ad shM 203 [(0, .ref (ad x0)), (1, .int x1), (6, .int x6), (7, .int v)] [] σ) : WW l γ 6 9 ad shM 195 [(0, .ref (ad x0)), (1, .int x1), (6, .int x6), (8, .int x8)] [.int s0] σ := by
  unfold f_X7_behind_b195 at h
  refine r_istoreE hc (i := 7) (lv' := [(7, .int s0), (0, .ref (ad x0)), (1, .int x1), (6, .int x6), (8, .int x8)]) rfl (by decide) rfl dX7_behind_195 ?_
  refine r_iincE hc (j := 4) (w := 1) (lv' := [(8, .int (x8 + 1)), (7, .int s0), (0, .ref (ad x0)), (1, .int x1), (6, .int x6)]) rfl (by decide) rfl (by decide) rfl dX7_behind_197 ?_
  refine r_goto hc (tgt := 157) dX7_behind_200 (by decide) ?_
  refine r_sub [2, 3, 4, 1, 0] (lv' := [(0, .ref (ad x0)), (1, .int x1), (6, .int x6), (7, .int s0), (8, .int (x8 + 1))]) rfl ?_
  have h := wp_v h
  exact kn (s0, (x8 + 1)) _ h
noncomputable def f_X7_behind_b194 (x0 : Nat) (x1 : Int32) (x6 : Int32) (x8 : Int32) (σ : Hp) : Option (((Int32 × Int32) ⊕ (Int32)) × Hp) := f_X7_behind_b195 x0 x1 x6 x8 0 σ
set_option maxRecDepth 100000 in
set_option maxHeartbeats 4000000 in
theorem t_X7_behind_b194 {l : Launch} {γ : Gm} {ad : Nat → Nat} {K : Option Value → Hp → Prop} (hc : Cx l γ 6 9 ad shM RX7 cX7_behind (some .int) K) {x0 : Nat} {x1 : Int32} {x6 : Int32} {x8 : Int32}  {σ : Hp} {KL : ((Int32 × Int32) ⊕ (Int32)) → Hp → Prop} (h : wpO (f_X7_behind_b194 x0 x1 x6 x8 σ) KL) (kn : ∀ (v : (Int32 × Int32)) (σ : Hp), KL (Sum.inl v) σ → WW l γ 6 9 ad shM 157 [(0, .ref (ad x0)), (1, .int x1), (6, .int x6), (7, .int v.1), (8, .int v.2)] [] σ) (kx203 : ∀ (v : Int32) (σ : Hp), KL (Sum.inr v) σ → WW l γ 6 9 ad shM 203 [(0, .ref (ad x0)), (1, .int x1), (6, .int x6), (7, .int v)] [] σ) : WW l γ 6 9 ad shM 194 [(0, .ref (ad x0)), (1, .int x1), (6, .int x6), (8, .int x8)] [] σ := by
  unfold f_X7_behind_b194 at h
  refine r_iconst hc (v := 0) (by decide) dX7_behind_194 ?_
  exact t_X7_behind_b195 hc h kn kx203
noncomputable def f_X7_behind_L157 (x0 : Nat) (x1 : Int32) (x6 : Int32) (v : (Int32 × Int32)) (σ : Hp) : Option (((Int32 × Int32) ⊕ (Int32)) × Hp) := gO (getR shM 7 x0 0 σ) fun v1 => gO (aldI shM 0 v1 x1 σ) fun v2 => if v2 ≤ v.2 then (some (Sum.inr v.1, σ)) else (if v.1 = 0 then (f_X7_behind_b194 x0 x1 x6 v.2 σ) else (gO (getR shM 7 x0 9 σ) fun v3 => gO (aldI shM 0 v3 v.2 σ) fun v4 => gO (getR shM 7 x0 17 σ) fun v5 => gO (aldI shM 0 v5 v.2 σ) fun v6 => if v4 = v6 then (f_X7_behind_b195 x0 x1 x6 v.2 1 σ) else (f_X7_behind_b194 x0 x1 x6 v.2 σ)))
set_option maxRecDepth 100000 in
set_option maxHeartbeats 4000000 in
theorem t_X7_behind_L157 {l : Launch} {γ : Gm} {ad : Nat → Nat} {K : Option Value → Hp → Prop}  (hc : Cx l γ 6 9 ad shM RX7 cX7_behind (some .int) K) {x0 : Nat} {x1 : Int32} {x6 : Int32} {v : (Int32 × Int32)} {σ : Hp} {KX : (Int32) → Hp → Prop} (h : wpO (wh (f_X7_behind_L157 x0 x1 x6) v σ) KX) (kx203 : ∀ (v : Int32) (σ : Hp), KX v σ → WW l γ 6 9 ad shM 203 [(0, .ref (ad x0)), (1, .int x1), (6, .int x6), (7, .int v)] [] σ) : WW l γ 6 9 ad shM 157 [(0, .ref (ad x0)), (1, .int x1), (6, .int x6), (7, .int v.1), (8, .int v.2)] [] σ := by
  refine wh_W (P := fun v σ => WW l γ 6 9 ad shM 157 [(0, .ref (ad x0)), (1, .int x1), (6, .int x6), (7, .int v.1), (8, .int v.2)] [] σ) (fun v σ h => ?_) h
  have kn : ∀ (v : (Int32 × Int32)) (σ : Hp), WW l γ 6 9 ad shM 157 [(0, .ref (ad x0)), (1, .int x1), (6, .int x6), (7, .int v.1), (8, .int v.2)] [] σ → WW l γ 6 9 ad shM 157 [(0, .ref (ad x0)), (1, .int x1), (6, .int x6), (7, .int v.1), (8, .int v.2)] [] σ := fun _ _ h => h
  · unfold f_X7_behind_L157 at h
    refine r_iload hc 4 rfl dX7_behind_157 ?_
    refine r_aload_n hc 0 rfl rfl dX7_behind_159 ?_
    obtain ⟨v1, ev1, h⟩ := wp_g h
    refine r_getR hc ev1 fl_X7_7 rfl dX7_behind_160 ?_
    refine r_iload_n hc 1 rfl rfl dX7_behind_163 ?_
    obtain ⟨v2, ev2, h⟩ := wp_g h
    refine r_iald hc ev2 dX7_behind_164 ?_
    refine r_icmp_ge hc (tgt := 203) dX7_behind_165 (by decide) (fun c => ?_) (fun c => ?_)
    · have h := wp_t c h
      refine r_sub [0, 1, 2, 3] (lv' := [(0, .ref (ad x0)), (1, .int x1), (6, .int x6), (7, .int v.1)]) rfl ?_
      have h := wp_v h
      exact kx203 v.1 _ h
    · have h := wp_f c h
      refine r_iload hc 3 rfl dX7_behind_168 ?_
      refine r_if_eq hc (tgt := 194) dX7_behind_170 (by decide) (fun c => ?_) (fun c => ?_)
      · have h := wp_t c h
        refine r_sub [0, 1, 2, 4] (lv' := [(0, .ref (ad x0)), (1, .int x1), (6, .int x6), (8, .int v.2)]) rfl ?_
        exact t_X7_behind_b194 hc h kn kx203
      · have h := wp_f c h
        refine r_aload_n hc 0 rfl rfl dX7_behind_173 ?_
        obtain ⟨v3, ev3, h⟩ := wp_g h
        refine r_getR hc ev3 fl_X7_29 rfl dX7_behind_174 ?_
        refine r_iload hc 4 rfl dX7_behind_177 ?_
        obtain ⟨v4, ev4, h⟩ := wp_g h
        refine r_iald hc ev4 dX7_behind_179 ?_
        refine r_aload_n hc 0 rfl rfl dX7_behind_180 ?_
        obtain ⟨v5, ev5, h⟩ := wp_g h
        refine r_getR hc ev5 fl_X7_38 rfl dX7_behind_181 ?_
        refine r_iload hc 4 rfl dX7_behind_184 ?_
        obtain ⟨v6, ev6, h⟩ := wp_g h
        refine r_iald hc ev6 dX7_behind_186 ?_
        refine r_icmp_ne hc (tgt := 194) dX7_behind_187 (by decide) (fun c => ?_) (fun c => ?_)
        · have h := wp_f c h
          refine r_sub [0, 1, 2, 4] (lv' := [(0, .ref (ad x0)), (1, .int x1), (6, .int x6), (8, .int v.2)]) rfl ?_
          exact t_X7_behind_b194 hc h kn kx203
        · have h := wp_t c h
          refine r_iconst hc (v := 1) (by decide) dX7_behind_190 ?_
          refine r_goto hc (tgt := 195) dX7_behind_191 (by decide) ?_
          refine r_sub [0, 1, 2, 4] (lv' := [(0, .ref (ad x0)), (1, .int x1), (6, .int x6), (8, .int v.2)]) rfl ?_
          exact t_X7_behind_b195 hc h kn kx203
noncomputable def f_X7_behind_b215 (x0 : Nat) (x1 : Int32) (x7 : Int32) (s0 : Int32) (s1 : Int32) (σ : Hp) : Option (((Int32 × Int32) ⊕ (Int32)) × Hp) := some (Sum.inl ((s0 + s1), x7), σ)
set_option maxRecDepth 100000 in
set_option maxHeartbeats 4000000 in
theorem t_X7_behind_b215 {l : Launch} {γ : Gm} {ad : Nat → Nat} {K : Option Value → Hp → Prop} (hc : Cx l γ 6 9 ad shM RX7 cX7_behind (some .int) K) {x0 : Nat} {x1 : Int32} {x7 : Int32} {s0 : Int32} {s1 : Int32}  {σ : Hp} {KL : ((Int32 × Int32) ⊕ (Int32)) → Hp → Prop} (h : wpO (f_X7_behind_b215 x0 x1 x7 s0 s1 σ) KL) (kn : ∀ (v : (Int32 × Int32)) (σ : Hp), KL (Sum.inl v) σ → WW l γ 6 9 ad shM 139 [(0, .ref (ad x0)), (1, .int x1), (6, .int v.1), (7, .int v.2)] [] σ) (kx221 : ∀ (v : Int32) (σ : Hp), KL (Sum.inr v) σ → WW l γ 6 9 ad shM 221 [(6, .int v)] [] σ) : WW l γ 6 9 ad shM 215 [(0, .ref (ad x0)), (1, .int x1), (7, .int x7)] [.int s1, .int s0] σ := by
  unfold f_X7_behind_b215 at h
  refine r_iadd hc dX7_behind_215 ?_
  refine r_istoreE hc (i := 6) (lv' := [(6, .int (s0 + s1)), (0, .ref (ad x0)), (1, .int x1), (7, .int x7)]) rfl (by decide) rfl dX7_behind_216 ?_
  refine r_goto hc (tgt := 139) dX7_behind_218 (by decide) ?_
  refine r_sub [1, 2, 0, 3] (lv' := [(0, .ref (ad x0)), (1, .int x1), (6, .int (s0 + s1)), (7, .int x7)]) rfl ?_
  have h := wp_v h
  exact kn ((s0 + s1), x7) _ h
noncomputable def f_X7_behind_L139 (x0 : Nat) (x1 : Int32) (v : (Int32 × Int32)) (σ : Hp) : Option (((Int32 × Int32) ⊕ (Int32)) × Hp) := if v.2 = 0 then (gO (chk shM x0 7) fun _ => bO (f_X7_next x0 σ) fun r1 σ2 => if r1 = 0 then (some (Sum.inr v.1, σ2)) else (bO (wh (f_X7_behind_L157 x0 x1 v.1) (1, 0) σ2) fun y4 σ5 => (if y4 = 0 then (f_X7_behind_b215 x0 x1 y4 v.1 1 σ5) else (f_X7_behind_b215 x0 x1 y4 v.1 0 σ5)))) else (some (Sum.inr v.1, σ))
set_option maxRecDepth 100000 in
set_option maxHeartbeats 4000000 in
theorem t_X7_behind_L139 {l : Launch} {γ : Gm} {ad : Nat → Nat} {K : Option Value → Hp → Prop}  (hc : Cx l γ 6 9 ad shM RX7 cX7_behind (some .int) K) {x0 : Nat} {x1 : Int32} {v : (Int32 × Int32)} {σ : Hp} {KX : (Int32) → Hp → Prop} (h : wpO (wh (f_X7_behind_L139 x0 x1) v σ) KX) (kx221 : ∀ (v : Int32) (σ : Hp), KX v σ → WW l γ 6 9 ad shM 221 [(6, .int v)] [] σ) : WW l γ 6 9 ad shM 139 [(0, .ref (ad x0)), (1, .int x1), (6, .int v.1), (7, .int v.2)] [] σ := by
  refine wh_W (P := fun v σ => WW l γ 6 9 ad shM 139 [(0, .ref (ad x0)), (1, .int x1), (6, .int v.1), (7, .int v.2)] [] σ) (fun v σ h => ?_) h
  have kn : ∀ (v : (Int32 × Int32)) (σ : Hp), WW l γ 6 9 ad shM 139 [(0, .ref (ad x0)), (1, .int x1), (6, .int v.1), (7, .int v.2)] [] σ → WW l γ 6 9 ad shM 139 [(0, .ref (ad x0)), (1, .int x1), (6, .int v.1), (7, .int v.2)] [] σ := fun _ _ h => h
  · unfold f_X7_behind_L139 at h
    refine r_iload hc 3 rfl dX7_behind_139 ?_
    refine r_if_ne hc (tgt := 221) dX7_behind_141 (by decide) (fun c => ?_) (fun c => ?_)
    · have h := wp_f c h
      refine r_sub [2] (lv' := [(6, .int v.1)]) rfl ?_
      have h := wp_v h
      exact kx221 v.1 _ h
    · have h := wp_t c h
      refine r_aload_n hc 0 rfl rfl dX7_behind_144 ?_
      obtain ⟨_, ek3, h⟩ := wp_g h
      obtain ⟨r1, σ2, er1, h⟩ := wp_b h
      refine r_callV hc (k0 := x0) mv_X7_next ml_X7_240 (c_X7_next er1) (chk_of ek3) cls_7.1 rfl rfl rfl (by decide) rfl (Nat.le_of_ble_eq_true rfl) dX7_behind_145 ?_
      refine r_if_eq hc (tgt := 221) dX7_behind_148 (by decide) (fun c => ?_) (fun c => ?_)
      · have h := wp_t c h
        refine r_sub [2] (lv' := [(6, .int v.1)]) rfl ?_
        have h := wp_v h
        exact kx221 v.1 _ h
      · have h := wp_f c h
        refine r_iconst hc (v := 1) (by decide) dX7_behind_151 ?_
        refine r_istoreE hc (i := 7) (lv' := [(7, .int 1), (0, .ref (ad x0)), (1, .int x1), (6, .int v.1)]) rfl (by decide) rfl dX7_behind_152 ?_
        refine r_iconst hc (v := 0) (by decide) dX7_behind_154 ?_
        refine r_istoreE hc (i := 8) (lv' := [(8, .int 0), (7, .int 1), (0, .ref (ad x0)), (1, .int x1), (6, .int v.1)]) rfl (by decide) rfl dX7_behind_155 ?_
        refine r_sub [2, 3, 4, 1, 0] (lv' := [(0, .ref (ad x0)), (1, .int x1), (6, .int v.1), (7, .int 1), (8, .int 0)]) rfl ?_
        refine t_X7_behind_L157 hc (wp_bb h) ?_
        · intro y4 σ5 h
          refine r_iload hc 2 rfl dX7_behind_203 ?_
          refine r_iload hc 3 rfl dX7_behind_205 ?_
          refine r_if_eq hc (tgt := 214) dX7_behind_207 (by decide) (fun c => ?_) (fun c => ?_)
          · have h := wp_t c h
            refine r_iconst hc (v := 1) (by decide) dX7_behind_214 ?_
            refine r_sub [0, 1, 3] (lv' := [(0, .ref (ad x0)), (1, .int x1), (7, .int y4)]) rfl ?_
            exact t_X7_behind_b215 hc h kn kx221
          · have h := wp_f c h
            refine r_iconst hc (v := 0) (by decide) dX7_behind_210 ?_
            refine r_goto hc (tgt := 215) dX7_behind_211 (by decide) ?_
            refine r_sub [0, 1, 3] (lv' := [(0, .ref (ad x0)), (1, .int x1), (7, .int y4)]) rfl ?_
            exact t_X7_behind_b215 hc h kn kx221
noncomputable def f_X7_behind_b221 (x6 : Int32) (σ : Hp) : Option (Int32 × Hp) := some (x6, σ)
set_option maxRecDepth 100000 in
set_option maxHeartbeats 4000000 in
theorem t_X7_behind_b221 {l : Launch} {γ : Gm} {ad : Nat → Nat} {K : Option Value → Hp → Prop} (hc : Cx l γ 6 9 ad shM RX7 cX7_behind (some .int) K) {x6 : Int32} {σ : Hp} (h : wpO (f_X7_behind_b221 x6 σ) (KI K)) : WW l γ 6 9 ad shM 221 [(6, .int x6)] [] σ := by
  unfold f_X7_behind_b221 at h
  refine r_iload hc 0 rfl dX7_behind_221 ?_
  have h := wp_v h
  exact r_iret hc h dX7_behind_223
noncomputable def f_X7_behind (x0 : Nat) (x1 : Int32) (x2 : Int32) (x3 : Int32) (x4 : Int32) (x5 : Int32) (σ : Hp) : Option (Int32 × Hp) := bO (f_X7_areDrawers x1 x2 σ) fun r1 σ2 => if r1 = 0 then (f_X7_behind_b25  σ2) else (bO (f_X7_isDrawer x3 σ2) fun r3 σ4 => if r3 = 0 then (f_X7_behind_b25  σ4) else (if x4 < 0 then (f_X7_behind_b25  σ4) else (if 0 ≤ x5 then (gO (chk shM x0 7) fun _ => bO (f_X7_isOneEmpty x0 x1 x2 σ4) fun r5 σ6 => if r5 = 0 then (gO (chk shM x0 7) fun _ => bO (f_X7_isEmpty x0 x3 σ6) fun r8 σ9 => if r8 = 0 then (gO (chk shM x0 7) fun _ => bO (f_X7_stands x0 x1 x2 x4 0 σ9) fun r11 σ12 => if r11 = 0 then (some ((-3), σ12)) else (gO (getR shM 7 x0 0 σ12) fun v14 => gO (aldI shM 0 v14 x1 σ12) fun v15 => gO (chk shM x0 7) fun _ => bO (f_X7_keepsMap x0 v15 σ12) fun _ σ17 => gO (chk shM x0 7) fun _ => bO (f_X7_stands x0 x2 x3 x5 0 σ17) fun r19 σ20 => if r19 = 0 then (some ((-3), σ20)) else (bO (wh (f_X7_behind_L90 x0 x1 x3) 0 σ20) fun y22 σ23 => (gO (chk shM x0 7) fun _ => bO (f_X7_starts x0 x1 x3 0 σ23) fun _ σ25 => bO (wh (f_X7_behind_L139 x0 x1) (0, 0) σ25) fun y27 σ28 => (f_X7_behind_b221 y27 σ28))))) else (f_X7_behind_b44  σ9)) else (f_X7_behind_b44  σ6)) else (f_X7_behind_b25  σ4))))
set_option maxRecDepth 100000 in
set_option maxHeartbeats 4000000 in
theorem t_X7_behind {l : Launch} {γ : Gm} {ad : Nat → Nat} {K : Option Value → Hp → Prop} (hc : Cx l γ 6 9 ad shM RX7 cX7_behind (some .int) K) {x0 : Nat} {x1 : Int32} {x2 : Int32} {x3 : Int32} {x4 : Int32} {x5 : Int32} {σ : Hp} (h : wpO (f_X7_behind x0 x1 x2 x3 x4 x5 σ) (KI K)) : WW l γ 6 9 ad shM 0 [(0, .ref (ad x0)), (1, .int x1), (2, .int x2), (3, .int x3), (4, .int x4), (5, .int x5)] [] σ := by
  unfold f_X7_behind at h
  refine r_iload_n hc 1 rfl rfl dX7_behind_0 ?_
  refine r_iload_n hc 2 rfl rfl dX7_behind_1 ?_
  obtain ⟨r1, σ2, er1, h⟩ := wp_b h
  refine r_callS hc ms_X7_areDrawers ml_X7_243 (c_X7_areDrawers er1) rfl rfl (by decide) rfl (Nat.le_of_ble_eq_true rfl) dX7_behind_2 ?_
  refine r_if_eq hc (tgt := 25) dX7_behind_5 (by decide) (fun c => ?_) (fun c => ?_)
  · have h := wp_t c h
    refine r_sub [] (lv' := []) rfl ?_
    exact t_X7_behind_b25 hc h
  · have h := wp_f c h
    refine r_iload_n hc 3 rfl rfl dX7_behind_8 ?_
    obtain ⟨r3, σ4, er3, h⟩ := wp_b h
    refine r_callS hc ms_X7_isDrawer ml_X7_132 (c_X7_isDrawer er3) rfl rfl (by decide) rfl (Nat.le_of_ble_eq_true rfl) dX7_behind_9 ?_
    refine r_if_eq hc (tgt := 25) dX7_behind_12 (by decide) (fun c => ?_) (fun c => ?_)
    · have h := wp_t c h
      refine r_sub [] (lv' := []) rfl ?_
      exact t_X7_behind_b25 hc h
    · have h := wp_f c h
      refine r_iload hc 4 rfl dX7_behind_15 ?_
      refine r_if_lt hc (tgt := 25) dX7_behind_17 (by decide) (fun c => ?_) (fun c => ?_)
      · have h := wp_t c h
        refine r_sub [] (lv' := []) rfl ?_
        exact t_X7_behind_b25 hc h
      · have h := wp_f c h
        refine r_iload hc 5 rfl dX7_behind_20 ?_
        refine r_if_ge hc (tgt := 27) dX7_behind_22 (by decide) (fun c => ?_) (fun c => ?_)
        · have h := wp_t c h
          refine r_aload_n hc 0 rfl rfl dX7_behind_27 ?_
          refine r_iload_n hc 1 rfl rfl dX7_behind_28 ?_
          refine r_iload_n hc 2 rfl rfl dX7_behind_29 ?_
          obtain ⟨_, ek7, h⟩ := wp_g h
          obtain ⟨r5, σ6, er5, h⟩ := wp_b h
          refine r_callV hc (k0 := x0) mv_X7_isOneEmpty ml_X7_246 (c_X7_isOneEmpty er5) (chk_of ek7) cls_7.1 rfl rfl rfl (by decide) rfl (Nat.le_of_ble_eq_true rfl) dX7_behind_30 ?_
          refine r_if_ne hc (tgt := 44) dX7_behind_33 (by decide) (fun c => ?_) (fun c => ?_)
          · have h := wp_f c h
            refine r_sub [] (lv' := []) rfl ?_
            exact t_X7_behind_b44 hc h
          · have h := wp_t c h
            refine r_aload_n hc 0 rfl rfl dX7_behind_36 ?_
            refine r_iload_n hc 3 rfl rfl dX7_behind_37 ?_
            obtain ⟨_, ek10, h⟩ := wp_g h
            obtain ⟨r8, σ9, er8, h⟩ := wp_b h
            refine r_callV hc (k0 := x0) mv_X7_isEmpty ml_X7_85 (c_X7_isEmpty er8) (chk_of ek10) cls_7.1 rfl rfl rfl (by decide) rfl (Nat.le_of_ble_eq_true rfl) dX7_behind_38 ?_
            refine r_if_eq hc (tgt := 47) dX7_behind_41 (by decide) (fun c => ?_) (fun c => ?_)
            · have h := wp_t c h
              refine r_aload_n hc 0 rfl rfl dX7_behind_47 ?_
              refine r_iload_n hc 1 rfl rfl dX7_behind_48 ?_
              refine r_iload_n hc 2 rfl rfl dX7_behind_49 ?_
              refine r_iload hc 4 rfl dX7_behind_50 ?_
              refine r_iconst hc (v := 0) (by decide) dX7_behind_52 ?_
              obtain ⟨_, ek13, h⟩ := wp_g h
              obtain ⟨r11, σ12, er11, h⟩ := wp_b h
              refine r_callV hc (k0 := x0) mv_X7_stands ml_X7_252 (c_X7_stands er11) (chk_of ek13) cls_7.1 rfl rfl rfl (by decide) rfl (Nat.le_of_ble_eq_true rfl) dX7_behind_53 ?_
              refine r_if_ne hc (tgt := 62) dX7_behind_56 (by decide) (fun c => ?_) (fun c => ?_)
              · have h := wp_f c h
                refine r_aload_n hc 0 rfl rfl dX7_behind_62 ?_
                refine r_aload_n hc 0 rfl rfl dX7_behind_63 ?_
                obtain ⟨v14, ev14, h⟩ := wp_g h
                refine r_getR hc ev14 fl_X7_7 rfl dX7_behind_64 ?_
                refine r_iload_n hc 1 rfl rfl dX7_behind_67 ?_
                obtain ⟨v15, ev15, h⟩ := wp_g h
                refine r_iald hc ev15 dX7_behind_68 ?_
                obtain ⟨_, ek18, h⟩ := wp_g h
                obtain ⟨_, σ17, er16, h⟩ := wp_b h
                refine r_callV hc (k0 := x0) mv_X7_keepsMap ml_X7_273 (c_X7_keepsMap er16) (chk_of ek18) cls_7.1 rfl rfl rfl (by decide) rfl (Nat.le_of_ble_eq_true rfl) dX7_behind_69 ?_
                refine r_aload_n hc 0 rfl rfl dX7_behind_72 ?_
                refine r_iload_n hc 2 rfl rfl dX7_behind_73 ?_
                refine r_iload_n hc 3 rfl rfl dX7_behind_74 ?_
                refine r_iload hc 5 rfl dX7_behind_75 ?_
                refine r_iconst hc (v := 0) (by decide) dX7_behind_77 ?_
                obtain ⟨_, ek21, h⟩ := wp_g h
                obtain ⟨r19, σ20, er19, h⟩ := wp_b h
                refine r_callV hc (k0 := x0) mv_X7_stands ml_X7_252 (c_X7_stands er19) (chk_of ek21) cls_7.1 rfl rfl rfl (by decide) rfl (Nat.le_of_ble_eq_true rfl) dX7_behind_78 ?_
                refine r_if_ne hc (tgt := 87) dX7_behind_81 (by decide) (fun c => ?_) (fun c => ?_)
                · have h := wp_f c h
                  refine r_iconst hc (v := 0) (by decide) dX7_behind_87 ?_
                  refine r_istoreE hc (i := 6) (lv' := [(6, .int 0), (0, .ref (ad x0)), (1, .int x1), (2, .int x2), (3, .int x3), (4, .int x4), (5, .int x5)]) rfl (by decide) rfl dX7_behind_88 ?_
                  refine r_sub [1, 2, 4, 0] (lv' := [(0, .ref (ad x0)), (1, .int x1), (3, .int x3), (6, .int 0)]) rfl ?_
                  refine t_X7_behind_L90 hc (wp_bb h) ?_
                  · intro y22 σ23 h
                    refine r_aload_n hc 0 rfl rfl dX7_behind_126 ?_
                    refine r_iload_n hc 1 rfl rfl dX7_behind_127 ?_
                    refine r_iload_n hc 2 rfl rfl dX7_behind_128 ?_
                    refine r_iconst hc (v := 0) (by decide) dX7_behind_129 ?_
                    obtain ⟨_, ek26, h⟩ := wp_g h
                    obtain ⟨_, σ25, er24, h⟩ := wp_b h
                    refine r_callV hc (k0 := x0) mv_X7_starts ml_X7_237 (c_X7_starts er24) (chk_of ek26) cls_7.1 rfl rfl rfl (by decide) rfl (Nat.le_of_ble_eq_true rfl) dX7_behind_130 ?_
                    refine r_iconst hc (v := 0) (by decide) dX7_behind_133 ?_
                    refine r_istoreE hc (i := 6) (lv' := [(6, .int 0), (0, .ref (ad x0)), (1, .int x1), (3, .int x3)]) rfl (by decide) rfl dX7_behind_134 ?_
                    refine r_iconst hc (v := 0) (by decide) dX7_behind_136 ?_
                    refine r_istoreE hc (i := 7) (lv' := [(7, .int 0), (6, .int 0), (0, .ref (ad x0)), (1, .int x1), (3, .int x3)]) rfl (by decide) rfl dX7_behind_137 ?_
                    refine r_sub [2, 3, 1, 0] (lv' := [(0, .ref (ad x0)), (1, .int x1), (6, .int 0), (7, .int 0)]) rfl ?_
                    refine t_X7_behind_L139 hc (wp_bb h) ?_
                    · intro y27 σ28 h
                      exact t_X7_behind_b221 hc h
                · have h := wp_t c h
                  refine r_bipush hc (v := (-3)) (by decide) dX7_behind_84 ?_
                  have h := wp_v h
                  exact r_iret hc h dX7_behind_86
              · have h := wp_t c h
                refine r_bipush hc (v := (-3)) (by decide) dX7_behind_59 ?_
                have h := wp_v h
                exact r_iret hc h dX7_behind_61
            · have h := wp_f c h
              refine r_sub [] (lv' := []) rfl ?_
              exact t_X7_behind_b44 hc h
        · have h := wp_f c h
          refine r_sub [] (lv' := []) rfl ?_
          exact t_X7_behind_b25 hc h
theorem c_X7_behind {l : Launch} {x0 : Nat} {x1 : Int32} {x2 : Int32} {x3 : Int32} {x4 : Int32} {x5 : Int32} {σ σ' : Hp} {r : Int32} (h : f_X7_behind x0 x1 x2 x3 x4 x5 σ = some (r, σ')) : Mt l yX7_behind cX7_behind 9 (some .int) 6 shM (fun ad => [.ref (ad x0), .int x1, .int x2, .int x3, .int x4, .int x5]) σ (fun ad => some (.int r)) σ' := mt_i (own := RX7) (by decide) rfl (fun _ => Nat.le_of_ble_eq_true rfl) (fun γ ad K hc hk => t_X7_behind hc ⟨_, _, h, hk⟩)

-- NetMapsModel.core(II)I
theorem dX7_core_0 : decode cX7_core 0 = .ok (.iload_n 1, 1) := by decide +kernel
theorem dX7_core_1 : decode cX7_core 1 = .ok (.invokestatic 132, 3) := by decide +kernel
theorem dX7_core_4 : decode cX7_core 4 = .ok (.ifCond .eq 12, 3) := by decide +kernel
theorem dX7_core_7 : decode cX7_core 7 = .ok (.iload_n 2, 1) := by decide +kernel
theorem dX7_core_8 : decode cX7_core 8 = .ok (.iconst 0, 1) := by decide +kernel
theorem dX7_core_9 : decode cX7_core 9 = .ok (.iconst 3, 1) := by decide +kernel
theorem dX7_core_10 : decode cX7_core 10 = .ok (.invokestatic 81, 3) := by decide +kernel
theorem dX7_core_13 : decode cX7_core 13 = .ok (.ifCond .ne 5, 3) := by decide +kernel
theorem dX7_core_16 : decode cX7_core 16 = .ok (.iconst (-1), 1) := by decide +kernel
theorem dX7_core_17 : decode cX7_core 17 = .ok (.ireturn, 1) := by decide +kernel
theorem dX7_core_18 : decode cX7_core 18 = .ok (.aload_n 0, 1) := by decide +kernel
theorem dX7_core_19 : decode cX7_core 19 = .ok (.iload_n 1, 1) := by decide +kernel
theorem dX7_core_20 : decode cX7_core 20 = .ok (.invokevirtual 85, 3) := by decide +kernel
theorem dX7_core_23 : decode cX7_core 23 = .ok (.ifCond .eq 6, 3) := by decide +kernel
theorem dX7_core_26 : decode cX7_core 26 = .ok (.bipush (-2), 2) := by decide +kernel
theorem dX7_core_28 : decode cX7_core 28 = .ok (.ireturn, 1) := by decide +kernel
theorem dX7_core_29 : decode cX7_core 29 = .ok (.aload_n 0, 1) := by decide +kernel
theorem dX7_core_30 : decode cX7_core 30 = .ok (.iload_n 1, 1) := by decide +kernel
theorem dX7_core_31 : decode cX7_core 31 = .ok (.invokevirtual 197, 3) := by decide +kernel
theorem dX7_core_34 : decode cX7_core 34 = .ok (.iconst 0, 1) := by decide +kernel
theorem dX7_core_35 : decode cX7_core 35 = .ok (.istore_n 3, 1) := by decide +kernel
theorem dX7_core_36 : decode cX7_core 36 = .ok (.iconst 0, 1) := by decide +kernel
theorem dX7_core_37 : decode cX7_core 37 = .ok (.istore 4, 2) := by decide +kernel
theorem dX7_core_39 : decode cX7_core 39 = .ok (.iload 4, 2) := by decide +kernel
theorem dX7_core_41 : decode cX7_core 41 = .ok (.sipush 128, 3) := by decide +kernel
theorem dX7_core_44 : decode cX7_core 44 = .ok (.if_icmp .ge 27, 3) := by decide +kernel
theorem dX7_core_47 : decode cX7_core 47 = .ok (.iload_n 3, 1) := by decide +kernel
theorem dX7_core_48 : decode cX7_core 48 = .ok (.aload_n 0, 1) := by decide +kernel
theorem dX7_core_49 : decode cX7_core 49 = .ok (.getfield 41, 3) := by decide +kernel
theorem dX7_core_52 : decode cX7_core 52 = .ok (.iload 4, 2) := by decide +kernel
theorem dX7_core_54 : decode cX7_core 54 = .ok (.baload, 1) := by decide +kernel
theorem dX7_core_55 : decode cX7_core 55 = .ok (.ifCond .eq 7, 3) := by decide +kernel
theorem dX7_core_58 : decode cX7_core 58 = .ok (.iconst 1, 1) := by decide +kernel
theorem dX7_core_59 : decode cX7_core 59 = .ok (.goto 4, 3) := by decide +kernel
theorem dX7_core_62 : decode cX7_core 62 = .ok (.iconst 0, 1) := by decide +kernel
theorem dX7_core_63 : decode cX7_core 63 = .ok (.iadd, 1) := by decide +kernel
theorem dX7_core_64 : decode cX7_core 64 = .ok (.istore_n 3, 1) := by decide +kernel
theorem dX7_core_65 : decode cX7_core 65 = .ok (.iinc 4 1, 3) := by decide +kernel
theorem dX7_core_68 : decode cX7_core 68 = .ok (.goto (-29), 3) := by decide +kernel
theorem dX7_core_71 : decode cX7_core 71 = .ok (.iload_n 2, 1) := by decide +kernel
theorem dX7_core_72 : decode cX7_core 72 = .ok (.ifCond .ne 10, 3) := by decide +kernel
theorem dX7_core_75 : decode cX7_core 75 = .ok (.aload_n 0, 1) := by decide +kernel
theorem dX7_core_76 : decode cX7_core 76 = .ok (.getfield 276, 3) := by decide +kernel
theorem dX7_core_79 : decode cX7_core 79 = .ok (.goto 31, 3) := by decide +kernel
theorem dX7_core_82 : decode cX7_core 82 = .ok (.iload_n 2, 1) := by decide +kernel
theorem dX7_core_83 : decode cX7_core 83 = .ok (.iconst 1, 1) := by decide +kernel
theorem dX7_core_84 : decode cX7_core 84 = .ok (.if_icmp .ne 10, 3) := by decide +kernel
theorem dX7_core_87 : decode cX7_core 87 = .ok (.aload_n 0, 1) := by decide +kernel
theorem dX7_core_88 : decode cX7_core 88 = .ok (.getfield 200, 3) := by decide +kernel
theorem dX7_core_91 : decode cX7_core 91 = .ok (.goto 19, 3) := by decide +kernel
theorem dX7_core_94 : decode cX7_core 94 = .ok (.iload_n 2, 1) := by decide +kernel
theorem dX7_core_95 : decode cX7_core 95 = .ok (.iconst 2, 1) := by decide +kernel
theorem dX7_core_96 : decode cX7_core 96 = .ok (.if_icmp .ne 13, 3) := by decide +kernel
theorem dX7_core_99 : decode cX7_core 99 = .ok (.aload_n 0, 1) := by decide +kernel
theorem dX7_core_100 : decode cX7_core 100 = .ok (.getfield 200, 3) := by decide +kernel
theorem dX7_core_103 : decode cX7_core 103 = .ok (.invokestatic 93, 3) := by decide +kernel
theorem dX7_core_106 : decode cX7_core 106 = .ok (.goto 4, 3) := by decide +kernel
theorem dX7_core_109 : decode cX7_core 109 = .ok (.iload_n 3, 1) := by decide +kernel
theorem dX7_core_110 : decode cX7_core 110 = .ok (.ireturn, 1) := by decide +kernel
noncomputable def f_X7_core_b16  (σ : Hp) : Option (Int32 × Hp) := some ((-1), σ)
set_option maxRecDepth 100000 in
set_option maxHeartbeats 4000000 in
theorem t_X7_core_b16 {l : Launch} {γ : Gm} {ad : Nat → Nat} {K : Option Value → Hp → Prop} (hc : Cx l γ 6 5 ad shM RX7 cX7_core (some .int) K)  {σ : Hp} (h : wpO (f_X7_core_b16  σ) (KI K)) : WW l γ 6 5 ad shM 16 [] [] σ := by
  unfold f_X7_core_b16 at h
  refine r_iconst hc (v := (-1)) (by decide) dX7_core_16 ?_
  have h := wp_v h
  exact r_iret hc h dX7_core_17
noncomputable def f_X7_core_b63 (x0 : Nat) (x2 : Int32) (x4 : Int32) (s0 : Int32) (s1 : Int32) (σ : Hp) : Option (((Int32 × Int32) ⊕ (Int32)) × Hp) := some (Sum.inl ((s0 + s1), (x4 + 1)), σ)
set_option maxRecDepth 100000 in
set_option maxHeartbeats 4000000 in
theorem t_X7_core_b63 {l : Launch} {γ : Gm} {ad : Nat → Nat} {K : Option Value → Hp → Prop} (hc : Cx l γ 6 5 ad shM RX7 cX7_core (some .int) K) {x0 : Nat} {x2 : Int32} {x4 : Int32} {s0 : Int32} {s1 : Int32}  {σ : Hp} {KL : ((Int32 × Int32) ⊕ (Int32)) → Hp → Prop} (h : wpO (f_X7_core_b63 x0 x2 x4 s0 s1 σ) KL) (kn : ∀ (v : (Int32 × Int32)) (σ : Hp), KL (Sum.inl v) σ → WW l γ 6 5 ad shM 39 [(0, .ref (ad x0)), (2, .int x2), (3, .int v.1), (4, .int v.2)] [] σ) (kx71 : ∀ (v : Int32) (σ : Hp), KL (Sum.inr v) σ → WW l γ 6 5 ad shM 71 [(0, .ref (ad x0)), (2, .int x2), (3, .int v)] [] σ) : WW l γ 6 5 ad shM 63 [(0, .ref (ad x0)), (2, .int x2), (4, .int x4)] [.int s1, .int s0] σ := by
  unfold f_X7_core_b63 at h
  refine r_iadd hc dX7_core_63 ?_
  refine r_istore_nE hc (i := 3) (lv' := [(3, .int (s0 + s1)), (0, .ref (ad x0)), (2, .int x2), (4, .int x4)]) rfl rfl (by decide) rfl dX7_core_64 ?_
  refine r_iincE hc (j := 3) (w := 1) (lv' := [(4, .int (x4 + 1)), (3, .int (s0 + s1)), (0, .ref (ad x0)), (2, .int x2)]) rfl (by decide) rfl (by decide) rfl dX7_core_65 ?_
  refine r_goto hc (tgt := 39) dX7_core_68 (by decide) ?_
  refine r_sub [2, 3, 1, 0] (lv' := [(0, .ref (ad x0)), (2, .int x2), (3, .int (s0 + s1)), (4, .int (x4 + 1))]) rfl ?_
  have h := wp_v h
  exact kn ((s0 + s1), (x4 + 1)) _ h
noncomputable def f_X7_core_L39 (x0 : Nat) (x2 : Int32) (v : (Int32 × Int32)) (σ : Hp) : Option (((Int32 × Int32) ⊕ (Int32)) × Hp) := if 128 ≤ v.2 then (some (Sum.inr v.1, σ)) else (gO (getR shM 7 x0 18 σ) fun v1 => gO (aldI shM 2 v1 v.2 σ) fun v2 => if v2 = 0 then (f_X7_core_b63 x0 x2 v.2 v.1 0 σ) else (f_X7_core_b63 x0 x2 v.2 v.1 1 σ))
set_option maxRecDepth 100000 in
set_option maxHeartbeats 4000000 in
theorem t_X7_core_L39 {l : Launch} {γ : Gm} {ad : Nat → Nat} {K : Option Value → Hp → Prop}  (hc : Cx l γ 6 5 ad shM RX7 cX7_core (some .int) K) {x0 : Nat} {x2 : Int32} {v : (Int32 × Int32)} {σ : Hp} {KX : (Int32) → Hp → Prop} (h : wpO (wh (f_X7_core_L39 x0 x2) v σ) KX) (kx71 : ∀ (v : Int32) (σ : Hp), KX v σ → WW l γ 6 5 ad shM 71 [(0, .ref (ad x0)), (2, .int x2), (3, .int v)] [] σ) : WW l γ 6 5 ad shM 39 [(0, .ref (ad x0)), (2, .int x2), (3, .int v.1), (4, .int v.2)] [] σ := by
  refine wh_W (P := fun v σ => WW l γ 6 5 ad shM 39 [(0, .ref (ad x0)), (2, .int x2), (3, .int v.1), (4, .int v.2)] [] σ) (fun v σ h => ?_) h
  have kn : ∀ (v : (Int32 × Int32)) (σ : Hp), WW l γ 6 5 ad shM 39 [(0, .ref (ad x0)), (2, .int x2), (3, .int v.1), (4, .int v.2)] [] σ → WW l γ 6 5 ad shM 39 [(0, .ref (ad x0)), (2, .int x2), (3, .int v.1), (4, .int v.2)] [] σ := fun _ _ h => h
  · unfold f_X7_core_L39 at h
    refine r_iload hc 3 rfl dX7_core_39 ?_
    refine r_sipush hc (v := 128) (by decide) dX7_core_41 ?_
    refine r_icmp_ge hc (tgt := 71) dX7_core_44 (by decide) (fun c => ?_) (fun c => ?_)
    · have h := wp_t c h
      refine r_sub [0, 1, 2] (lv' := [(0, .ref (ad x0)), (2, .int x2), (3, .int v.1)]) rfl ?_
      have h := wp_v h
      exact kx71 v.1 _ h
    · have h := wp_f c h
      refine r_iload_n hc 2 rfl rfl dX7_core_47 ?_
      refine r_aload_n hc 0 rfl rfl dX7_core_48 ?_
      obtain ⟨v1, ev1, h⟩ := wp_g h
      refine r_getR hc ev1 fl_X7_41 rfl dX7_core_49 ?_
      refine r_iload hc 3 rfl dX7_core_52 ?_
      obtain ⟨v2, ev2, h⟩ := wp_g h
      refine r_zald hc ev2 dX7_core_54 ?_
      refine r_if_eq hc (tgt := 62) dX7_core_55 (by decide) (fun c => ?_) (fun c => ?_)
      · have h := wp_t c h
        refine r_iconst hc (v := 0) (by decide) dX7_core_62 ?_
        refine r_sub [0, 1, 3] (lv' := [(0, .ref (ad x0)), (2, .int x2), (4, .int v.2)]) rfl ?_
        exact t_X7_core_b63 hc h kn kx71
      · have h := wp_f c h
        refine r_iconst hc (v := 1) (by decide) dX7_core_58 ?_
        refine r_goto hc (tgt := 63) dX7_core_59 (by decide) ?_
        refine r_sub [0, 1, 3] (lv' := [(0, .ref (ad x0)), (2, .int x2), (4, .int v.2)]) rfl ?_
        exact t_X7_core_b63 hc h kn kx71
noncomputable def f_X7_core_b110 (s0 : Int32) (σ : Hp) : Option (Int32 × Hp) := some (s0, σ)
set_option maxRecDepth 100000 in
set_option maxHeartbeats 4000000 in
theorem t_X7_core_b110 {l : Launch} {γ : Gm} {ad : Nat → Nat} {K : Option Value → Hp → Prop} (hc : Cx l γ 6 5 ad shM RX7 cX7_core (some .int) K) {s0 : Int32} {σ : Hp} (h : wpO (f_X7_core_b110 s0 σ) (KI K)) : WW l γ 6 5 ad shM 110 [] [.int s0] σ := by
  unfold f_X7_core_b110 at h
  have h := wp_v h
  exact r_iret hc h dX7_core_110
noncomputable def f_X7_core (x0 : Nat) (x1 : Int32) (x2 : Int32) (σ : Hp) : Option (Int32 × Hp) := bO (f_X7_isDrawer x1 σ) fun r1 σ2 => if r1 = 0 then (f_X7_core_b16  σ2) else (bO (f_X7_in x2 0 3 σ2) fun r3 σ4 => if r3 = 0 then (f_X7_core_b16  σ4) else (gO (chk shM x0 7) fun _ => bO (f_X7_isEmpty x0 x1 σ4) fun r5 σ6 => if r5 = 0 then (gO (chk shM x0 7) fun _ => bO (f_X7_laysCore x0 x1 σ6) fun _ σ9 => bO (wh (f_X7_core_L39 x0 x2) (0, 0) σ9) fun y11 σ12 => (if x2 = 0 then (gO (getI shM 7 x0 20 σ12) fun v17 => f_X7_core_b110 v17 σ12) else (if x2 = 1 then (gO (getI shM 7 x0 19 σ12) fun v16 => f_X7_core_b110 v16 σ12) else (if x2 = 2 then (gO (getI shM 7 x0 19 σ12) fun v13 => bO (f_X7_bits v13 σ12) fun r14 σ15 => f_X7_core_b110 r14 σ15) else (f_X7_core_b110 y11 σ12))))) else (some ((-2), σ6))))
set_option maxRecDepth 100000 in
set_option maxHeartbeats 4000000 in
theorem t_X7_core {l : Launch} {γ : Gm} {ad : Nat → Nat} {K : Option Value → Hp → Prop} (hc : Cx l γ 6 5 ad shM RX7 cX7_core (some .int) K) {x0 : Nat} {x1 : Int32} {x2 : Int32} {σ : Hp} (h : wpO (f_X7_core x0 x1 x2 σ) (KI K)) : WW l γ 6 5 ad shM 0 [(0, .ref (ad x0)), (1, .int x1), (2, .int x2)] [] σ := by
  unfold f_X7_core at h
  refine r_iload_n hc 1 rfl rfl dX7_core_0 ?_
  obtain ⟨r1, σ2, er1, h⟩ := wp_b h
  refine r_callS hc ms_X7_isDrawer ml_X7_132 (c_X7_isDrawer er1) rfl rfl (by decide) rfl (Nat.le_of_ble_eq_true rfl) dX7_core_1 ?_
  refine r_if_eq hc (tgt := 16) dX7_core_4 (by decide) (fun c => ?_) (fun c => ?_)
  · have h := wp_t c h
    refine r_sub [] (lv' := []) rfl ?_
    exact t_X7_core_b16 hc h
  · have h := wp_f c h
    refine r_iload_n hc 2 rfl rfl dX7_core_7 ?_
    refine r_iconst hc (v := 0) (by decide) dX7_core_8 ?_
    refine r_iconst hc (v := 3) (by decide) dX7_core_9 ?_
    obtain ⟨r3, σ4, er3, h⟩ := wp_b h
    refine r_callS hc ms_X7_in ml_X7_81 (c_X7_in er3) rfl rfl (by decide) rfl (Nat.le_of_ble_eq_true rfl) dX7_core_10 ?_
    refine r_if_ne hc (tgt := 18) dX7_core_13 (by decide) (fun c => ?_) (fun c => ?_)
    · have h := wp_f c h
      refine r_aload_n hc 0 rfl rfl dX7_core_18 ?_
      refine r_iload_n hc 1 rfl rfl dX7_core_19 ?_
      obtain ⟨_, ek7, h⟩ := wp_g h
      obtain ⟨r5, σ6, er5, h⟩ := wp_b h
      refine r_callV hc (k0 := x0) mv_X7_isEmpty ml_X7_85 (c_X7_isEmpty er5) (chk_of ek7) cls_7.1 rfl rfl rfl (by decide) rfl (Nat.le_of_ble_eq_true rfl) dX7_core_20 ?_
      refine r_if_eq hc (tgt := 29) dX7_core_23 (by decide) (fun c => ?_) (fun c => ?_)
      · have h := wp_t c h
        refine r_aload_n hc 0 rfl rfl dX7_core_29 ?_
        refine r_iload_n hc 1 rfl rfl dX7_core_30 ?_
        obtain ⟨_, ek10, h⟩ := wp_g h
        obtain ⟨_, σ9, er8, h⟩ := wp_b h
        refine r_callV hc (k0 := x0) mv_X7_laysCore ml_X7_197 (c_X7_laysCore er8) (chk_of ek10) cls_7.1 rfl rfl rfl (by decide) rfl (Nat.le_of_ble_eq_true rfl) dX7_core_31 ?_
        refine r_iconst hc (v := 0) (by decide) dX7_core_34 ?_
        refine r_istore_nE hc (i := 3) (lv' := [(3, .int 0), (0, .ref (ad x0)), (1, .int x1), (2, .int x2)]) rfl rfl (by decide) rfl dX7_core_35 ?_
        refine r_iconst hc (v := 0) (by decide) dX7_core_36 ?_
        refine r_istoreE hc (i := 4) (lv' := [(4, .int 0), (3, .int 0), (0, .ref (ad x0)), (1, .int x1), (2, .int x2)]) rfl (by decide) rfl dX7_core_37 ?_
        refine r_sub [2, 4, 1, 0] (lv' := [(0, .ref (ad x0)), (2, .int x2), (3, .int 0), (4, .int 0)]) rfl ?_
        refine t_X7_core_L39 hc (wp_bb h) ?_
        · intro y11 σ12 h
          refine r_iload_n hc 1 rfl rfl dX7_core_71 ?_
          refine r_if_ne hc (tgt := 82) dX7_core_72 (by decide) (fun c => ?_) (fun c => ?_)
          · have h := wp_f c h
            refine r_iload_n hc 1 rfl rfl dX7_core_82 ?_
            refine r_iconst hc (v := 1) (by decide) dX7_core_83 ?_
            refine r_icmp_ne hc (tgt := 94) dX7_core_84 (by decide) (fun c => ?_) (fun c => ?_)
            · have h := wp_f c h
              refine r_iload_n hc 1 rfl rfl dX7_core_94 ?_
              refine r_iconst hc (v := 2) (by decide) dX7_core_95 ?_
              refine r_icmp_ne hc (tgt := 109) dX7_core_96 (by decide) (fun c => ?_) (fun c => ?_)
              · have h := wp_f c h
                refine r_iload_n hc 2 rfl rfl dX7_core_109 ?_
                refine r_sub [] (lv' := []) rfl ?_
                exact t_X7_core_b110 hc h
              · have h := wp_t c h
                refine r_aload_n hc 0 rfl rfl dX7_core_99 ?_
                obtain ⟨v13, ev13, h⟩ := wp_g h
                refine r_getI hc ev13 fl_X7_200 rfl dX7_core_100 ?_
                obtain ⟨r14, σ15, er14, h⟩ := wp_b h
                refine r_callS hc ms_X7_bits ml_X7_93 (c_X7_bits er14) rfl rfl (by decide) rfl (Nat.le_of_ble_eq_true rfl) dX7_core_103 ?_
                refine r_goto hc (tgt := 110) dX7_core_106 (by decide) ?_
                refine r_sub [] (lv' := []) rfl ?_
                exact t_X7_core_b110 hc h
            · have h := wp_t c h
              refine r_aload_n hc 0 rfl rfl dX7_core_87 ?_
              obtain ⟨v16, ev16, h⟩ := wp_g h
              refine r_getI hc ev16 fl_X7_200 rfl dX7_core_88 ?_
              refine r_goto hc (tgt := 110) dX7_core_91 (by decide) ?_
              refine r_sub [] (lv' := []) rfl ?_
              exact t_X7_core_b110 hc h
          · have h := wp_t c h
            refine r_aload_n hc 0 rfl rfl dX7_core_75 ?_
            obtain ⟨v17, ev17, h⟩ := wp_g h
            refine r_getI hc ev17 fl_X7_276 rfl dX7_core_76 ?_
            refine r_goto hc (tgt := 110) dX7_core_79 (by decide) ?_
            refine r_sub [] (lv' := []) rfl ?_
            exact t_X7_core_b110 hc h
      · have h := wp_f c h
        refine r_bipush hc (v := (-2)) (by decide) dX7_core_26 ?_
        have h := wp_v h
        exact r_iret hc h dX7_core_28
    · have h := wp_t c h
      refine r_sub [] (lv' := []) rfl ?_
      exact t_X7_core_b16 hc h
theorem c_X7_core {l : Launch} {x0 : Nat} {x1 : Int32} {x2 : Int32} {σ σ' : Hp} {r : Int32} (h : f_X7_core x0 x1 x2 σ = some (r, σ')) : Mt l yX7_core cX7_core 5 (some .int) 6 shM (fun ad => [.ref (ad x0), .int x1, .int x2]) σ (fun ad => some (.int r)) σ' := mt_i (own := RX7) (by decide) rfl (fun _ => Nat.le_of_ble_eq_true rfl) (fun γ ad K hc hk => t_X7_core hc ⟨_, _, h, hk⟩)

-- NetMapsModel.retraction(III)I
theorem dX7_retraction_0 : decode cX7_retraction 0 = .ok (.iload_n 1, 1) := by decide +kernel
theorem dX7_retraction_1 : decode cX7_retraction 1 = .ok (.invokestatic 132, 3) := by decide +kernel
theorem dX7_retraction_4 : decode cX7_retraction 4 = .ok (.ifCond .eq 16, 3) := by decide +kernel
theorem dX7_retraction_7 : decode cX7_retraction 7 = .ok (.iload_n 2, 1) := by decide +kernel
theorem dX7_retraction_8 : decode cX7_retraction 8 = .ok (.ifCond .lt 12, 3) := by decide +kernel
theorem dX7_retraction_11 : decode cX7_retraction 11 = .ok (.aload_n 0, 1) := by decide +kernel
theorem dX7_retraction_12 : decode cX7_retraction 12 = .ok (.iload_n 1, 1) := by decide +kernel
theorem dX7_retraction_13 : decode cX7_retraction 13 = .ok (.iload_n 3, 1) := by decide +kernel
theorem dX7_retraction_14 : decode cX7_retraction 14 = .ok (.invokevirtual 144, 3) := by decide +kernel
theorem dX7_retraction_17 : decode cX7_retraction 17 = .ok (.ifCond .ne 5, 3) := by decide +kernel
theorem dX7_retraction_20 : decode cX7_retraction 20 = .ok (.iconst (-1), 1) := by decide +kernel
theorem dX7_retraction_21 : decode cX7_retraction 21 = .ok (.ireturn, 1) := by decide +kernel
theorem dX7_retraction_22 : decode cX7_retraction 22 = .ok (.aload_n 0, 1) := by decide +kernel
theorem dX7_retraction_23 : decode cX7_retraction 23 = .ok (.iload_n 1, 1) := by decide +kernel
theorem dX7_retraction_24 : decode cX7_retraction 24 = .ok (.invokevirtual 85, 3) := by decide +kernel
theorem dX7_retraction_27 : decode cX7_retraction 27 = .ok (.ifCond .eq 6, 3) := by decide +kernel
theorem dX7_retraction_30 : decode cX7_retraction 30 = .ok (.bipush (-2), 2) := by decide +kernel
theorem dX7_retraction_32 : decode cX7_retraction 32 = .ok (.ireturn, 1) := by decide +kernel
theorem dX7_retraction_33 : decode cX7_retraction 33 = .ok (.aload_n 0, 1) := by decide +kernel
theorem dX7_retraction_34 : decode cX7_retraction 34 = .ok (.iload_n 1, 1) := by decide +kernel
theorem dX7_retraction_35 : decode cX7_retraction 35 = .ok (.iload_n 1, 1) := by decide +kernel
theorem dX7_retraction_36 : decode cX7_retraction 36 = .ok (.iconst 0, 1) := by decide +kernel
theorem dX7_retraction_37 : decode cX7_retraction 37 = .ok (.invokevirtual 237, 3) := by decide +kernel
theorem dX7_retraction_40 : decode cX7_retraction 40 = .ok (.iload_n 2, 1) := by decide +kernel
theorem dX7_retraction_41 : decode cX7_retraction 41 = .ok (.istore 4, 2) := by decide +kernel
theorem dX7_retraction_43 : decode cX7_retraction 43 = .ok (.aload_n 0, 1) := by decide +kernel
theorem dX7_retraction_44 : decode cX7_retraction 44 = .ok (.invokevirtual 240, 3) := by decide +kernel
theorem dX7_retraction_47 : decode cX7_retraction 47 = .ok (.ifCond .eq 34, 3) := by decide +kernel
theorem dX7_retraction_50 : decode cX7_retraction 50 = .ok (.aload_n 0, 1) := by decide +kernel
theorem dX7_retraction_51 : decode cX7_retraction 51 = .ok (.invokevirtual 279, 3) := by decide +kernel
theorem dX7_retraction_54 : decode cX7_retraction 54 = .ok (.ifCond .ne 6, 3) := by decide +kernel
theorem dX7_retraction_57 : decode cX7_retraction 57 = .ok (.goto (-14), 3) := by decide +kernel
theorem dX7_retraction_60 : decode cX7_retraction 60 = .ok (.iload 4, 2) := by decide +kernel
theorem dX7_retraction_62 : decode cX7_retraction 62 = .ok (.ifCond .ne 10, 3) := by decide +kernel
theorem dX7_retraction_65 : decode cX7_retraction 65 = .ok (.aload_n 0, 1) := by decide +kernel
theorem dX7_retraction_66 : decode cX7_retraction 66 = .ok (.getfield 29, 3) := by decide +kernel
theorem dX7_retraction_69 : decode cX7_retraction 69 = .ok (.iload_n 3, 1) := by decide +kernel
theorem dX7_retraction_70 : decode cX7_retraction 70 = .ok (.iaload, 1) := by decide +kernel
theorem dX7_retraction_71 : decode cX7_retraction 71 = .ok (.ireturn, 1) := by decide +kernel
theorem dX7_retraction_72 : decode cX7_retraction 72 = .ok (.iload 4, 2) := by decide +kernel
theorem dX7_retraction_74 : decode cX7_retraction 74 = .ok (.iconst 1, 1) := by decide +kernel
theorem dX7_retraction_75 : decode cX7_retraction 75 = .ok (.isub, 1) := by decide +kernel
theorem dX7_retraction_76 : decode cX7_retraction 76 = .ok (.istore 4, 2) := by decide +kernel
theorem dX7_retraction_78 : decode cX7_retraction 78 = .ok (.goto (-35), 3) := by decide +kernel
theorem dX7_retraction_81 : decode cX7_retraction 81 = .ok (.bipush (-3), 2) := by decide +kernel
theorem dX7_retraction_83 : decode cX7_retraction 83 = .ok (.ireturn, 1) := by decide +kernel
noncomputable def f_X7_retraction_b20  (σ : Hp) : Option (Int32 × Hp) := some ((-1), σ)
set_option maxRecDepth 100000 in
set_option maxHeartbeats 4000000 in
theorem t_X7_retraction_b20 {l : Launch} {γ : Gm} {ad : Nat → Nat} {K : Option Value → Hp → Prop} (hc : Cx l γ 5 5 ad shM RX7 cX7_retraction (some .int) K)  {σ : Hp} (h : wpO (f_X7_retraction_b20  σ) (KI K)) : WW l γ 5 5 ad shM 20 [] [] σ := by
  unfold f_X7_retraction_b20 at h
  refine r_iconst hc (v := (-1)) (by decide) dX7_retraction_20 ?_
  have h := wp_v h
  exact r_iret hc h dX7_retraction_21
noncomputable def f_X7_retraction_L43 (x0 : Nat) (x3 : Int32) (v : (Int32)) (σ : Hp) : Option (((Int32) ⊕ ((Unit) ⊕ (Unit))) × Hp) := gO (chk shM x0 7) fun _ => bO (f_X7_next x0 σ) fun r1 σ2 => if r1 = 0 then (some (Sum.inr (Sum.inr ()), σ2)) else (gO (chk shM x0 7) fun _ => bO (f_X7_isRetraction x0 σ2) fun r4 σ5 => if r4 = 0 then (some (Sum.inl v, σ5)) else (if v = 0 then (some (Sum.inr (Sum.inl ()), σ5)) else (some (Sum.inl (v - 1), σ5))))
set_option maxRecDepth 100000 in
set_option maxHeartbeats 4000000 in
theorem t_X7_retraction_L43 {l : Launch} {γ : Gm} {ad : Nat → Nat} {K : Option Value → Hp → Prop}  (hc : Cx l γ 5 5 ad shM RX7 cX7_retraction (some .int) K) {x0 : Nat} {x3 : Int32} {v : (Int32)} {σ : Hp} {KX : ((Unit) ⊕ (Unit)) → Hp → Prop} (h : wpO (wh (f_X7_retraction_L43 x0 x3) v σ) KX) (kx65 : ∀ (v : Unit) (σ : Hp), KX (Sum.inl v) σ → WW l γ 5 5 ad shM 65 [(0, .ref (ad x0)), (3, .int x3)] [] σ) (kx81 : ∀ (v : Unit) (σ : Hp), KX (Sum.inr v) σ → WW l γ 5 5 ad shM 81 [] [] σ) : WW l γ 5 5 ad shM 43 [(0, .ref (ad x0)), (3, .int x3), (4, .int v)] [] σ := by
  refine wh_W (P := fun v σ => WW l γ 5 5 ad shM 43 [(0, .ref (ad x0)), (3, .int x3), (4, .int v)] [] σ) (fun v σ h => ?_) h
  have kn : ∀ (v : (Int32)) (σ : Hp), WW l γ 5 5 ad shM 43 [(0, .ref (ad x0)), (3, .int x3), (4, .int v)] [] σ → WW l γ 5 5 ad shM 43 [(0, .ref (ad x0)), (3, .int x3), (4, .int v)] [] σ := fun _ _ h => h
  · unfold f_X7_retraction_L43 at h
    refine r_aload_n hc 0 rfl rfl dX7_retraction_43 ?_
    obtain ⟨_, ek3, h⟩ := wp_g h
    obtain ⟨r1, σ2, er1, h⟩ := wp_b h
    refine r_callV hc (k0 := x0) mv_X7_next ml_X7_240 (c_X7_next er1) (chk_of ek3) cls_7.1 rfl rfl rfl (by decide) rfl (Nat.le_of_ble_eq_true rfl) dX7_retraction_44 ?_
    refine r_if_eq hc (tgt := 81) dX7_retraction_47 (by decide) (fun c => ?_) (fun c => ?_)
    · have h := wp_t c h
      refine r_sub [] (lv' := []) rfl ?_
      have h := wp_v h
      exact kx81 () _ h
    · have h := wp_f c h
      refine r_aload_n hc 0 rfl rfl dX7_retraction_50 ?_
      obtain ⟨_, ek6, h⟩ := wp_g h
      obtain ⟨r4, σ5, er4, h⟩ := wp_b h
      refine r_callV hc (k0 := x0) mv_X7_isRetraction ml_X7_279 (c_X7_isRetraction er4) (chk_of ek6) cls_7.1 rfl rfl rfl (by decide) rfl (Nat.le_of_ble_eq_true rfl) dX7_retraction_51 ?_
      refine r_if_ne hc (tgt := 60) dX7_retraction_54 (by decide) (fun c => ?_) (fun c => ?_)
      · have h := wp_f c h
        refine r_iload hc 2 rfl dX7_retraction_60 ?_
        refine r_if_ne hc (tgt := 72) dX7_retraction_62 (by decide) (fun c => ?_) (fun c => ?_)
        · have h := wp_f c h
          refine r_iload hc 2 rfl dX7_retraction_72 ?_
          refine r_iconst hc (v := 1) (by decide) dX7_retraction_74 ?_
          refine r_isub hc dX7_retraction_75 ?_
          refine r_istoreE hc (i := 4) (lv' := [(4, .int (v - 1)), (0, .ref (ad x0)), (3, .int x3)]) rfl (by decide) rfl dX7_retraction_76 ?_
          refine r_goto hc (tgt := 43) dX7_retraction_78 (by decide) ?_
          refine r_sub [1, 2, 0] (lv' := [(0, .ref (ad x0)), (3, .int x3), (4, .int (v - 1))]) rfl ?_
          have h := wp_v h
          exact kn (v - 1) _ h
        · have h := wp_t c h
          refine r_sub [0, 1] (lv' := [(0, .ref (ad x0)), (3, .int x3)]) rfl ?_
          have h := wp_v h
          exact kx65 () _ h
      · have h := wp_t c h
        refine r_goto hc (tgt := 43) dX7_retraction_57 (by decide) ?_
        have h := wp_v h
        exact kn v _ h
noncomputable def f_X7_retraction (x0 : Nat) (x1 : Int32) (x2 : Int32) (x3 : Int32) (σ : Hp) : Option (Int32 × Hp) := bO (f_X7_isDrawer x1 σ) fun r1 σ2 => if r1 = 0 then (f_X7_retraction_b20  σ2) else (if x2 < 0 then (f_X7_retraction_b20  σ2) else (gO (chk shM x0 7) fun _ => bO (f_X7_isNode x0 x1 x3 σ2) fun r3 σ4 => if r3 = 0 then (f_X7_retraction_b20  σ4) else (gO (chk shM x0 7) fun _ => bO (f_X7_isEmpty x0 x1 σ4) fun r6 σ7 => if r6 = 0 then (gO (chk shM x0 7) fun _ => bO (f_X7_starts x0 x1 x1 0 σ7) fun _ σ10 => bO (wh (f_X7_retraction_L43 x0 x3) x2 σ10) fun y12 σ13 => (Sum.elim (fun y12' => (gO (getR shM 7 x0 9 σ13) fun v15 => gO (aldI shM 0 v15 x3 σ13) fun v16 => some (v16, σ13))) (fun y14 => (some ((-3), σ13))) y12)) else (some ((-2), σ7)))))
set_option maxRecDepth 100000 in
set_option maxHeartbeats 4000000 in
theorem t_X7_retraction {l : Launch} {γ : Gm} {ad : Nat → Nat} {K : Option Value → Hp → Prop} (hc : Cx l γ 5 5 ad shM RX7 cX7_retraction (some .int) K) {x0 : Nat} {x1 : Int32} {x2 : Int32} {x3 : Int32} {σ : Hp} (h : wpO (f_X7_retraction x0 x1 x2 x3 σ) (KI K)) : WW l γ 5 5 ad shM 0 [(0, .ref (ad x0)), (1, .int x1), (2, .int x2), (3, .int x3)] [] σ := by
  unfold f_X7_retraction at h
  refine r_iload_n hc 1 rfl rfl dX7_retraction_0 ?_
  obtain ⟨r1, σ2, er1, h⟩ := wp_b h
  refine r_callS hc ms_X7_isDrawer ml_X7_132 (c_X7_isDrawer er1) rfl rfl (by decide) rfl (Nat.le_of_ble_eq_true rfl) dX7_retraction_1 ?_
  refine r_if_eq hc (tgt := 20) dX7_retraction_4 (by decide) (fun c => ?_) (fun c => ?_)
  · have h := wp_t c h
    refine r_sub [] (lv' := []) rfl ?_
    exact t_X7_retraction_b20 hc h
  · have h := wp_f c h
    refine r_iload_n hc 2 rfl rfl dX7_retraction_7 ?_
    refine r_if_lt hc (tgt := 20) dX7_retraction_8 (by decide) (fun c => ?_) (fun c => ?_)
    · have h := wp_t c h
      refine r_sub [] (lv' := []) rfl ?_
      exact t_X7_retraction_b20 hc h
    · have h := wp_f c h
      refine r_aload_n hc 0 rfl rfl dX7_retraction_11 ?_
      refine r_iload_n hc 1 rfl rfl dX7_retraction_12 ?_
      refine r_iload_n hc 3 rfl rfl dX7_retraction_13 ?_
      obtain ⟨_, ek5, h⟩ := wp_g h
      obtain ⟨r3, σ4, er3, h⟩ := wp_b h
      refine r_callV hc (k0 := x0) mv_X7_isNode ml_X7_144 (c_X7_isNode er3) (chk_of ek5) cls_7.1 rfl rfl rfl (by decide) rfl (Nat.le_of_ble_eq_true rfl) dX7_retraction_14 ?_
      refine r_if_ne hc (tgt := 22) dX7_retraction_17 (by decide) (fun c => ?_) (fun c => ?_)
      · have h := wp_f c h
        refine r_aload_n hc 0 rfl rfl dX7_retraction_22 ?_
        refine r_iload_n hc 1 rfl rfl dX7_retraction_23 ?_
        obtain ⟨_, ek8, h⟩ := wp_g h
        obtain ⟨r6, σ7, er6, h⟩ := wp_b h
        refine r_callV hc (k0 := x0) mv_X7_isEmpty ml_X7_85 (c_X7_isEmpty er6) (chk_of ek8) cls_7.1 rfl rfl rfl (by decide) rfl (Nat.le_of_ble_eq_true rfl) dX7_retraction_24 ?_
        refine r_if_eq hc (tgt := 33) dX7_retraction_27 (by decide) (fun c => ?_) (fun c => ?_)
        · have h := wp_t c h
          refine r_aload_n hc 0 rfl rfl dX7_retraction_33 ?_
          refine r_iload_n hc 1 rfl rfl dX7_retraction_34 ?_
          refine r_iload_n hc 1 rfl rfl dX7_retraction_35 ?_
          refine r_iconst hc (v := 0) (by decide) dX7_retraction_36 ?_
          obtain ⟨_, ek11, h⟩ := wp_g h
          obtain ⟨_, σ10, er9, h⟩ := wp_b h
          refine r_callV hc (k0 := x0) mv_X7_starts ml_X7_237 (c_X7_starts er9) (chk_of ek11) cls_7.1 rfl rfl rfl (by decide) rfl (Nat.le_of_ble_eq_true rfl) dX7_retraction_37 ?_
          refine r_iload_n hc 2 rfl rfl dX7_retraction_40 ?_
          refine r_istoreE hc (i := 4) (lv' := [(4, .int x2), (0, .ref (ad x0)), (1, .int x1), (2, .int x2), (3, .int x3)]) rfl (by decide) rfl dX7_retraction_41 ?_
          refine r_sub [1, 4, 0] (lv' := [(0, .ref (ad x0)), (3, .int x3), (4, .int x2)]) rfl ?_
          refine t_X7_retraction_L43 hc (wp_bb h) ?_ ?_
          · intro y12' σ13 h
            have h := wp_sl h
            refine r_aload_n hc 0 rfl rfl dX7_retraction_65 ?_
            obtain ⟨v15, ev15, h⟩ := wp_g h
            refine r_getR hc ev15 fl_X7_29 rfl dX7_retraction_66 ?_
            refine r_iload_n hc 1 rfl rfl dX7_retraction_69 ?_
            obtain ⟨v16, ev16, h⟩ := wp_g h
            refine r_iald hc ev16 dX7_retraction_70 ?_
            have h := wp_v h
            exact r_iret hc h dX7_retraction_71
          · intro y14 σ13 h
            have h := wp_sr h
            refine r_bipush hc (v := (-3)) (by decide) dX7_retraction_81 ?_
            have h := wp_v h
            exact r_iret hc h dX7_retraction_83
        · have h := wp_f c h
          refine r_bipush hc (v := (-2)) (by decide) dX7_retraction_30 ?_
          have h := wp_v h
          exact r_iret hc h dX7_retraction_32
      · have h := wp_t c h
        refine r_sub [] (lv' := []) rfl ?_
        exact t_X7_retraction_b20 hc h
theorem c_X7_retraction {l : Launch} {x0 : Nat} {x1 : Int32} {x2 : Int32} {x3 : Int32} {σ σ' : Hp} {r : Int32} (h : f_X7_retraction x0 x1 x2 x3 σ = some (r, σ')) : Mt l yX7_retraction cX7_retraction 5 (some .int) 5 shM (fun ad => [.ref (ad x0), .int x1, .int x2, .int x3]) σ (fun ad => some (.int r)) σ' := mt_i (own := RX7) (by decide) rfl (fun _ => Nat.le_of_ble_eq_true rfl) (fun γ ad K hc hk => t_X7_retraction hc ⟨_, _, h, hk⟩)

-- NetMapsModel.laysCodes(II)V
theorem dX7_laysCodes_0 : decode cX7_laysCodes 0 = .ok (.aload_n 0, 1) := by decide +kernel
theorem dX7_laysCodes_1 : decode cX7_laysCodes 1 = .ok (.iconst 0, 1) := by decide +kernel
theorem dX7_laysCodes_2 : decode cX7_laysCodes 2 = .ok (.putfield 282, 3) := by decide +kernel
theorem dX7_laysCodes_5 : decode cX7_laysCodes 5 = .ok (.aload_n 0, 1) := by decide +kernel
theorem dX7_laysCodes_6 : decode cX7_laysCodes 6 = .ok (.iload_n 1, 1) := by decide +kernel
theorem dX7_laysCodes_7 : decode cX7_laysCodes 7 = .ok (.iload_n 2, 1) := by decide +kernel
theorem dX7_laysCodes_8 : decode cX7_laysCodes 8 = .ok (.iconst 1, 1) := by decide +kernel
theorem dX7_laysCodes_9 : decode cX7_laysCodes 9 = .ok (.invokevirtual 237, 3) := by decide +kernel
theorem dX7_laysCodes_12 : decode cX7_laysCodes 12 = .ok (.aload_n 0, 1) := by decide +kernel
theorem dX7_laysCodes_13 : decode cX7_laysCodes 13 = .ok (.getfield 282, 3) := by decide +kernel
theorem dX7_laysCodes_16 : decode cX7_laysCodes 16 = .ok (.sipush 2000, 3) := by decide +kernel
theorem dX7_laysCodes_19 : decode cX7_laysCodes 19 = .ok (.if_icmp .gt 70, 3) := by decide +kernel
theorem dX7_laysCodes_22 : decode cX7_laysCodes 22 = .ok (.aload_n 0, 1) := by decide +kernel
theorem dX7_laysCodes_23 : decode cX7_laysCodes 23 = .ok (.invokevirtual 240, 3) := by decide +kernel
theorem dX7_laysCodes_26 : decode cX7_laysCodes 26 = .ok (.ifCond .eq 63, 3) := by decide +kernel
theorem dX7_laysCodes_29 : decode cX7_laysCodes 29 = .ok (.iconst 0, 1) := by decide +kernel
theorem dX7_laysCodes_30 : decode cX7_laysCodes 30 = .ok (.istore_n 3, 1) := by decide +kernel
theorem dX7_laysCodes_31 : decode cX7_laysCodes 31 = .ok (.iconst 0, 1) := by decide +kernel
theorem dX7_laysCodes_32 : decode cX7_laysCodes 32 = .ok (.istore 4, 2) := by decide +kernel
theorem dX7_laysCodes_34 : decode cX7_laysCodes 34 = .ok (.iload 4, 2) := by decide +kernel
theorem dX7_laysCodes_36 : decode cX7_laysCodes 36 = .ok (.aload_n 0, 1) := by decide +kernel
theorem dX7_laysCodes_37 : decode cX7_laysCodes 37 = .ok (.getfield 7, 3) := by decide +kernel
theorem dX7_laysCodes_40 : decode cX7_laysCodes 40 = .ok (.iload_n 1, 1) := by decide +kernel
theorem dX7_laysCodes_41 : decode cX7_laysCodes 41 = .ok (.iaload, 1) := by decide +kernel
theorem dX7_laysCodes_42 : decode cX7_laysCodes 42 = .ok (.if_icmp .ge 24, 3) := by decide +kernel
theorem dX7_laysCodes_45 : decode cX7_laysCodes 45 = .ok (.iload_n 3, 1) := by decide +kernel
theorem dX7_laysCodes_46 : decode cX7_laysCodes 46 = .ok (.aload_n 0, 1) := by decide +kernel
theorem dX7_laysCodes_47 : decode cX7_laysCodes 47 = .ok (.getfield 29, 3) := by decide +kernel
theorem dX7_laysCodes_50 : decode cX7_laysCodes 50 = .ok (.iload 4, 2) := by decide +kernel
theorem dX7_laysCodes_52 : decode cX7_laysCodes 52 = .ok (.iaload, 1) := by decide +kernel
theorem dX7_laysCodes_53 : decode cX7_laysCodes 53 = .ok (.iconst 3, 1) := by decide +kernel
theorem dX7_laysCodes_54 : decode cX7_laysCodes 54 = .ok (.iload 4, 2) := by decide +kernel
theorem dX7_laysCodes_56 : decode cX7_laysCodes 56 = .ok (.imul, 1) := by decide +kernel
theorem dX7_laysCodes_57 : decode cX7_laysCodes 57 = .ok (.ishl, 1) := by decide +kernel
theorem dX7_laysCodes_58 : decode cX7_laysCodes 58 = .ok (.ior, 1) := by decide +kernel
theorem dX7_laysCodes_59 : decode cX7_laysCodes 59 = .ok (.istore_n 3, 1) := by decide +kernel
theorem dX7_laysCodes_60 : decode cX7_laysCodes 60 = .ok (.iinc 4 1, 3) := by decide +kernel
theorem dX7_laysCodes_63 : decode cX7_laysCodes 63 = .ok (.goto (-29), 3) := by decide +kernel
theorem dX7_laysCodes_66 : decode cX7_laysCodes 66 = .ok (.aload_n 0, 1) := by decide +kernel
theorem dX7_laysCodes_67 : decode cX7_laysCodes 67 = .ok (.getfield 45, 3) := by decide +kernel
theorem dX7_laysCodes_70 : decode cX7_laysCodes 70 = .ok (.aload_n 0, 1) := by decide +kernel
theorem dX7_laysCodes_71 : decode cX7_laysCodes 71 = .ok (.getfield 282, 3) := by decide +kernel
theorem dX7_laysCodes_74 : decode cX7_laysCodes 74 = .ok (.iload_n 3, 1) := by decide +kernel
theorem dX7_laysCodes_75 : decode cX7_laysCodes 75 = .ok (.iastore, 1) := by decide +kernel
theorem dX7_laysCodes_76 : decode cX7_laysCodes 76 = .ok (.aload_n 0, 1) := by decide +kernel
theorem dX7_laysCodes_77 : decode cX7_laysCodes 77 = .ok (.aload_n 0, 1) := by decide +kernel
theorem dX7_laysCodes_78 : decode cX7_laysCodes 78 = .ok (.getfield 282, 3) := by decide +kernel
theorem dX7_laysCodes_81 : decode cX7_laysCodes 81 = .ok (.iconst 1, 1) := by decide +kernel
theorem dX7_laysCodes_82 : decode cX7_laysCodes 82 = .ok (.iadd, 1) := by decide +kernel
theorem dX7_laysCodes_83 : decode cX7_laysCodes 83 = .ok (.putfield 282, 3) := by decide +kernel
theorem dX7_laysCodes_86 : decode cX7_laysCodes 86 = .ok (.goto (-74), 3) := by decide +kernel
theorem dX7_laysCodes_89 : decode cX7_laysCodes 89 = .ok (.return_, 1) := by decide +kernel
noncomputable def f_X7_laysCodes_L34 (x0 : Nat) (x1 : Int32) (v : (Int32 × Int32)) (σ : Hp) : Option (((Int32 × Int32) ⊕ (Int32)) × Hp) := gO (getR shM 7 x0 0 σ) fun v1 => gO (aldI shM 0 v1 x1 σ) fun v2 => if v2 ≤ v.2 then (some (Sum.inr v.1, σ)) else (gO (getR shM 7 x0 9 σ) fun v3 => gO (aldI shM 0 v3 v.2 σ) fun v4 => lt' ((v.1 ||| (v4 <<< ((3 * v.2) &&& 31)))) fun t5 => some (Sum.inl (t5, (v.2 + 1)), σ))
set_option maxRecDepth 100000 in
set_option maxHeartbeats 4000000 in
theorem t_X7_laysCodes_L34 {l : Launch} {γ : Gm} {ad : Nat → Nat} {K : Option Value → Hp → Prop}  (hc : Cx l γ 5 5 ad shM RX7 cX7_laysCodes none K) {x0 : Nat} {x1 : Int32} {v : (Int32 × Int32)} {σ : Hp} {KX : (Int32) → Hp → Prop} (h : wpO (wh (f_X7_laysCodes_L34 x0 x1) v σ) KX) (kx66 : ∀ (v : Int32) (σ : Hp), KX v σ → WW l γ 5 5 ad shM 66 [(0, .ref (ad x0)), (1, .int x1), (3, .int v)] [] σ) : WW l γ 5 5 ad shM 34 [(0, .ref (ad x0)), (1, .int x1), (3, .int v.1), (4, .int v.2)] [] σ := by
  refine wh_W (P := fun v σ => WW l γ 5 5 ad shM 34 [(0, .ref (ad x0)), (1, .int x1), (3, .int v.1), (4, .int v.2)] [] σ) (fun v σ h => ?_) h
  have kn : ∀ (v : (Int32 × Int32)) (σ : Hp), WW l γ 5 5 ad shM 34 [(0, .ref (ad x0)), (1, .int x1), (3, .int v.1), (4, .int v.2)] [] σ → WW l γ 5 5 ad shM 34 [(0, .ref (ad x0)), (1, .int x1), (3, .int v.1), (4, .int v.2)] [] σ := fun _ _ h => h
  · unfold f_X7_laysCodes_L34 at h
    refine r_iload hc 3 rfl dX7_laysCodes_34 ?_
    refine r_aload_n hc 0 rfl rfl dX7_laysCodes_36 ?_
    obtain ⟨v1, ev1, h⟩ := wp_g h
    refine r_getR hc ev1 fl_X7_7 rfl dX7_laysCodes_37 ?_
    refine r_iload_n hc 1 rfl rfl dX7_laysCodes_40 ?_
    obtain ⟨v2, ev2, h⟩ := wp_g h
    refine r_iald hc ev2 dX7_laysCodes_41 ?_
    refine r_icmp_ge hc (tgt := 66) dX7_laysCodes_42 (by decide) (fun c => ?_) (fun c => ?_)
    · have h := wp_t c h
      refine r_sub [0, 1, 2] (lv' := [(0, .ref (ad x0)), (1, .int x1), (3, .int v.1)]) rfl ?_
      have h := wp_v h
      exact kx66 v.1 _ h
    · have h := wp_f c h
      refine r_iload_n hc 2 rfl rfl dX7_laysCodes_45 ?_
      refine r_aload_n hc 0 rfl rfl dX7_laysCodes_46 ?_
      obtain ⟨v3, ev3, h⟩ := wp_g h
      refine r_getR hc ev3 fl_X7_29 rfl dX7_laysCodes_47 ?_
      refine r_iload hc 3 rfl dX7_laysCodes_50 ?_
      obtain ⟨v4, ev4, h⟩ := wp_g h
      refine r_iald hc ev4 dX7_laysCodes_52 ?_
      refine r_iconst hc (v := 3) (by decide) dX7_laysCodes_53 ?_
      refine r_iload hc 3 rfl dX7_laysCodes_54 ?_
      refine r_imul hc dX7_laysCodes_56 ?_
      refine r_ishl hc dX7_laysCodes_57 ?_
      refine r_ior hc dX7_laysCodes_58 ?_
      obtain ⟨t5, et5, h⟩ := wp_l h
      refine r_istore_nE hc (i := 3) (lv' := [(3, .int t5), (0, .ref (ad x0)), (1, .int x1), (4, .int v.2)]) et5 rfl (by decide) rfl dX7_laysCodes_59 ?_
      refine r_iincE hc (j := 3) (w := 1) (lv' := [(4, .int (v.2 + 1)), (3, .int t5), (0, .ref (ad x0)), (1, .int x1)]) rfl (by decide) rfl (by decide) rfl dX7_laysCodes_60 ?_
      refine r_goto hc (tgt := 34) dX7_laysCodes_63 (by decide) ?_
      refine r_sub [2, 3, 1, 0] (lv' := [(0, .ref (ad x0)), (1, .int x1), (3, .int t5), (4, .int (v.2 + 1))]) rfl ?_
      have h := wp_v h
      exact kn (t5, (v.2 + 1)) _ h
noncomputable def f_X7_laysCodes_L12 (x0 : Nat) (x1 : Int32) (v : (Unit)) (σ : Hp) : Option (((Unit) ⊕ (Unit)) × Hp) := gO (getI shM 7 x0 24 σ) fun v1 => if 2000 < v1 then (some (Sum.inr (), σ)) else (gO (chk shM x0 7) fun _ => bO (f_X7_next x0 σ) fun r2 σ3 => if r2 = 0 then (some (Sum.inr (), σ3)) else (bO (wh (f_X7_laysCodes_L34 x0 x1) (0, 0) σ3) fun y5 σ6 => (gO (getR shM 7 x0 21 σ6) fun v7 => gO (getI shM 7 x0 24 σ6) fun v8 => gO (astI shM 0 v7 v8 y5 σ6) fun σ9 => gO (getI shM 7 x0 24 σ9) fun v10 => gO (putI shM 7 x0 24 (v10 + 1) σ9) fun σ11 => some (Sum.inl (), σ11))))
set_option maxRecDepth 100000 in
set_option maxHeartbeats 4000000 in
theorem t_X7_laysCodes_L12 {l : Launch} {γ : Gm} {ad : Nat → Nat} {K : Option Value → Hp → Prop}  (hc : Cx l γ 5 5 ad shM RX7 cX7_laysCodes none K) {x0 : Nat} {x1 : Int32} {v : (Unit)} {σ : Hp} {KX : (Unit) → Hp → Prop} (h : wpO (wh (f_X7_laysCodes_L12 x0 x1) v σ) KX) (kx89 : ∀ (v : Unit) (σ : Hp), KX v σ → WW l γ 5 5 ad shM 89 [] [] σ) : WW l γ 5 5 ad shM 12 [(0, .ref (ad x0)), (1, .int x1)] [] σ := by
  refine wh_W (P := fun v σ => WW l γ 5 5 ad shM 12 [(0, .ref (ad x0)), (1, .int x1)] [] σ) (fun v σ h => ?_) h
  have kn : ∀ (v : (Unit)) (σ : Hp), WW l γ 5 5 ad shM 12 [(0, .ref (ad x0)), (1, .int x1)] [] σ → WW l γ 5 5 ad shM 12 [(0, .ref (ad x0)), (1, .int x1)] [] σ := fun _ _ h => h
  · unfold f_X7_laysCodes_L12 at h
    refine r_aload_n hc 0 rfl rfl dX7_laysCodes_12 ?_
    obtain ⟨v1, ev1, h⟩ := wp_g h
    refine r_getI hc ev1 fl_X7_282 rfl dX7_laysCodes_13 ?_
    refine r_sipush hc (v := 2000) (by decide) dX7_laysCodes_16 ?_
    refine r_icmp_gt hc (tgt := 89) dX7_laysCodes_19 (by decide) (fun c => ?_) (fun c => ?_)
    · have h := wp_t c h
      refine r_sub [] (lv' := []) rfl ?_
      have h := wp_v h
      exact kx89 () _ h
    · have h := wp_f c h
      refine r_aload_n hc 0 rfl rfl dX7_laysCodes_22 ?_
      obtain ⟨_, ek4, h⟩ := wp_g h
      obtain ⟨r2, σ3, er2, h⟩ := wp_b h
      refine r_callV hc (k0 := x0) mv_X7_next ml_X7_240 (c_X7_next er2) (chk_of ek4) cls_7.1 rfl rfl rfl (by decide) rfl (Nat.le_of_ble_eq_true rfl) dX7_laysCodes_23 ?_
      refine r_if_eq hc (tgt := 89) dX7_laysCodes_26 (by decide) (fun c => ?_) (fun c => ?_)
      · have h := wp_t c h
        refine r_sub [] (lv' := []) rfl ?_
        have h := wp_v h
        exact kx89 () _ h
      · have h := wp_f c h
        refine r_iconst hc (v := 0) (by decide) dX7_laysCodes_29 ?_
        refine r_istore_nE hc (i := 3) (lv' := [(3, .int 0), (0, .ref (ad x0)), (1, .int x1)]) rfl rfl (by decide) rfl dX7_laysCodes_30 ?_
        refine r_iconst hc (v := 0) (by decide) dX7_laysCodes_31 ?_
        refine r_istoreE hc (i := 4) (lv' := [(4, .int 0), (3, .int 0), (0, .ref (ad x0)), (1, .int x1)]) rfl (by decide) rfl dX7_laysCodes_32 ?_
        refine r_sub [2, 3, 1, 0] (lv' := [(0, .ref (ad x0)), (1, .int x1), (3, .int 0), (4, .int 0)]) rfl ?_
        refine t_X7_laysCodes_L34 hc (wp_bb h) ?_
        · intro y5 σ6 h
          refine r_aload_n hc 0 rfl rfl dX7_laysCodes_66 ?_
          obtain ⟨v7, ev7, h⟩ := wp_g h
          refine r_getR hc ev7 fl_X7_45 rfl dX7_laysCodes_67 ?_
          refine r_aload_n hc 0 rfl rfl dX7_laysCodes_70 ?_
          obtain ⟨v8, ev8, h⟩ := wp_g h
          refine r_getI hc ev8 fl_X7_282 rfl dX7_laysCodes_71 ?_
          refine r_iload_n hc 2 rfl rfl dX7_laysCodes_74 ?_
          obtain ⟨σ9, eσ9, h⟩ := wp_g h
          refine r_iast hc eσ9 dX7_laysCodes_75 ?_
          refine r_aload_n hc 0 rfl rfl dX7_laysCodes_76 ?_
          refine r_aload_n hc 0 rfl rfl dX7_laysCodes_77 ?_
          obtain ⟨v10, ev10, h⟩ := wp_g h
          refine r_getI hc ev10 fl_X7_282 rfl dX7_laysCodes_78 ?_
          refine r_iconst hc (v := 1) (by decide) dX7_laysCodes_81 ?_
          refine r_iadd hc dX7_laysCodes_82 ?_
          obtain ⟨σ11, eσ11, h⟩ := wp_g h
          refine r_putI hc eσ11 fp_X7_282 rfl dX7_laysCodes_83 ?_
          refine r_goto hc (tgt := 12) dX7_laysCodes_86 (by decide) ?_
          refine r_sub [0, 1] (lv' := [(0, .ref (ad x0)), (1, .int x1)]) rfl ?_
          have h := wp_v h
          exact kn () _ h
noncomputable def f_X7_laysCodes_b89  (σ : Hp) : Option (Unit × Hp) := some ((), σ)
set_option maxRecDepth 100000 in
set_option maxHeartbeats 4000000 in
theorem t_X7_laysCodes_b89 {l : Launch} {γ : Gm} {ad : Nat → Nat} {K : Option Value → Hp → Prop} (hc : Cx l γ 5 5 ad shM RX7 cX7_laysCodes none K)  {σ : Hp} (h : wpO (f_X7_laysCodes_b89  σ) (KU K)) : WW l γ 5 5 ad shM 89 [] [] σ := by
  unfold f_X7_laysCodes_b89 at h
  have h := wp_v h
  exact r_vret hc h dX7_laysCodes_89
noncomputable def f_X7_laysCodes (x0 : Nat) (x1 : Int32) (x2 : Int32) (σ : Hp) : Option (Unit × Hp) := gO (putI shM 7 x0 24 0 σ) fun σ1 => gO (chk shM x0 7) fun _ => bO (f_X7_starts x0 x1 x2 1 σ1) fun _ σ3 => bO (wh (f_X7_laysCodes_L12 x0 x1) () σ3) fun y5 σ6 => (f_X7_laysCodes_b89  σ6)
set_option maxRecDepth 100000 in
set_option maxHeartbeats 4000000 in
theorem t_X7_laysCodes {l : Launch} {γ : Gm} {ad : Nat → Nat} {K : Option Value → Hp → Prop} (hc : Cx l γ 5 5 ad shM RX7 cX7_laysCodes none K) {x0 : Nat} {x1 : Int32} {x2 : Int32} {σ : Hp} (h : wpO (f_X7_laysCodes x0 x1 x2 σ) (KU K)) : WW l γ 5 5 ad shM 0 [(0, .ref (ad x0)), (1, .int x1), (2, .int x2)] [] σ := by
  unfold f_X7_laysCodes at h
  refine r_aload_n hc 0 rfl rfl dX7_laysCodes_0 ?_
  refine r_iconst hc (v := 0) (by decide) dX7_laysCodes_1 ?_
  obtain ⟨σ1, eσ1, h⟩ := wp_g h
  refine r_putI hc eσ1 fp_X7_282 rfl dX7_laysCodes_2 ?_
  refine r_aload_n hc 0 rfl rfl dX7_laysCodes_5 ?_
  refine r_iload_n hc 1 rfl rfl dX7_laysCodes_6 ?_
  refine r_iload_n hc 2 rfl rfl dX7_laysCodes_7 ?_
  refine r_iconst hc (v := 1) (by decide) dX7_laysCodes_8 ?_
  obtain ⟨_, ek4, h⟩ := wp_g h
  obtain ⟨_, σ3, er2, h⟩ := wp_b h
  refine r_callV hc (k0 := x0) mv_X7_starts ml_X7_237 (c_X7_starts er2) (chk_of ek4) cls_7.1 rfl rfl rfl (by decide) rfl (Nat.le_of_ble_eq_true rfl) dX7_laysCodes_9 ?_
  refine r_sub [0, 1] (lv' := [(0, .ref (ad x0)), (1, .int x1)]) rfl ?_
  refine t_X7_laysCodes_L12 hc (wp_bb h) ?_
  · intro y5 σ6 h
    exact t_X7_laysCodes_b89 hc h
theorem c_X7_laysCodes {l : Launch} {x0 : Nat} {x1 : Int32} {x2 : Int32} {σ σ' : Hp} {r : Unit} (h : f_X7_laysCodes x0 x1 x2 σ = some (r, σ')) : Mt l yX7_laysCodes cX7_laysCodes 5 none 5 shM (fun ad => [.ref (ad x0), .int x1, .int x2]) σ (fun ad => none) σ' := mt_i (own := RX7) (by decide) rfl (fun _ => Nat.le_of_ble_eq_true rfl) (fun γ ad K hc hk => t_X7_laysCodes hc ⟨_, _, h, hk⟩)

-- NetMapsModel.areBeside(II)Z
theorem dX7_areBeside_0 : decode cX7_areBeside 0 = .ok (.iload_n 0, 1) := by decide +kernel
theorem dX7_areBeside_1 : decode cX7_areBeside 1 = .ok (.iload_n 1, 1) := by decide +kernel
theorem dX7_areBeside_2 : decode cX7_areBeside 2 = .ok (.ixor, 1) := by decide +kernel
theorem dX7_areBeside_3 : decode cX7_areBeside 3 = .ok (.istore_n 2, 1) := by decide +kernel
theorem dX7_areBeside_4 : decode cX7_areBeside 4 = .ok (.iconst 0, 1) := by decide +kernel
theorem dX7_areBeside_5 : decode cX7_areBeside 5 = .ok (.istore_n 3, 1) := by decide +kernel
theorem dX7_areBeside_6 : decode cX7_areBeside 6 = .ok (.iconst 0, 1) := by decide +kernel
theorem dX7_areBeside_7 : decode cX7_areBeside 7 = .ok (.istore 4, 2) := by decide +kernel
theorem dX7_areBeside_9 : decode cX7_areBeside 9 = .ok (.iload 4, 2) := by decide +kernel
theorem dX7_areBeside_11 : decode cX7_areBeside 11 = .ok (.bipush 7, 2) := by decide +kernel
theorem dX7_areBeside_13 : decode cX7_areBeside 13 = .ok (.if_icmp .ge 29, 3) := by decide +kernel
theorem dX7_areBeside_16 : decode cX7_areBeside 16 = .ok (.iload_n 3, 1) := by decide +kernel
theorem dX7_areBeside_17 : decode cX7_areBeside 17 = .ok (.iload_n 2, 1) := by decide +kernel
theorem dX7_areBeside_18 : decode cX7_areBeside 18 = .ok (.iconst 3, 1) := by decide +kernel
theorem dX7_areBeside_19 : decode cX7_areBeside 19 = .ok (.iload 4, 2) := by decide +kernel
theorem dX7_areBeside_21 : decode cX7_areBeside 21 = .ok (.imul, 1) := by decide +kernel
theorem dX7_areBeside_22 : decode cX7_areBeside 22 = .ok (.ishr, 1) := by decide +kernel
theorem dX7_areBeside_23 : decode cX7_areBeside 23 = .ok (.bipush 7, 2) := by decide +kernel
theorem dX7_areBeside_25 : decode cX7_areBeside 25 = .ok (.iand, 1) := by decide +kernel
theorem dX7_areBeside_26 : decode cX7_areBeside 26 = .ok (.ifCond .ne 7, 3) := by decide +kernel
theorem dX7_areBeside_29 : decode cX7_areBeside 29 = .ok (.iconst 0, 1) := by decide +kernel
theorem dX7_areBeside_30 : decode cX7_areBeside 30 = .ok (.goto 4, 3) := by decide +kernel
theorem dX7_areBeside_33 : decode cX7_areBeside 33 = .ok (.iconst 1, 1) := by decide +kernel
theorem dX7_areBeside_34 : decode cX7_areBeside 34 = .ok (.iadd, 1) := by decide +kernel
theorem dX7_areBeside_35 : decode cX7_areBeside 35 = .ok (.istore_n 3, 1) := by decide +kernel
theorem dX7_areBeside_36 : decode cX7_areBeside 36 = .ok (.iinc 4 1, 3) := by decide +kernel
theorem dX7_areBeside_39 : decode cX7_areBeside 39 = .ok (.goto (-30), 3) := by decide +kernel
theorem dX7_areBeside_42 : decode cX7_areBeside 42 = .ok (.iload_n 3, 1) := by decide +kernel
theorem dX7_areBeside_43 : decode cX7_areBeside 43 = .ok (.iconst 1, 1) := by decide +kernel
theorem dX7_areBeside_44 : decode cX7_areBeside 44 = .ok (.if_icmp .ne 7, 3) := by decide +kernel
theorem dX7_areBeside_47 : decode cX7_areBeside 47 = .ok (.iconst 1, 1) := by decide +kernel
theorem dX7_areBeside_48 : decode cX7_areBeside 48 = .ok (.goto 4, 3) := by decide +kernel
theorem dX7_areBeside_51 : decode cX7_areBeside 51 = .ok (.iconst 0, 1) := by decide +kernel
theorem dX7_areBeside_52 : decode cX7_areBeside 52 = .ok (.ireturn, 1) := by decide +kernel
noncomputable def f_X7_areBeside_b34 (x2 : Int32) (x4 : Int32) (s0 : Int32) (s1 : Int32) (σ : Hp) : Option (((Int32 × Int32) ⊕ (Int32)) × Hp) := some (Sum.inl ((s0 + s1), (x4 + 1)), σ)
set_option maxRecDepth 100000 in
set_option maxHeartbeats 4000000 in
theorem t_X7_areBeside_b34 {l : Launch} {γ : Gm} {ad : Nat → Nat} {K : Option Value → Hp → Prop} (hc : Cx l γ 1 5 ad shM RX7 cX7_areBeside (some .boolean) K) {x2 : Int32} {x4 : Int32} {s0 : Int32} {s1 : Int32}  {σ : Hp} {KL : ((Int32 × Int32) ⊕ (Int32)) → Hp → Prop} (h : wpO (f_X7_areBeside_b34 x2 x4 s0 s1 σ) KL) (kn : ∀ (v : (Int32 × Int32)) (σ : Hp), KL (Sum.inl v) σ → WW l γ 1 5 ad shM 9 [(2, .int x2), (3, .int v.1), (4, .int v.2)] [] σ) (kx42 : ∀ (v : Int32) (σ : Hp), KL (Sum.inr v) σ → WW l γ 1 5 ad shM 42 [(3, .int v)] [] σ) : WW l γ 1 5 ad shM 34 [(2, .int x2), (4, .int x4)] [.int s1, .int s0] σ := by
  unfold f_X7_areBeside_b34 at h
  refine r_iadd hc dX7_areBeside_34 ?_
  refine r_istore_nE hc (i := 3) (lv' := [(3, .int (s0 + s1)), (2, .int x2), (4, .int x4)]) rfl rfl (by decide) rfl dX7_areBeside_35 ?_
  refine r_iincE hc (j := 2) (w := 1) (lv' := [(4, .int (x4 + 1)), (3, .int (s0 + s1)), (2, .int x2)]) rfl (by decide) rfl (by decide) rfl dX7_areBeside_36 ?_
  refine r_goto hc (tgt := 9) dX7_areBeside_39 (by decide) ?_
  refine r_sub [2, 1, 0] (lv' := [(2, .int x2), (3, .int (s0 + s1)), (4, .int (x4 + 1))]) rfl ?_
  have h := wp_v h
  exact kn ((s0 + s1), (x4 + 1)) _ h
noncomputable def f_X7_areBeside_L9 (x2 : Int32) (v : (Int32 × Int32)) (σ : Hp) : Option (((Int32 × Int32) ⊕ (Int32)) × Hp) := if 7 ≤ v.2 then (some (Sum.inr v.1, σ)) else (if ((x2 >>> ((3 * v.2) &&& 31)) &&& 7) = 0 then (f_X7_areBeside_b34 x2 v.2 v.1 0 σ) else (f_X7_areBeside_b34 x2 v.2 v.1 1 σ))
set_option maxRecDepth 100000 in
set_option maxHeartbeats 4000000 in
theorem t_X7_areBeside_L9 {l : Launch} {γ : Gm} {ad : Nat → Nat} {K : Option Value → Hp → Prop}  (hc : Cx l γ 1 5 ad shM RX7 cX7_areBeside (some .boolean) K) {x2 : Int32} {v : (Int32 × Int32)} {σ : Hp} {KX : (Int32) → Hp → Prop} (h : wpO (wh (f_X7_areBeside_L9 x2) v σ) KX) (kx42 : ∀ (v : Int32) (σ : Hp), KX v σ → WW l γ 1 5 ad shM 42 [(3, .int v)] [] σ) : WW l γ 1 5 ad shM 9 [(2, .int x2), (3, .int v.1), (4, .int v.2)] [] σ := by
  refine wh_W (P := fun v σ => WW l γ 1 5 ad shM 9 [(2, .int x2), (3, .int v.1), (4, .int v.2)] [] σ) (fun v σ h => ?_) h
  have kn : ∀ (v : (Int32 × Int32)) (σ : Hp), WW l γ 1 5 ad shM 9 [(2, .int x2), (3, .int v.1), (4, .int v.2)] [] σ → WW l γ 1 5 ad shM 9 [(2, .int x2), (3, .int v.1), (4, .int v.2)] [] σ := fun _ _ h => h
  · unfold f_X7_areBeside_L9 at h
    refine r_iload hc 2 rfl dX7_areBeside_9 ?_
    refine r_bipush hc (v := 7) (by decide) dX7_areBeside_11 ?_
    refine r_icmp_ge hc (tgt := 42) dX7_areBeside_13 (by decide) (fun c => ?_) (fun c => ?_)
    · have h := wp_t c h
      refine r_sub [1] (lv' := [(3, .int v.1)]) rfl ?_
      have h := wp_v h
      exact kx42 v.1 _ h
    · have h := wp_f c h
      refine r_iload_n hc 1 rfl rfl dX7_areBeside_16 ?_
      refine r_iload_n hc 0 rfl rfl dX7_areBeside_17 ?_
      refine r_iconst hc (v := 3) (by decide) dX7_areBeside_18 ?_
      refine r_iload hc 2 rfl dX7_areBeside_19 ?_
      refine r_imul hc dX7_areBeside_21 ?_
      refine r_ishr hc dX7_areBeside_22 ?_
      refine r_bipush hc (v := 7) (by decide) dX7_areBeside_23 ?_
      refine r_iand hc dX7_areBeside_25 ?_
      refine r_if_ne hc (tgt := 33) dX7_areBeside_26 (by decide) (fun c => ?_) (fun c => ?_)
      · have h := wp_f c h
        refine r_iconst hc (v := 1) (by decide) dX7_areBeside_33 ?_
        refine r_sub [0, 2] (lv' := [(2, .int x2), (4, .int v.2)]) rfl ?_
        exact t_X7_areBeside_b34 hc h kn kx42
      · have h := wp_t c h
        refine r_iconst hc (v := 0) (by decide) dX7_areBeside_29 ?_
        refine r_goto hc (tgt := 34) dX7_areBeside_30 (by decide) ?_
        refine r_sub [0, 2] (lv' := [(2, .int x2), (4, .int v.2)]) rfl ?_
        exact t_X7_areBeside_b34 hc h kn kx42
noncomputable def f_X7_areBeside_b52 (s0 : Int32) (σ : Hp) : Option (Int32 × Hp) := gO (zz s0) fun _ => some (s0, σ)
set_option maxRecDepth 100000 in
set_option maxHeartbeats 4000000 in
theorem t_X7_areBeside_b52 {l : Launch} {γ : Gm} {ad : Nat → Nat} {K : Option Value → Hp → Prop} (hc : Cx l γ 1 5 ad shM RX7 cX7_areBeside (some .boolean) K) {s0 : Int32} {σ : Hp} (h : wpO (f_X7_areBeside_b52 s0 σ) (KI K)) : WW l γ 1 5 ad shM 52 [] [.int s0] σ := by
  unfold f_X7_areBeside_b52 at h
  obtain ⟨_, ek1, h⟩ := wp_g h
  have h := wp_v h
  exact r_zret hc h (zz_of ek1) dX7_areBeside_52
noncomputable def f_X7_areBeside (x0 : Int32) (x1 : Int32) (σ : Hp) : Option (Int32 × Hp) := bO (wh (f_X7_areBeside_L9 (x0 ^^^ x1)) (0, 0) σ) fun y1 σ2 => (if y1 = 1 then (f_X7_areBeside_b52 1 σ2) else (f_X7_areBeside_b52 0 σ2))
set_option maxRecDepth 100000 in
set_option maxHeartbeats 4000000 in
theorem t_X7_areBeside {l : Launch} {γ : Gm} {ad : Nat → Nat} {K : Option Value → Hp → Prop} (hc : Cx l γ 1 5 ad shM RX7 cX7_areBeside (some .boolean) K) {x0 : Int32} {x1 : Int32} {σ : Hp} (h : wpO (f_X7_areBeside x0 x1 σ) (KI K)) : WW l γ 1 5 ad shM 0 [(0, .int x0), (1, .int x1)] [] σ := by
  unfold f_X7_areBeside at h
  refine r_iload_n hc 0 rfl rfl dX7_areBeside_0 ?_
  refine r_iload_n hc 1 rfl rfl dX7_areBeside_1 ?_
  refine r_ixor hc dX7_areBeside_2 ?_
  refine r_istore_nE hc (i := 2) (lv' := [(2, .int (x0 ^^^ x1)), (0, .int x0), (1, .int x1)]) rfl rfl (by decide) rfl dX7_areBeside_3 ?_
  refine r_iconst hc (v := 0) (by decide) dX7_areBeside_4 ?_
  refine r_istore_nE hc (i := 3) (lv' := [(3, .int 0), (2, .int (x0 ^^^ x1)), (0, .int x0), (1, .int x1)]) rfl rfl (by decide) rfl dX7_areBeside_5 ?_
  refine r_iconst hc (v := 0) (by decide) dX7_areBeside_6 ?_
  refine r_istoreE hc (i := 4) (lv' := [(4, .int 0), (3, .int 0), (2, .int (x0 ^^^ x1)), (0, .int x0), (1, .int x1)]) rfl (by decide) rfl dX7_areBeside_7 ?_
  refine r_sub [2, 1, 0] (lv' := [(2, .int (x0 ^^^ x1)), (3, .int 0), (4, .int 0)]) rfl ?_
  refine t_X7_areBeside_L9 hc (wp_bb h) ?_
  · intro y1 σ2 h
    refine r_iload_n hc 0 rfl rfl dX7_areBeside_42 ?_
    refine r_iconst hc (v := 1) (by decide) dX7_areBeside_43 ?_
    refine r_icmp_ne hc (tgt := 51) dX7_areBeside_44 (by decide) (fun c => ?_) (fun c => ?_)
    · have h := wp_f c h
      refine r_iconst hc (v := 0) (by decide) dX7_areBeside_51 ?_
      refine r_sub [] (lv' := []) rfl ?_
      exact t_X7_areBeside_b52 hc h
    · have h := wp_t c h
      refine r_iconst hc (v := 1) (by decide) dX7_areBeside_47 ?_
      refine r_goto hc (tgt := 52) dX7_areBeside_48 (by decide) ?_
      refine r_sub [] (lv' := []) rfl ?_
      exact t_X7_areBeside_b52 hc h
theorem c_X7_areBeside {l : Launch} {x0 : Int32} {x1 : Int32} {σ σ' : Hp} {r : Int32} (h : f_X7_areBeside x0 x1 σ = some (r, σ')) : Mt l yX7_areBeside cX7_areBeside 5 (some .boolean) 1 shM (fun ad => [.int x0, .int x1]) σ (fun ad => some (.int r)) σ' := mt_i (own := RX7) (by decide) rfl (fun _ => Nat.le_of_ble_eq_true rfl) (fun γ ad K hc hk => t_X7_areBeside hc ⟨_, _, h, hk⟩)

-- NetMapsModel.goes(I)I
theorem dX7_goes_0 : decode cX7_goes 0 = .ok (.iconst 1, 1) := by decide +kernel
theorem dX7_goes_1 : decode cX7_goes 1 = .ok (.istore_n 2, 1) := by decide +kernel
theorem dX7_goes_2 : decode cX7_goes 2 = .ok (.aload_n 0, 1) := by decide +kernel
theorem dX7_goes_3 : decode cX7_goes 3 = .ok (.getfield 51, 3) := by decide +kernel
theorem dX7_goes_6 : decode cX7_goes 6 = .ok (.iconst 0, 1) := by decide +kernel
theorem dX7_goes_7 : decode cX7_goes 7 = .ok (.iload_n 1, 1) := by decide +kernel
theorem dX7_goes_8 : decode cX7_goes 8 = .ok (.iastore, 1) := by decide +kernel
theorem dX7_goes_9 : decode cX7_goes 9 = .ok (.aload_n 0, 1) := by decide +kernel
theorem dX7_goes_10 : decode cX7_goes 10 = .ok (.getfield 48, 3) := by decide +kernel
theorem dX7_goes_13 : decode cX7_goes 13 = .ok (.iload_n 1, 1) := by decide +kernel
theorem dX7_goes_14 : decode cX7_goes 14 = .ok (.iconst 0, 1) := by decide +kernel
theorem dX7_goes_15 : decode cX7_goes 15 = .ok (.iastore, 1) := by decide +kernel
theorem dX7_goes_16 : decode cX7_goes 16 = .ok (.iconst 0, 1) := by decide +kernel
theorem dX7_goes_17 : decode cX7_goes 17 = .ok (.istore_n 3, 1) := by decide +kernel
theorem dX7_goes_18 : decode cX7_goes 18 = .ok (.iload_n 3, 1) := by decide +kernel
theorem dX7_goes_19 : decode cX7_goes 19 = .ok (.iload_n 2, 1) := by decide +kernel
theorem dX7_goes_20 : decode cX7_goes 20 = .ok (.if_icmp .ge 97, 3) := by decide +kernel
theorem dX7_goes_23 : decode cX7_goes 23 = .ok (.iconst 0, 1) := by decide +kernel
theorem dX7_goes_24 : decode cX7_goes 24 = .ok (.istore 4, 2) := by decide +kernel
theorem dX7_goes_26 : decode cX7_goes 26 = .ok (.iload 4, 2) := by decide +kernel
theorem dX7_goes_28 : decode cX7_goes 28 = .ok (.aload_n 0, 1) := by decide +kernel
theorem dX7_goes_29 : decode cX7_goes 29 = .ok (.getfield 282, 3) := by decide +kernel
theorem dX7_goes_32 : decode cX7_goes 32 = .ok (.if_icmp .ge 79, 3) := by decide +kernel
theorem dX7_goes_35 : decode cX7_goes 35 = .ok (.aload_n 0, 1) := by decide +kernel
theorem dX7_goes_36 : decode cX7_goes 36 = .ok (.getfield 48, 3) := by decide +kernel
theorem dX7_goes_39 : decode cX7_goes 39 = .ok (.iload 4, 2) := by decide +kernel
theorem dX7_goes_41 : decode cX7_goes 41 = .ok (.iaload, 1) := by decide +kernel
theorem dX7_goes_42 : decode cX7_goes 42 = .ok (.iconst (-1), 1) := by decide +kernel
theorem dX7_goes_43 : decode cX7_goes 43 = .ok (.if_icmp .ne 62, 3) := by decide +kernel
theorem dX7_goes_46 : decode cX7_goes 46 = .ok (.aload_n 0, 1) := by decide +kernel
theorem dX7_goes_47 : decode cX7_goes 47 = .ok (.getfield 45, 3) := by decide +kernel
theorem dX7_goes_50 : decode cX7_goes 50 = .ok (.aload_n 0, 1) := by decide +kernel
theorem dX7_goes_51 : decode cX7_goes 51 = .ok (.getfield 51, 3) := by decide +kernel
theorem dX7_goes_54 : decode cX7_goes 54 = .ok (.iload_n 3, 1) := by decide +kernel
theorem dX7_goes_55 : decode cX7_goes 55 = .ok (.iaload, 1) := by decide +kernel
theorem dX7_goes_56 : decode cX7_goes 56 = .ok (.iaload, 1) := by decide +kernel
theorem dX7_goes_57 : decode cX7_goes 57 = .ok (.aload_n 0, 1) := by decide +kernel
theorem dX7_goes_58 : decode cX7_goes 58 = .ok (.getfield 45, 3) := by decide +kernel
theorem dX7_goes_61 : decode cX7_goes 61 = .ok (.iload 4, 2) := by decide +kernel
theorem dX7_goes_63 : decode cX7_goes 63 = .ok (.iaload, 1) := by decide +kernel
theorem dX7_goes_64 : decode cX7_goes 64 = .ok (.invokestatic 285, 3) := by decide +kernel
theorem dX7_goes_67 : decode cX7_goes 67 = .ok (.ifCond .ne 6, 3) := by decide +kernel
theorem dX7_goes_70 : decode cX7_goes 70 = .ok (.goto 35, 3) := by decide +kernel
theorem dX7_goes_73 : decode cX7_goes 73 = .ok (.aload_n 0, 1) := by decide +kernel
theorem dX7_goes_74 : decode cX7_goes 74 = .ok (.getfield 48, 3) := by decide +kernel
theorem dX7_goes_77 : decode cX7_goes 77 = .ok (.iload 4, 2) := by decide +kernel
theorem dX7_goes_79 : decode cX7_goes 79 = .ok (.aload_n 0, 1) := by decide +kernel
theorem dX7_goes_80 : decode cX7_goes 80 = .ok (.getfield 48, 3) := by decide +kernel
theorem dX7_goes_83 : decode cX7_goes 83 = .ok (.aload_n 0, 1) := by decide +kernel
theorem dX7_goes_84 : decode cX7_goes 84 = .ok (.getfield 51, 3) := by decide +kernel
theorem dX7_goes_87 : decode cX7_goes 87 = .ok (.iload_n 3, 1) := by decide +kernel
theorem dX7_goes_88 : decode cX7_goes 88 = .ok (.iaload, 1) := by decide +kernel
theorem dX7_goes_89 : decode cX7_goes 89 = .ok (.iaload, 1) := by decide +kernel
theorem dX7_goes_90 : decode cX7_goes 90 = .ok (.iconst 1, 1) := by decide +kernel
theorem dX7_goes_91 : decode cX7_goes 91 = .ok (.iadd, 1) := by decide +kernel
theorem dX7_goes_92 : decode cX7_goes 92 = .ok (.iastore, 1) := by decide +kernel
theorem dX7_goes_93 : decode cX7_goes 93 = .ok (.aload_n 0, 1) := by decide +kernel
theorem dX7_goes_94 : decode cX7_goes 94 = .ok (.getfield 51, 3) := by decide +kernel
theorem dX7_goes_97 : decode cX7_goes 97 = .ok (.iload_n 2, 1) := by decide +kernel
theorem dX7_goes_98 : decode cX7_goes 98 = .ok (.iload 4, 2) := by decide +kernel
theorem dX7_goes_100 : decode cX7_goes 100 = .ok (.iastore, 1) := by decide +kernel
theorem dX7_goes_101 : decode cX7_goes 101 = .ok (.iload_n 2, 1) := by decide +kernel
theorem dX7_goes_102 : decode cX7_goes 102 = .ok (.iconst 1, 1) := by decide +kernel
theorem dX7_goes_103 : decode cX7_goes 103 = .ok (.iadd, 1) := by decide +kernel
theorem dX7_goes_104 : decode cX7_goes 104 = .ok (.istore_n 2, 1) := by decide +kernel
theorem dX7_goes_105 : decode cX7_goes 105 = .ok (.iinc 4 1, 3) := by decide +kernel
theorem dX7_goes_108 : decode cX7_goes 108 = .ok (.goto (-82), 3) := by decide +kernel
theorem dX7_goes_111 : decode cX7_goes 111 = .ok (.iinc 3 1, 3) := by decide +kernel
theorem dX7_goes_114 : decode cX7_goes 114 = .ok (.goto (-96), 3) := by decide +kernel
theorem dX7_goes_117 : decode cX7_goes 117 = .ok (.iload_n 2, 1) := by decide +kernel
theorem dX7_goes_118 : decode cX7_goes 118 = .ok (.ireturn, 1) := by decide +kernel
noncomputable def f_X7_goes_b105 (x0 : Nat) (x2 : Int32) (x3 : Int32) (x4 : Int32) (σ : Hp) : Option (((Int32 × Int32) ⊕ (Int32)) × Hp) := some (Sum.inl (x2, (x4 + 1)), σ)
set_option maxRecDepth 100000 in
set_option maxHeartbeats 4000000 in
theorem t_X7_goes_b105 {l : Launch} {γ : Gm} {ad : Nat → Nat} {K : Option Value → Hp → Prop} (hc : Cx l γ 2 5 ad shM RX7 cX7_goes (some .int) K) {x0 : Nat} {x2 : Int32} {x3 : Int32} {x4 : Int32}  {σ : Hp} {KL : ((Int32 × Int32) ⊕ (Int32)) → Hp → Prop} (h : wpO (f_X7_goes_b105 x0 x2 x3 x4 σ) KL) (kn : ∀ (v : (Int32 × Int32)) (σ : Hp), KL (Sum.inl v) σ → WW l γ 2 5 ad shM 26 [(0, .ref (ad x0)), (2, .int v.1), (3, .int x3), (4, .int v.2)] [] σ) (kx111 : ∀ (v : Int32) (σ : Hp), KL (Sum.inr v) σ → WW l γ 2 5 ad shM 111 [(0, .ref (ad x0)), (2, .int v), (3, .int x3)] [] σ) : WW l γ 2 5 ad shM 105 [(0, .ref (ad x0)), (2, .int x2), (3, .int x3), (4, .int x4)] [] σ := by
  unfold f_X7_goes_b105 at h
  refine r_iincE hc (j := 3) (w := 1) (lv' := [(4, .int (x4 + 1)), (0, .ref (ad x0)), (2, .int x2), (3, .int x3)]) rfl (by decide) rfl (by decide) rfl dX7_goes_105 ?_
  refine r_goto hc (tgt := 26) dX7_goes_108 (by decide) ?_
  refine r_sub [1, 2, 3, 0] (lv' := [(0, .ref (ad x0)), (2, .int x2), (3, .int x3), (4, .int (x4 + 1))]) rfl ?_
  have h := wp_v h
  exact kn (x2, (x4 + 1)) _ h
noncomputable def f_X7_goes_L26 (x0 : Nat) (x3 : Int32) (v : (Int32 × Int32)) (σ : Hp) : Option (((Int32 × Int32) ⊕ (Int32)) × Hp) := gO (getI shM 7 x0 24 σ) fun v1 => if v1 ≤ v.2 then (some (Sum.inr v.1, σ)) else (gO (getR shM 7 x0 22 σ) fun v2 => gO (aldI shM 0 v2 v.2 σ) fun v3 => if v3 = (-1) then (gO (getR shM 7 x0 21 σ) fun v4 => gO (getR shM 7 x0 23 σ) fun v5 => gO (aldI shM 0 v5 x3 σ) fun v6 => gO (aldI shM 0 v4 v6 σ) fun v7 => gO (getR shM 7 x0 21 σ) fun v8 => gO (aldI shM 0 v8 v.2 σ) fun v9 => bO (f_X7_areBeside v7 v9 σ) fun r10 σ11 => if r10 = 0 then (f_X7_goes_b105 x0 v.1 x3 v.2 σ11) else (gO (getR shM 7 x0 22 σ11) fun v12 => gO (getR shM 7 x0 22 σ11) fun v13 => gO (getR shM 7 x0 23 σ11) fun v14 => gO (aldI shM 0 v14 x3 σ11) fun v15 => gO (aldI shM 0 v13 v15 σ11) fun v16 => gO (astI shM 0 v12 v.2 (v16 + 1) σ11) fun σ17 => gO (getR shM 7 x0 23 σ17) fun v18 => gO (astI shM 0 v18 v.1 v.2 σ17) fun σ19 => f_X7_goes_b105 x0 (v.1 + 1) x3 v.2 σ19)) else (f_X7_goes_b105 x0 v.1 x3 v.2 σ))
set_option maxRecDepth 100000 in
set_option maxHeartbeats 4000000 in
theorem t_X7_goes_L26 {l : Launch} {γ : Gm} {ad : Nat → Nat} {K : Option Value → Hp → Prop}  (hc : Cx l γ 2 5 ad shM RX7 cX7_goes (some .int) K) {x0 : Nat} {x3 : Int32} {v : (Int32 × Int32)} {σ : Hp} {KX : (Int32) → Hp → Prop} (h : wpO (wh (f_X7_goes_L26 x0 x3) v σ) KX) (kx111 : ∀ (v : Int32) (σ : Hp), KX v σ → WW l γ 2 5 ad shM 111 [(0, .ref (ad x0)), (2, .int v), (3, .int x3)] [] σ) : WW l γ 2 5 ad shM 26 [(0, .ref (ad x0)), (2, .int v.1), (3, .int x3), (4, .int v.2)] [] σ := by
  refine wh_W (P := fun v σ => WW l γ 2 5 ad shM 26 [(0, .ref (ad x0)), (2, .int v.1), (3, .int x3), (4, .int v.2)] [] σ) (fun v σ h => ?_) h
  have kn : ∀ (v : (Int32 × Int32)) (σ : Hp), WW l γ 2 5 ad shM 26 [(0, .ref (ad x0)), (2, .int v.1), (3, .int x3), (4, .int v.2)] [] σ → WW l γ 2 5 ad shM 26 [(0, .ref (ad x0)), (2, .int v.1), (3, .int x3), (4, .int v.2)] [] σ := fun _ _ h => h
  · unfold f_X7_goes_L26 at h
    refine r_iload hc 3 rfl dX7_goes_26 ?_
    refine r_aload_n hc 0 rfl rfl dX7_goes_28 ?_
    obtain ⟨v1, ev1, h⟩ := wp_g h
    refine r_getI hc ev1 fl_X7_282 rfl dX7_goes_29 ?_
    refine r_icmp_ge hc (tgt := 111) dX7_goes_32 (by decide) (fun c => ?_) (fun c => ?_)
    · have h := wp_t c h
      refine r_sub [0, 1, 2] (lv' := [(0, .ref (ad x0)), (2, .int v.1), (3, .int x3)]) rfl ?_
      have h := wp_v h
      exact kx111 v.1 _ h
    · have h := wp_f c h
      refine r_aload_n hc 0 rfl rfl dX7_goes_35 ?_
      obtain ⟨v2, ev2, h⟩ := wp_g h
      refine r_getR hc ev2 fl_X7_48 rfl dX7_goes_36 ?_
      refine r_iload hc 3 rfl dX7_goes_39 ?_
      obtain ⟨v3, ev3, h⟩ := wp_g h
      refine r_iald hc ev3 dX7_goes_41 ?_
      refine r_iconst hc (v := (-1)) (by decide) dX7_goes_42 ?_
      refine r_icmp_ne hc (tgt := 105) dX7_goes_43 (by decide) (fun c => ?_) (fun c => ?_)
      · have h := wp_f c h
        exact t_X7_goes_b105 hc h kn kx111
      · have h := wp_t c h
        refine r_aload_n hc 0 rfl rfl dX7_goes_46 ?_
        obtain ⟨v4, ev4, h⟩ := wp_g h
        refine r_getR hc ev4 fl_X7_45 rfl dX7_goes_47 ?_
        refine r_aload_n hc 0 rfl rfl dX7_goes_50 ?_
        obtain ⟨v5, ev5, h⟩ := wp_g h
        refine r_getR hc ev5 fl_X7_51 rfl dX7_goes_51 ?_
        refine r_iload_n hc 2 rfl rfl dX7_goes_54 ?_
        obtain ⟨v6, ev6, h⟩ := wp_g h
        refine r_iald hc ev6 dX7_goes_55 ?_
        obtain ⟨v7, ev7, h⟩ := wp_g h
        refine r_iald hc ev7 dX7_goes_56 ?_
        refine r_aload_n hc 0 rfl rfl dX7_goes_57 ?_
        obtain ⟨v8, ev8, h⟩ := wp_g h
        refine r_getR hc ev8 fl_X7_45 rfl dX7_goes_58 ?_
        refine r_iload hc 3 rfl dX7_goes_61 ?_
        obtain ⟨v9, ev9, h⟩ := wp_g h
        refine r_iald hc ev9 dX7_goes_63 ?_
        obtain ⟨r10, σ11, er10, h⟩ := wp_b h
        refine r_callS hc ms_X7_areBeside ml_X7_285 (c_X7_areBeside er10) rfl rfl (by decide) rfl (Nat.le_of_ble_eq_true rfl) dX7_goes_64 ?_
        refine r_if_ne hc (tgt := 73) dX7_goes_67 (by decide) (fun c => ?_) (fun c => ?_)
        · have h := wp_f c h
          refine r_aload_n hc 0 rfl rfl dX7_goes_73 ?_
          obtain ⟨v12, ev12, h⟩ := wp_g h
          refine r_getR hc ev12 fl_X7_48 rfl dX7_goes_74 ?_
          refine r_iload hc 3 rfl dX7_goes_77 ?_
          refine r_aload_n hc 0 rfl rfl dX7_goes_79 ?_
          obtain ⟨v13, ev13, h⟩ := wp_g h
          refine r_getR hc ev13 fl_X7_48 rfl dX7_goes_80 ?_
          refine r_aload_n hc 0 rfl rfl dX7_goes_83 ?_
          obtain ⟨v14, ev14, h⟩ := wp_g h
          refine r_getR hc ev14 fl_X7_51 rfl dX7_goes_84 ?_
          refine r_iload_n hc 2 rfl rfl dX7_goes_87 ?_
          obtain ⟨v15, ev15, h⟩ := wp_g h
          refine r_iald hc ev15 dX7_goes_88 ?_
          obtain ⟨v16, ev16, h⟩ := wp_g h
          refine r_iald hc ev16 dX7_goes_89 ?_
          refine r_iconst hc (v := 1) (by decide) dX7_goes_90 ?_
          refine r_iadd hc dX7_goes_91 ?_
          obtain ⟨σ17, eσ17, h⟩ := wp_g h
          refine r_iast hc eσ17 dX7_goes_92 ?_
          refine r_aload_n hc 0 rfl rfl dX7_goes_93 ?_
          obtain ⟨v18, ev18, h⟩ := wp_g h
          refine r_getR hc ev18 fl_X7_51 rfl dX7_goes_94 ?_
          refine r_iload_n hc 1 rfl rfl dX7_goes_97 ?_
          refine r_iload hc 3 rfl dX7_goes_98 ?_
          obtain ⟨σ19, eσ19, h⟩ := wp_g h
          refine r_iast hc eσ19 dX7_goes_100 ?_
          refine r_iload_n hc 1 rfl rfl dX7_goes_101 ?_
          refine r_iconst hc (v := 1) (by decide) dX7_goes_102 ?_
          refine r_iadd hc dX7_goes_103 ?_
          refine r_istore_nE hc (i := 2) (lv' := [(2, .int (v.1 + 1)), (0, .ref (ad x0)), (3, .int x3), (4, .int v.2)]) rfl rfl (by decide) rfl dX7_goes_104 ?_
          refine r_sub [1, 0, 2, 3] (lv' := [(0, .ref (ad x0)), (2, .int (v.1 + 1)), (3, .int x3), (4, .int v.2)]) rfl ?_
          exact t_X7_goes_b105 hc h kn kx111
        · have h := wp_t c h
          refine r_goto hc (tgt := 105) dX7_goes_70 (by decide) ?_
          exact t_X7_goes_b105 hc h kn kx111
noncomputable def f_X7_goes_L18 (x0 : Nat) (v : (Int32 × Int32)) (σ : Hp) : Option (((Int32 × Int32) ⊕ (Int32)) × Hp) := if v.1 ≤ v.2 then (some (Sum.inr v.1, σ)) else (bO (wh (f_X7_goes_L26 x0 v.2) (v.1, 0) σ) fun y1 σ2 => (some (Sum.inl (y1, (v.2 + 1)), σ2)))
set_option maxRecDepth 100000 in
set_option maxHeartbeats 4000000 in
theorem t_X7_goes_L18 {l : Launch} {γ : Gm} {ad : Nat → Nat} {K : Option Value → Hp → Prop}  (hc : Cx l γ 2 5 ad shM RX7 cX7_goes (some .int) K) {x0 : Nat} {v : (Int32 × Int32)} {σ : Hp} {KX : (Int32) → Hp → Prop} (h : wpO (wh (f_X7_goes_L18 x0) v σ) KX) (kx117 : ∀ (v : Int32) (σ : Hp), KX v σ → WW l γ 2 5 ad shM 117 [(2, .int v)] [] σ) : WW l γ 2 5 ad shM 18 [(0, .ref (ad x0)), (2, .int v.1), (3, .int v.2)] [] σ := by
  refine wh_W (P := fun v σ => WW l γ 2 5 ad shM 18 [(0, .ref (ad x0)), (2, .int v.1), (3, .int v.2)] [] σ) (fun v σ h => ?_) h
  have kn : ∀ (v : (Int32 × Int32)) (σ : Hp), WW l γ 2 5 ad shM 18 [(0, .ref (ad x0)), (2, .int v.1), (3, .int v.2)] [] σ → WW l γ 2 5 ad shM 18 [(0, .ref (ad x0)), (2, .int v.1), (3, .int v.2)] [] σ := fun _ _ h => h
  · unfold f_X7_goes_L18 at h
    refine r_iload_n hc 2 rfl rfl dX7_goes_18 ?_
    refine r_iload_n hc 1 rfl rfl dX7_goes_19 ?_
    refine r_icmp_ge hc (tgt := 117) dX7_goes_20 (by decide) (fun c => ?_) (fun c => ?_)
    · have h := wp_t c h
      refine r_sub [1] (lv' := [(2, .int v.1)]) rfl ?_
      have h := wp_v h
      exact kx117 v.1 _ h
    · have h := wp_f c h
      refine r_iconst hc (v := 0) (by decide) dX7_goes_23 ?_
      refine r_istoreE hc (i := 4) (lv' := [(4, .int 0), (0, .ref (ad x0)), (2, .int v.1), (3, .int v.2)]) rfl (by decide) rfl dX7_goes_24 ?_
      refine r_sub [1, 2, 3, 0] (lv' := [(0, .ref (ad x0)), (2, .int v.1), (3, .int v.2), (4, .int 0)]) rfl ?_
      refine t_X7_goes_L26 hc (wp_bb h) ?_
      · intro y1 σ2 h
        refine r_iincE hc (j := 2) (w := 1) (lv' := [(3, .int (v.2 + 1)), (0, .ref (ad x0)), (2, .int y1)]) rfl (by decide) rfl (by decide) rfl dX7_goes_111 ?_
        refine r_goto hc (tgt := 18) dX7_goes_114 (by decide) ?_
        refine r_sub [1, 2, 0] (lv' := [(0, .ref (ad x0)), (2, .int y1), (3, .int (v.2 + 1))]) rfl ?_
        have h := wp_v h
        exact kn (y1, (v.2 + 1)) _ h
noncomputable def f_X7_goes (x0 : Nat) (x1 : Int32) (σ : Hp) : Option (Int32 × Hp) := gO (getR shM 7 x0 23 σ) fun v1 => gO (astI shM 0 v1 0 x1 σ) fun σ2 => gO (getR shM 7 x0 22 σ2) fun v3 => gO (astI shM 0 v3 x1 0 σ2) fun σ4 => bO (wh (f_X7_goes_L18 x0) (1, 0) σ4) fun y5 σ6 => (some (y5, σ6))
set_option maxRecDepth 100000 in
set_option maxHeartbeats 4000000 in
theorem t_X7_goes {l : Launch} {γ : Gm} {ad : Nat → Nat} {K : Option Value → Hp → Prop} (hc : Cx l γ 2 5 ad shM RX7 cX7_goes (some .int) K) {x0 : Nat} {x1 : Int32} {σ : Hp} (h : wpO (f_X7_goes x0 x1 σ) (KI K)) : WW l γ 2 5 ad shM 0 [(0, .ref (ad x0)), (1, .int x1)] [] σ := by
  unfold f_X7_goes at h
  refine r_iconst hc (v := 1) (by decide) dX7_goes_0 ?_
  refine r_istore_nE hc (i := 2) (lv' := [(2, .int 1), (0, .ref (ad x0)), (1, .int x1)]) rfl rfl (by decide) rfl dX7_goes_1 ?_
  refine r_aload_n hc 1 rfl rfl dX7_goes_2 ?_
  obtain ⟨v1, ev1, h⟩ := wp_g h
  refine r_getR hc ev1 fl_X7_51 rfl dX7_goes_3 ?_
  refine r_iconst hc (v := 0) (by decide) dX7_goes_6 ?_
  refine r_iload_n hc 2 rfl rfl dX7_goes_7 ?_
  obtain ⟨σ2, eσ2, h⟩ := wp_g h
  refine r_iast hc eσ2 dX7_goes_8 ?_
  refine r_aload_n hc 1 rfl rfl dX7_goes_9 ?_
  obtain ⟨v3, ev3, h⟩ := wp_g h
  refine r_getR hc ev3 fl_X7_48 rfl dX7_goes_10 ?_
  refine r_iload_n hc 2 rfl rfl dX7_goes_13 ?_
  refine r_iconst hc (v := 0) (by decide) dX7_goes_14 ?_
  obtain ⟨σ4, eσ4, h⟩ := wp_g h
  refine r_iast hc eσ4 dX7_goes_15 ?_
  refine r_iconst hc (v := 0) (by decide) dX7_goes_16 ?_
  refine r_istore_nE hc (i := 3) (lv' := [(3, .int 0), (2, .int 1), (0, .ref (ad x0)), (1, .int x1)]) rfl rfl (by decide) rfl dX7_goes_17 ?_
  refine r_sub [2, 1, 0] (lv' := [(0, .ref (ad x0)), (2, .int 1), (3, .int 0)]) rfl ?_
  refine t_X7_goes_L18 hc (wp_bb h) ?_
  · intro y5 σ6 h
    refine r_iload_n hc 0 rfl rfl dX7_goes_117 ?_
    have h := wp_v h
    exact r_iret hc h dX7_goes_118
theorem c_X7_goes {l : Launch} {x0 : Nat} {x1 : Int32} {σ σ' : Hp} {r : Int32} (h : f_X7_goes x0 x1 σ = some (r, σ')) : Mt l yX7_goes cX7_goes 5 (some .int) 2 shM (fun ad => [.ref (ad x0), .int x1]) σ (fun ad => some (.int r)) σ' := mt_i (own := RX7) (by decide) rfl (fun _ => Nat.le_of_ble_eq_true rfl) (fun γ ad K hc hk => t_X7_goes hc ⟨_, _, h, hk⟩)
