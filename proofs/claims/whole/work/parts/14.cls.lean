-- NetMaps$Search.narrow()V
theorem dX4_narrow_0 : decode cX4_narrow 0 = .ok (.iconst 1, 1) := by decide +kernel
theorem dX4_narrow_1 : decode cX4_narrow 1 = .ok (.istore_n 1, 1) := by decide +kernel
theorem dX4_narrow_2 : decode cX4_narrow 2 = .ok (.iconst 0, 1) := by decide +kernel
theorem dX4_narrow_3 : decode cX4_narrow 3 = .ok (.istore_n 2, 1) := by decide +kernel
theorem dX4_narrow_4 : decode cX4_narrow 4 = .ok (.iload_n 2, 1) := by decide +kernel
theorem dX4_narrow_5 : decode cX4_narrow 5 = .ok (.bipush 49, 2) := by decide +kernel
theorem dX4_narrow_7 : decode cX4_narrow 7 = .ok (.if_icmp .gt 68, 3) := by decide +kernel
theorem dX4_narrow_10 : decode cX4_narrow 10 = .ok (.iload_n 1, 1) := by decide +kernel
theorem dX4_narrow_11 : decode cX4_narrow 11 = .ok (.ifCond .eq 64, 3) := by decide +kernel
theorem dX4_narrow_14 : decode cX4_narrow 14 = .ok (.iconst 0, 1) := by decide +kernel
theorem dX4_narrow_15 : decode cX4_narrow 15 = .ok (.istore_n 1, 1) := by decide +kernel
theorem dX4_narrow_16 : decode cX4_narrow 16 = .ok (.iconst 0, 1) := by decide +kernel
theorem dX4_narrow_17 : decode cX4_narrow 17 = .ok (.istore_n 3, 1) := by decide +kernel
theorem dX4_narrow_18 : decode cX4_narrow 18 = .ok (.iload_n 3, 1) := by decide +kernel
theorem dX4_narrow_19 : decode cX4_narrow 19 = .ok (.aload_n 0, 1) := by decide +kernel
theorem dX4_narrow_20 : decode cX4_narrow 20 = .ok (.getfield 12, 3) := by decide +kernel
theorem dX4_narrow_23 : decode cX4_narrow 23 = .ok (.getfield 40, 3) := by decide +kernel
theorem dX4_narrow_26 : decode cX4_narrow 26 = .ok (.if_icmp .ge 43, 3) := by decide +kernel
theorem dX4_narrow_29 : decode cX4_narrow 29 = .ok (.aload_n 0, 1) := by decide +kernel
theorem dX4_narrow_30 : decode cX4_narrow 30 = .ok (.iload_n 3, 1) := by decide +kernel
theorem dX4_narrow_31 : decode cX4_narrow 31 = .ok (.invokevirtual 111, 3) := by decide +kernel
theorem dX4_narrow_34 : decode cX4_narrow 34 = .ok (.istore 4, 2) := by decide +kernel
theorem dX4_narrow_36 : decode cX4_narrow 36 = .ok (.iload_n 1, 1) := by decide +kernel
theorem dX4_narrow_37 : decode cX4_narrow 37 = .ok (.iload 4, 2) := by decide +kernel
theorem dX4_narrow_39 : decode cX4_narrow 39 = .ok (.aload_n 0, 1) := by decide +kernel
theorem dX4_narrow_40 : decode cX4_narrow 40 = .ok (.getfield 21, 3) := by decide +kernel
theorem dX4_narrow_43 : decode cX4_narrow 43 = .ok (.iload_n 3, 1) := by decide +kernel
theorem dX4_narrow_44 : decode cX4_narrow 44 = .ok (.iaload, 1) := by decide +kernel
theorem dX4_narrow_45 : decode cX4_narrow 45 = .ok (.if_icmp .eq 7, 3) := by decide +kernel
theorem dX4_narrow_48 : decode cX4_narrow 48 = .ok (.iconst 1, 1) := by decide +kernel
theorem dX4_narrow_49 : decode cX4_narrow 49 = .ok (.goto 4, 3) := by decide +kernel
theorem dX4_narrow_52 : decode cX4_narrow 52 = .ok (.iconst 0, 1) := by decide +kernel
theorem dX4_narrow_53 : decode cX4_narrow 53 = .ok (.ior, 1) := by decide +kernel
theorem dX4_narrow_54 : decode cX4_narrow 54 = .ok (.istore_n 1, 1) := by decide +kernel
theorem dX4_narrow_55 : decode cX4_narrow 55 = .ok (.aload_n 0, 1) := by decide +kernel
theorem dX4_narrow_56 : decode cX4_narrow 56 = .ok (.getfield 21, 3) := by decide +kernel
theorem dX4_narrow_59 : decode cX4_narrow 59 = .ok (.iload_n 3, 1) := by decide +kernel
theorem dX4_narrow_60 : decode cX4_narrow 60 = .ok (.iload 4, 2) := by decide +kernel
theorem dX4_narrow_62 : decode cX4_narrow 62 = .ok (.iastore, 1) := by decide +kernel
theorem dX4_narrow_63 : decode cX4_narrow 63 = .ok (.iinc 3 1, 3) := by decide +kernel
theorem dX4_narrow_66 : decode cX4_narrow 66 = .ok (.goto (-48), 3) := by decide +kernel
theorem dX4_narrow_69 : decode cX4_narrow 69 = .ok (.iinc 2 1, 3) := by decide +kernel
theorem dX4_narrow_72 : decode cX4_narrow 72 = .ok (.goto (-68), 3) := by decide +kernel
theorem dX4_narrow_75 : decode cX4_narrow 75 = .ok (.return_, 1) := by decide +kernel
noncomputable def f_X4_narrow_b53 (x0 : Nat) (x2 : Int32) (x3 : Int32) (x4 : Int32) (s0 : Int32) (s1 : Int32) (σ : Hp) : Option (((Int32 × Int32) ⊕ (Int32)) × Hp) := gO (getR shC 4 x0 2 σ) fun v1 => gO (astI shC 0 v1 x3 x4 σ) fun σ2 => some (Sum.inl ((s0 ||| s1), (x3 + 1)), σ2)
set_option maxRecDepth 100000 in
set_option maxHeartbeats 4000000 in
theorem t_X4_narrow_b53 {l : Launch} {γ : Gm} {ad : Nat → Nat} {K : Option Value → Hp → Prop} (hc : Cx l γ 4 5 ad shC RX4 cX4_narrow none K) {x0 : Nat} {x2 : Int32} {x3 : Int32} {x4 : Int32} {s0 : Int32} {s1 : Int32}  {σ : Hp} {KL : ((Int32 × Int32) ⊕ (Int32)) → Hp → Prop} (h : wpO (f_X4_narrow_b53 x0 x2 x3 x4 s0 s1 σ) KL) (kn : ∀ (v : (Int32 × Int32)) (σ : Hp), KL (Sum.inl v) σ → WW l γ 4 5 ad shC 18 [(0, .ref (ad x0)), (1, .int v.1), (2, .int x2), (3, .int v.2)] [] σ) (kx69 : ∀ (v : Int32) (σ : Hp), KL (Sum.inr v) σ → WW l γ 4 5 ad shC 69 [(0, .ref (ad x0)), (1, .int v), (2, .int x2)] [] σ) : WW l γ 4 5 ad shC 53 [(0, .ref (ad x0)), (2, .int x2), (3, .int x3), (4, .int x4)] [.int s1, .int s0] σ := by
  unfold f_X4_narrow_b53 at h
  refine r_ior hc dX4_narrow_53 ?_
  refine r_istore_nE hc (i := 1) (lv' := [(1, .int (s0 ||| s1)), (0, .ref (ad x0)), (2, .int x2), (3, .int x3), (4, .int x4)]) rfl rfl (by decide) rfl dX4_narrow_54 ?_
  refine r_aload_n hc 1 rfl rfl dX4_narrow_55 ?_
  obtain ⟨v1, ev1, h⟩ := wp_g h
  refine r_getR hc ev1 fl_X4_21 rfl dX4_narrow_56 ?_
  refine r_iload_n hc 3 rfl rfl dX4_narrow_59 ?_
  refine r_iload hc 4 rfl dX4_narrow_60 ?_
  obtain ⟨σ2, eσ2, h⟩ := wp_g h
  refine r_iast hc eσ2 dX4_narrow_62 ?_
  refine r_iincE hc (j := 3) (w := 1) (lv' := [(3, .int (x3 + 1)), (1, .int (s0 ||| s1)), (0, .ref (ad x0)), (2, .int x2), (4, .int x4)]) rfl (by decide) rfl (by decide) rfl dX4_narrow_63 ?_
  refine r_goto hc (tgt := 18) dX4_narrow_66 (by decide) ?_
  refine r_sub [2, 1, 3, 0] (lv' := [(0, .ref (ad x0)), (1, .int (s0 ||| s1)), (2, .int x2), (3, .int (x3 + 1))]) rfl ?_
  have h := wp_v h
  exact kn ((s0 ||| s1), (x3 + 1)) _ h
noncomputable def f_X4_narrow_L18 (x0 : Nat) (x2 : Int32) (v : (Int32 × Int32)) (σ : Hp) : Option (((Int32 × Int32) ⊕ (Int32)) × Hp) := gO (getR shC 4 x0 0 σ) fun v1 => gO (getI shC 1 v1 0 σ) fun v2 => if v2 ≤ v.2 then (some (Sum.inr v.1, σ)) else (gO (chk shC x0 4) fun _ => bO (f_X4_backed x0 v.2 σ) fun r3 σ4 => gO (getR shC 4 x0 2 σ4) fun v6 => gO (aldI shC 0 v6 v.2 σ4) fun v7 => if r3 = v7 then (f_X4_narrow_b53 x0 x2 v.2 r3 v.1 0 σ4) else (f_X4_narrow_b53 x0 x2 v.2 r3 v.1 1 σ4))
set_option maxRecDepth 100000 in
set_option maxHeartbeats 4000000 in
theorem t_X4_narrow_L18 {l : Launch} {γ : Gm} {ad : Nat → Nat} {K : Option Value → Hp → Prop}  (hc : Cx l γ 4 5 ad shC RX4 cX4_narrow none K) {x0 : Nat} {x2 : Int32} {v : (Int32 × Int32)} {σ : Hp} {KX : (Int32) → Hp → Prop} (h : wpO (wh (f_X4_narrow_L18 x0 x2) v σ) KX) (kx69 : ∀ (v : Int32) (σ : Hp), KX v σ → WW l γ 4 5 ad shC 69 [(0, .ref (ad x0)), (1, .int v), (2, .int x2)] [] σ) : WW l γ 4 5 ad shC 18 [(0, .ref (ad x0)), (1, .int v.1), (2, .int x2), (3, .int v.2)] [] σ := by
  refine wh_W (P := fun v σ => WW l γ 4 5 ad shC 18 [(0, .ref (ad x0)), (1, .int v.1), (2, .int x2), (3, .int v.2)] [] σ) (fun v σ h => ?_) h
  have kn : ∀ (v : (Int32 × Int32)) (σ : Hp), WW l γ 4 5 ad shC 18 [(0, .ref (ad x0)), (1, .int v.1), (2, .int x2), (3, .int v.2)] [] σ → WW l γ 4 5 ad shC 18 [(0, .ref (ad x0)), (1, .int v.1), (2, .int x2), (3, .int v.2)] [] σ := fun _ _ h => h
  · unfold f_X4_narrow_L18 at h
    refine r_iload_n hc 3 rfl rfl dX4_narrow_18 ?_
    refine r_aload_n hc 0 rfl rfl dX4_narrow_19 ?_
    obtain ⟨v1, ev1, h⟩ := wp_g h
    refine r_getR hc ev1 fl_X4_12 rfl dX4_narrow_20 ?_
    obtain ⟨v2, ev2, h⟩ := wp_g h
    refine r_getI hc ev2 fl_X4_40 rfl dX4_narrow_23 ?_
    refine r_icmp_ge hc (tgt := 69) dX4_narrow_26 (by decide) (fun c => ?_) (fun c => ?_)
    · have h := wp_t c h
      refine r_sub [0, 1, 2] (lv' := [(0, .ref (ad x0)), (1, .int v.1), (2, .int x2)]) rfl ?_
      have h := wp_v h
      exact kx69 v.1 _ h
    · have h := wp_f c h
      refine r_aload_n hc 0 rfl rfl dX4_narrow_29 ?_
      refine r_iload_n hc 3 rfl rfl dX4_narrow_30 ?_
      obtain ⟨_, ek5, h⟩ := wp_g h
      obtain ⟨r3, σ4, er3, h⟩ := wp_b h
      refine r_callV hc (k0 := x0) mv_X4_backed ml_X4_111 (c_X4_backed er3) (chk_of ek5) cls_4.1 rfl rfl rfl (by decide) rfl (Nat.le_of_ble_eq_true rfl) dX4_narrow_31 ?_
      refine r_istoreE hc (i := 4) (lv' := [(4, .int r3), (0, .ref (ad x0)), (1, .int v.1), (2, .int x2), (3, .int v.2)]) rfl (by decide) rfl dX4_narrow_34 ?_
      refine r_iload_n hc 2 rfl rfl dX4_narrow_36 ?_
      refine r_iload hc 0 rfl dX4_narrow_37 ?_
      refine r_aload_n hc 1 rfl rfl dX4_narrow_39 ?_
      obtain ⟨v6, ev6, h⟩ := wp_g h
      refine r_getR hc ev6 fl_X4_21 rfl dX4_narrow_40 ?_
      refine r_iload_n hc 4 rfl rfl dX4_narrow_43 ?_
      obtain ⟨v7, ev7, h⟩ := wp_g h
      refine r_iald hc ev7 dX4_narrow_44 ?_
      refine r_icmp_eq hc (tgt := 52) dX4_narrow_45 (by decide) (fun c => ?_) (fun c => ?_)
      · have h := wp_t c h
        refine r_iconst hc (v := 0) (by decide) dX4_narrow_52 ?_
        refine r_sub [1, 3, 4, 0] (lv' := [(0, .ref (ad x0)), (2, .int x2), (3, .int v.2), (4, .int r3)]) rfl ?_
        exact t_X4_narrow_b53 hc h kn kx69
      · have h := wp_f c h
        refine r_iconst hc (v := 1) (by decide) dX4_narrow_48 ?_
        refine r_goto hc (tgt := 53) dX4_narrow_49 (by decide) ?_
        refine r_sub [1, 3, 4, 0] (lv' := [(0, .ref (ad x0)), (2, .int x2), (3, .int v.2), (4, .int r3)]) rfl ?_
        exact t_X4_narrow_b53 hc h kn kx69
noncomputable def f_X4_narrow_L4 (x0 : Nat) (v : (Int32 × Int32)) (σ : Hp) : Option (((Int32 × Int32) ⊕ (Unit)) × Hp) := if 49 < v.2 then (some (Sum.inr (), σ)) else (if v.1 = 0 then (some (Sum.inr (), σ)) else (bO (wh (f_X4_narrow_L18 x0 v.2) (0, 0) σ) fun y1 σ2 => (some (Sum.inl (y1, (v.2 + 1)), σ2))))
set_option maxRecDepth 100000 in
set_option maxHeartbeats 4000000 in
theorem t_X4_narrow_L4 {l : Launch} {γ : Gm} {ad : Nat → Nat} {K : Option Value → Hp → Prop}  (hc : Cx l γ 4 5 ad shC RX4 cX4_narrow none K) {x0 : Nat} {v : (Int32 × Int32)} {σ : Hp} {KX : (Unit) → Hp → Prop} (h : wpO (wh (f_X4_narrow_L4 x0) v σ) KX) (kx75 : ∀ (v : Unit) (σ : Hp), KX v σ → WW l γ 4 5 ad shC 75 [] [] σ) : WW l γ 4 5 ad shC 4 [(0, .ref (ad x0)), (1, .int v.1), (2, .int v.2)] [] σ := by
  refine wh_W (P := fun v σ => WW l γ 4 5 ad shC 4 [(0, .ref (ad x0)), (1, .int v.1), (2, .int v.2)] [] σ) (fun v σ h => ?_) h
  have kn : ∀ (v : (Int32 × Int32)) (σ : Hp), WW l γ 4 5 ad shC 4 [(0, .ref (ad x0)), (1, .int v.1), (2, .int v.2)] [] σ → WW l γ 4 5 ad shC 4 [(0, .ref (ad x0)), (1, .int v.1), (2, .int v.2)] [] σ := fun _ _ h => h
  · unfold f_X4_narrow_L4 at h
    refine r_iload_n hc 2 rfl rfl dX4_narrow_4 ?_
    refine r_bipush hc (v := 49) (by decide) dX4_narrow_5 ?_
    refine r_icmp_gt hc (tgt := 75) dX4_narrow_7 (by decide) (fun c => ?_) (fun c => ?_)
    · have h := wp_t c h
      refine r_sub [] (lv' := []) rfl ?_
      have h := wp_v h
      exact kx75 () _ h
    · have h := wp_f c h
      refine r_iload_n hc 1 rfl rfl dX4_narrow_10 ?_
      refine r_if_eq hc (tgt := 75) dX4_narrow_11 (by decide) (fun c => ?_) (fun c => ?_)
      · have h := wp_t c h
        refine r_sub [] (lv' := []) rfl ?_
        have h := wp_v h
        exact kx75 () _ h
      · have h := wp_f c h
        refine r_iconst hc (v := 0) (by decide) dX4_narrow_14 ?_
        refine r_istore_nE hc (i := 1) (lv' := [(1, .int 0), (0, .ref (ad x0)), (2, .int v.2)]) rfl rfl (by decide) rfl dX4_narrow_15 ?_
        refine r_iconst hc (v := 0) (by decide) dX4_narrow_16 ?_
        refine r_istore_nE hc (i := 3) (lv' := [(3, .int 0), (1, .int 0), (0, .ref (ad x0)), (2, .int v.2)]) rfl rfl (by decide) rfl dX4_narrow_17 ?_
        refine r_sub [2, 1, 3, 0] (lv' := [(0, .ref (ad x0)), (1, .int 0), (2, .int v.2), (3, .int 0)]) rfl ?_
        refine t_X4_narrow_L18 hc (wp_bb h) ?_
        · intro y1 σ2 h
          refine r_iincE hc (j := 2) (w := 1) (lv' := [(2, .int (v.2 + 1)), (0, .ref (ad x0)), (1, .int y1)]) rfl (by decide) rfl (by decide) rfl dX4_narrow_69 ?_
          refine r_goto hc (tgt := 4) dX4_narrow_72 (by decide) ?_
          refine r_sub [1, 2, 0] (lv' := [(0, .ref (ad x0)), (1, .int y1), (2, .int (v.2 + 1))]) rfl ?_
          have h := wp_v h
          exact kn (y1, (v.2 + 1)) _ h
noncomputable def f_X4_narrow_b75  (σ : Hp) : Option (Unit × Hp) := some ((), σ)
set_option maxRecDepth 100000 in
set_option maxHeartbeats 4000000 in
theorem t_X4_narrow_b75 {l : Launch} {γ : Gm} {ad : Nat → Nat} {K : Option Value → Hp → Prop} (hc : Cx l γ 4 5 ad shC RX4 cX4_narrow none K)  {σ : Hp} (h : wpO (f_X4_narrow_b75  σ) (KU K)) : WW l γ 4 5 ad shC 75 [] [] σ := by
  unfold f_X4_narrow_b75 at h
  have h := wp_v h
  exact r_vret hc h dX4_narrow_75
noncomputable def f_X4_narrow (x0 : Nat) (σ : Hp) : Option (Unit × Hp) := bO (wh (f_X4_narrow_L4 x0) (1, 0) σ) fun y1 σ2 => (f_X4_narrow_b75  σ2)
set_option maxRecDepth 100000 in
set_option maxHeartbeats 4000000 in
theorem t_X4_narrow {l : Launch} {γ : Gm} {ad : Nat → Nat} {K : Option Value → Hp → Prop} (hc : Cx l γ 4 5 ad shC RX4 cX4_narrow none K) {x0 : Nat} {σ : Hp} (h : wpO (f_X4_narrow x0 σ) (KU K)) : WW l γ 4 5 ad shC 0 [(0, .ref (ad x0))] [] σ := by
  unfold f_X4_narrow at h
  refine r_iconst hc (v := 1) (by decide) dX4_narrow_0 ?_
  refine r_istore_nE hc (i := 1) (lv' := [(1, .int 1), (0, .ref (ad x0))]) rfl rfl (by decide) rfl dX4_narrow_1 ?_
  refine r_iconst hc (v := 0) (by decide) dX4_narrow_2 ?_
  refine r_istore_nE hc (i := 2) (lv' := [(2, .int 0), (1, .int 1), (0, .ref (ad x0))]) rfl rfl (by decide) rfl dX4_narrow_3 ?_
  refine r_sub [2, 1, 0] (lv' := [(0, .ref (ad x0)), (1, .int 1), (2, .int 0)]) rfl ?_
  refine t_X4_narrow_L4 hc (wp_bb h) ?_
  · intro y1 σ2 h
    exact t_X4_narrow_b75 hc h
theorem c_X4_narrow {l : Launch} {x0 : Nat} {σ σ' : Hp} {r : Unit} (h : f_X4_narrow x0 σ = some (r, σ')) : Mt l yX4_narrow cX4_narrow 5 none 4 shC (fun ad => [.ref (ad x0)]) σ (fun ad => none) σ' := mt_i (own := RX4) (by decide) rfl (fun _ => Nat.le_of_ble_eq_true rfl) (fun γ ad K hc hk => t_X4_narrow hc ⟨_, _, h, hk⟩)

-- NetMaps.left(III)I
theorem dX6_left_0 : decode cX6_left 0 = .ok (.aload_n 0, 1) := by decide +kernel
theorem dX6_left_1 : decode cX6_left 1 = .ok (.iload_n 1, 1) := by decide +kernel
theorem dX6_left_2 : decode cX6_left 2 = .ok (.iload_n 3, 1) := by decide +kernel
theorem dX6_left_3 : decode cX6_left 3 = .ok (.invokevirtual 112, 3) := by decide +kernel
theorem dX6_left_6 : decode cX6_left 6 = .ok (.ifCond .ne 10, 3) := by decide +kernel
theorem dX6_left_9 : decode cX6_left 9 = .ok (.iload_n 2, 1) := by decide +kernel
theorem dX6_left_10 : decode cX6_left 10 = .ok (.invokestatic 76, 3) := by decide +kernel
theorem dX6_left_13 : decode cX6_left 13 = .ok (.ifCond .eq 5, 3) := by decide +kernel
theorem dX6_left_16 : decode cX6_left 16 = .ok (.iconst (-1), 1) := by decide +kernel
theorem dX6_left_17 : decode cX6_left 17 = .ok (.ireturn, 1) := by decide +kernel
theorem dX6_left_18 : decode cX6_left 18 = .ok (.aload_n 0, 1) := by decide +kernel
theorem dX6_left_19 : decode cX6_left 19 = .ok (.iload_n 1, 1) := by decide +kernel
theorem dX6_left_20 : decode cX6_left 20 = .ok (.invokevirtual 91, 3) := by decide +kernel
theorem dX6_left_23 : decode cX6_left 23 = .ok (.invokevirtual 109, 3) := by decide +kernel
theorem dX6_left_26 : decode cX6_left 26 = .ok (.ifCond .ne 14, 3) := by decide +kernel
theorem dX6_left_29 : decode cX6_left 29 = .ok (.aload_n 0, 1) := by decide +kernel
theorem dX6_left_30 : decode cX6_left 30 = .ok (.iload_n 2, 1) := by decide +kernel
theorem dX6_left_31 : decode cX6_left 31 = .ok (.invokevirtual 91, 3) := by decide +kernel
theorem dX6_left_34 : decode cX6_left 34 = .ok (.invokevirtual 109, 3) := by decide +kernel
theorem dX6_left_37 : decode cX6_left 37 = .ok (.ifCond .eq 6, 3) := by decide +kernel
theorem dX6_left_40 : decode cX6_left 40 = .ok (.bipush (-2), 2) := by decide +kernel
theorem dX6_left_42 : decode cX6_left 42 = .ok (.ireturn, 1) := by decide +kernel
theorem dX6_left_43 : decode cX6_left 43 = .ok (.aload_n 0, 1) := by decide +kernel
theorem dX6_left_44 : decode cX6_left 44 = .ok (.getfield 41, 3) := by decide +kernel
theorem dX6_left_47 : decode cX6_left 47 = .ok (.aload_n 0, 1) := by decide +kernel
theorem dX6_left_48 : decode cX6_left 48 = .ok (.iload_n 1, 1) := by decide +kernel
theorem dX6_left_49 : decode cX6_left 49 = .ok (.invokevirtual 91, 3) := by decide +kernel
theorem dX6_left_52 : decode cX6_left 52 = .ok (.aload_n 0, 1) := by decide +kernel
theorem dX6_left_53 : decode cX6_left 53 = .ok (.iload_n 2, 1) := by decide +kernel
theorem dX6_left_54 : decode cX6_left 54 = .ok (.invokevirtual 91, 3) := by decide +kernel
theorem dX6_left_57 : decode cX6_left 57 = .ok (.aload_n 0, 1) := by decide +kernel
theorem dX6_left_58 : decode cX6_left 58 = .ok (.getfield 10, 3) := by decide +kernel
theorem dX6_left_61 : decode cX6_left 61 = .ok (.getfield 213, 3) := by decide +kernel
theorem dX6_left_64 : decode cX6_left 64 = .ok (.invokevirtual 220, 3) := by decide +kernel
theorem dX6_left_67 : decode cX6_left 67 = .ok (.aload_n 0, 1) := by decide +kernel
theorem dX6_left_68 : decode cX6_left 68 = .ok (.getfield 41, 3) := by decide +kernel
theorem dX6_left_71 : decode cX6_left 71 = .ok (.invokevirtual 242, 3) := by decide +kernel
theorem dX6_left_74 : decode cX6_left 74 = .ok (.aload_n 0, 1) := by decide +kernel
theorem dX6_left_75 : decode cX6_left 75 = .ok (.getfield 41, 3) := by decide +kernel
theorem dX6_left_78 : decode cX6_left 78 = .ok (.getfield 239, 3) := by decide +kernel
theorem dX6_left_81 : decode cX6_left 81 = .ok (.iload_n 3, 1) := by decide +kernel
theorem dX6_left_82 : decode cX6_left 82 = .ok (.iaload, 1) := by decide +kernel
theorem dX6_left_83 : decode cX6_left 83 = .ok (.ireturn, 1) := by decide +kernel
noncomputable def f_X6_left_b16  (σ : Hp) : Option (Int32 × Hp) := some ((-1), σ)
set_option maxRecDepth 100000 in
set_option maxHeartbeats 4000000 in
theorem t_X6_left_b16 {l : Launch} {γ : Gm} {ad : Nat → Nat} {K : Option Value → Hp → Prop} (hc : Cx l γ 5 4 ad shC RX6 cX6_left (some .int) K)  {σ : Hp} (h : wpO (f_X6_left_b16  σ) (KI K)) : WW l γ 5 4 ad shC 16 [] [] σ := by
  unfold f_X6_left_b16 at h
  refine r_iconst hc (v := (-1)) (by decide) dX6_left_16 ?_
  have h := wp_v h
  exact r_iret hc h dX6_left_17
noncomputable def f_X6_left_b40  (σ : Hp) : Option (Int32 × Hp) := some ((-2), σ)
set_option maxRecDepth 100000 in
set_option maxHeartbeats 4000000 in
theorem t_X6_left_b40 {l : Launch} {γ : Gm} {ad : Nat → Nat} {K : Option Value → Hp → Prop} (hc : Cx l γ 5 4 ad shC RX6 cX6_left (some .int) K)  {σ : Hp} (h : wpO (f_X6_left_b40  σ) (KI K)) : WW l γ 5 4 ad shC 40 [] [] σ := by
  unfold f_X6_left_b40 at h
  refine r_bipush hc (v := (-2)) (by decide) dX6_left_40 ?_
  have h := wp_v h
  exact r_iret hc h dX6_left_42
noncomputable def f_X6_left (x0 : Nat) (x1 : Int32) (x2 : Int32) (x3 : Int32) (σ : Hp) : Option (Int32 × Hp) := gO (chk shC x0 6) fun _ => bO (f_X6_noNode x0 x1 x3 σ) fun r1 σ2 => if r1 = 0 then (bO (f_X6_noDrawer x2 σ2) fun r4 σ5 => if r4 = 0 then (gO (chk shC x0 6) fun _ => bO (f_X6_in x0 x1 σ5) fun r6 σ7 => gO (chk shC r6 1) fun _ => bO (f_X1_isEmpty r6 σ7) fun r9 σ10 => if r9 = 0 then (gO (chk shC x0 6) fun _ => bO (f_X6_in x0 x2 σ10) fun r12 σ13 => gO (chk shC r12 1) fun _ => bO (f_X1_isEmpty r12 σ13) fun r15 σ16 => if r15 = 0 then (gO (getR shC 6 x0 7 σ16) fun v18 => gO (chk shC x0 6) fun _ => bO (f_X6_in x0 x1 σ16) fun r19 σ20 => gO (chk shC x0 6) fun _ => bO (f_X6_in x0 x2 σ20) fun r22 σ23 => gO (getR shC 6 x0 0 σ23) fun v25 => gO (getR shC 5 v25 1 σ23) fun v26 => gO (chk shC v18 4) fun _ => bO (f_X4_byLists v18 r19 r22 v26 σ23) fun _ σ28 => gO (getR shC 6 x0 7 σ28) fun v30 => gO (chk shC v30 4) fun _ => bO (f_X4_narrow v30 σ28) fun _ σ32 => gO (getR shC 6 x0 7 σ32) fun v34 => gO (getR shC 4 v34 2 σ32) fun v35 => gO (aldI shC 0 v35 x3 σ32) fun v36 => some (v36, σ32)) else (f_X6_left_b40  σ16)) else (f_X6_left_b40  σ10)) else (f_X6_left_b16  σ5)) else (f_X6_left_b16  σ2)
set_option maxRecDepth 100000 in
set_option maxHeartbeats 4000000 in
theorem t_X6_left {l : Launch} {γ : Gm} {ad : Nat → Nat} {K : Option Value → Hp → Prop} (hc : Cx l γ 5 4 ad shC RX6 cX6_left (some .int) K) {x0 : Nat} {x1 : Int32} {x2 : Int32} {x3 : Int32} {σ : Hp} (h : wpO (f_X6_left x0 x1 x2 x3 σ) (KI K)) : WW l γ 5 4 ad shC 0 [(0, .ref (ad x0)), (1, .int x1), (2, .int x2), (3, .int x3)] [] σ := by
  unfold f_X6_left at h
  refine r_aload_n hc 0 rfl rfl dX6_left_0 ?_
  refine r_iload_n hc 1 rfl rfl dX6_left_1 ?_
  refine r_iload_n hc 3 rfl rfl dX6_left_2 ?_
  obtain ⟨_, ek3, h⟩ := wp_g h
  obtain ⟨r1, σ2, er1, h⟩ := wp_b h
  refine r_callV hc (k0 := x0) mv_X6_noNode ml_X6_112 (c_X6_noNode er1) (chk_of ek3) cls_6.1 rfl rfl rfl (by decide) rfl (Nat.le_of_ble_eq_true rfl) dX6_left_3 ?_
  refine r_if_ne hc (tgt := 16) dX6_left_6 (by decide) (fun c => ?_) (fun c => ?_)
  · have h := wp_f c h
    refine r_sub [] (lv' := []) rfl ?_
    exact t_X6_left_b16 hc h
  · have h := wp_t c h
    refine r_iload_n hc 2 rfl rfl dX6_left_9 ?_
    obtain ⟨r4, σ5, er4, h⟩ := wp_b h
    refine r_callS hc ms_X6_noDrawer ml_X6_76 (c_X6_noDrawer er4) rfl rfl (by decide) rfl (Nat.le_of_ble_eq_true rfl) dX6_left_10 ?_
    refine r_if_eq hc (tgt := 18) dX6_left_13 (by decide) (fun c => ?_) (fun c => ?_)
    · have h := wp_t c h
      refine r_aload_n hc 0 rfl rfl dX6_left_18 ?_
      refine r_iload_n hc 1 rfl rfl dX6_left_19 ?_
      obtain ⟨_, ek8, h⟩ := wp_g h
      obtain ⟨r6, σ7, er6, h⟩ := wp_b h
      refine r_callV hc (k0 := x0) mv_X6_in ml_X6_91 (c_X6_in er6) (chk_of ek8) cls_6.1 rfl rfl rfl (by decide) rfl (Nat.le_of_ble_eq_true rfl) dX6_left_20 ?_
      obtain ⟨_, ek11, h⟩ := wp_g h
      obtain ⟨r9, σ10, er9, h⟩ := wp_b h
      refine r_callV hc (k0 := r6) mv_X1_isEmpty ml_X6_109 (c_X1_isEmpty er9) (chk_of ek11) cls_1.1 rfl rfl rfl (by decide) rfl (Nat.le_of_ble_eq_true rfl) dX6_left_23 ?_
      refine r_if_ne hc (tgt := 40) dX6_left_26 (by decide) (fun c => ?_) (fun c => ?_)
      · have h := wp_f c h
        refine r_sub [] (lv' := []) rfl ?_
        exact t_X6_left_b40 hc h
      · have h := wp_t c h
        refine r_aload_n hc 0 rfl rfl dX6_left_29 ?_
        refine r_iload_n hc 2 rfl rfl dX6_left_30 ?_
        obtain ⟨_, ek14, h⟩ := wp_g h
        obtain ⟨r12, σ13, er12, h⟩ := wp_b h
        refine r_callV hc (k0 := x0) mv_X6_in ml_X6_91 (c_X6_in er12) (chk_of ek14) cls_6.1 rfl rfl rfl (by decide) rfl (Nat.le_of_ble_eq_true rfl) dX6_left_31 ?_
        obtain ⟨_, ek17, h⟩ := wp_g h
        obtain ⟨r15, σ16, er15, h⟩ := wp_b h
        refine r_callV hc (k0 := r12) mv_X1_isEmpty ml_X6_109 (c_X1_isEmpty er15) (chk_of ek17) cls_1.1 rfl rfl rfl (by decide) rfl (Nat.le_of_ble_eq_true rfl) dX6_left_34 ?_
        refine r_if_eq hc (tgt := 43) dX6_left_37 (by decide) (fun c => ?_) (fun c => ?_)
        · have h := wp_t c h
          refine r_aload_n hc 0 rfl rfl dX6_left_43 ?_
          obtain ⟨v18, ev18, h⟩ := wp_g h
          refine r_getR hc ev18 fl_X6_41 rfl dX6_left_44 ?_
          refine r_aload_n hc 0 rfl rfl dX6_left_47 ?_
          refine r_iload_n hc 1 rfl rfl dX6_left_48 ?_
          obtain ⟨_, ek21, h⟩ := wp_g h
          obtain ⟨r19, σ20, er19, h⟩ := wp_b h
          refine r_callV hc (k0 := x0) mv_X6_in ml_X6_91 (c_X6_in er19) (chk_of ek21) cls_6.1 rfl rfl rfl (by decide) rfl (Nat.le_of_ble_eq_true rfl) dX6_left_49 ?_
          refine r_aload_n hc 0 rfl rfl dX6_left_52 ?_
          refine r_iload_n hc 2 rfl rfl dX6_left_53 ?_
          obtain ⟨_, ek24, h⟩ := wp_g h
          obtain ⟨r22, σ23, er22, h⟩ := wp_b h
          refine r_callV hc (k0 := x0) mv_X6_in ml_X6_91 (c_X6_in er22) (chk_of ek24) cls_6.1 rfl rfl rfl (by decide) rfl (Nat.le_of_ble_eq_true rfl) dX6_left_54 ?_
          refine r_aload_n hc 0 rfl rfl dX6_left_57 ?_
          obtain ⟨v25, ev25, h⟩ := wp_g h
          refine r_getR hc ev25 fl_X6_10 rfl dX6_left_58 ?_
          obtain ⟨v26, ev26, h⟩ := wp_g h
          refine r_getR hc ev26 fl_X6_213 rfl dX6_left_61 ?_
          obtain ⟨_, ek29, h⟩ := wp_g h
          obtain ⟨_, σ28, er27, h⟩ := wp_b h
          refine r_callV hc (k0 := v18) mv_X4_byLists ml_X6_220 (c_X4_byLists er27) (chk_of ek29) cls_4.1 rfl rfl rfl (by decide) rfl (Nat.le_of_ble_eq_true rfl) dX6_left_64 ?_
          refine r_aload_n hc 0 rfl rfl dX6_left_67 ?_
          obtain ⟨v30, ev30, h⟩ := wp_g h
          refine r_getR hc ev30 fl_X6_41 rfl dX6_left_68 ?_
          obtain ⟨_, ek33, h⟩ := wp_g h
          obtain ⟨_, σ32, er31, h⟩ := wp_b h
          refine r_callV hc (k0 := v30) mv_X4_narrow ml_X6_242 (c_X4_narrow er31) (chk_of ek33) cls_4.1 rfl rfl rfl (by decide) rfl (Nat.le_of_ble_eq_true rfl) dX6_left_71 ?_
          refine r_aload_n hc 0 rfl rfl dX6_left_74 ?_
          obtain ⟨v34, ev34, h⟩ := wp_g h
          refine r_getR hc ev34 fl_X6_41 rfl dX6_left_75 ?_
          obtain ⟨v35, ev35, h⟩ := wp_g h
          refine r_getR hc ev35 fl_X6_239 rfl dX6_left_78 ?_
          refine r_iload_n hc 3 rfl rfl dX6_left_81 ?_
          obtain ⟨v36, ev36, h⟩ := wp_g h
          refine r_iald hc ev36 dX6_left_82 ?_
          have h := wp_v h
          exact r_iret hc h dX6_left_83
        · have h := wp_f c h
          refine r_sub [] (lv' := []) rfl ?_
          exact t_X6_left_b40 hc h
    · have h := wp_f c h
      refine r_sub [] (lv' := []) rfl ?_
      exact t_X6_left_b16 hc h
theorem c_X6_left {l : Launch} {x0 : Nat} {x1 : Int32} {x2 : Int32} {x3 : Int32} {σ σ' : Hp} {r : Int32} (h : f_X6_left x0 x1 x2 x3 σ = some (r, σ')) : Mt l yX6_left cX6_left 4 (some .int) 5 shC (fun ad => [.ref (ad x0), .int x1, .int x2, .int x3]) σ (fun ad => some (.int r)) σ' := mt_i (own := RX6) (by decide) rfl (fun _ => Nat.le_of_ble_eq_true rfl) (fun γ ad K hc hk => t_X6_left hc ⟨_, _, h, hk⟩)

-- NetMaps.fitsInto(LNetMaps$Net;LNetMaps$Net;)Z
theorem dX6_fitsInto_0 : decode cX6_fitsInto 0 = .ok (.aload_n 0, 1) := by decide +kernel
theorem dX6_fitsInto_1 : decode cX6_fitsInto 1 = .ok (.getfield 41, 3) := by decide +kernel
theorem dX6_fitsInto_4 : decode cX6_fitsInto 4 = .ok (.aload_n 1, 1) := by decide +kernel
theorem dX6_fitsInto_5 : decode cX6_fitsInto 5 = .ok (.aload_n 2, 1) := by decide +kernel
theorem dX6_fitsInto_6 : decode cX6_fitsInto 6 = .ok (.invokevirtual 216, 3) := by decide +kernel
theorem dX6_fitsInto_9 : decode cX6_fitsInto 9 = .ok (.aload_n 0, 1) := by decide +kernel
theorem dX6_fitsInto_10 : decode cX6_fitsInto 10 = .ok (.getfield 41, 3) := by decide +kernel
theorem dX6_fitsInto_13 : decode cX6_fitsInto 13 = .ok (.invokevirtual 249, 3) := by decide +kernel
theorem dX6_fitsInto_16 : decode cX6_fitsInto 16 = .ok (.ireturn, 1) := by decide +kernel
noncomputable def f_X6_fitsInto (x0 : Nat) (x1 : Nat) (x2 : Nat) (σ : Hp) : Option (Int32 × Hp) := gO (getR shC 6 x0 7 σ) fun v1 => gO (chk shC v1 4) fun _ => bO (f_X4_freely v1 x1 x2 σ) fun _ σ3 => gO (getR shC 6 x0 7 σ3) fun v5 => gO (chk shC v5 4) fun _ => bO (f_X4_finds v5 σ3) fun r6 σ7 => gO (zz r6) fun _ => some (r6, σ7)
set_option maxRecDepth 100000 in
set_option maxHeartbeats 4000000 in
theorem t_X6_fitsInto {l : Launch} {γ : Gm} {ad : Nat → Nat} {K : Option Value → Hp → Prop} (hc : Cx l γ 35 3 ad shC RX6 cX6_fitsInto (some .boolean) K) {x0 : Nat} {x1 : Nat} {x2 : Nat} {σ : Hp} (h : wpO (f_X6_fitsInto x0 x1 x2 σ) (KI K)) : WW l γ 35 3 ad shC 0 [(0, .ref (ad x0)), (1, .ref (ad x1)), (2, .ref (ad x2))] [] σ := by
  unfold f_X6_fitsInto at h
  refine r_aload_n hc 0 rfl rfl dX6_fitsInto_0 ?_
  obtain ⟨v1, ev1, h⟩ := wp_g h
  refine r_getR hc ev1 fl_X6_41 rfl dX6_fitsInto_1 ?_
  refine r_aload_n hc 1 rfl rfl dX6_fitsInto_4 ?_
  refine r_aload_n hc 2 rfl rfl dX6_fitsInto_5 ?_
  obtain ⟨_, ek4, h⟩ := wp_g h
  obtain ⟨_, σ3, er2, h⟩ := wp_b h
  refine r_callV hc (k0 := v1) mv_X4_freely ml_X6_216 (c_X4_freely er2) (chk_of ek4) cls_4.1 rfl rfl rfl (by decide) rfl (Nat.le_of_ble_eq_true rfl) dX6_fitsInto_6 ?_
  refine r_aload_n hc 0 rfl rfl dX6_fitsInto_9 ?_
  obtain ⟨v5, ev5, h⟩ := wp_g h
  refine r_getR hc ev5 fl_X6_41 rfl dX6_fitsInto_10 ?_
  obtain ⟨_, ek8, h⟩ := wp_g h
  obtain ⟨r6, σ7, er6, h⟩ := wp_b h
  refine r_callV hc (k0 := v5) mv_X4_finds ml_X6_249 (c_X4_finds er6) (chk_of ek8) cls_4.1 rfl rfl rfl (by decide) rfl (Nat.le_of_ble_eq_true rfl) dX6_fitsInto_13 ?_
  obtain ⟨_, ek9, h⟩ := wp_g h
  have h := wp_v h
  exact r_zret hc h (zz_of ek9) dX6_fitsInto_16
theorem c_X6_fitsInto {l : Launch} {x0 : Nat} {x1 : Nat} {x2 : Nat} {σ σ' : Hp} {r : Int32} (h : f_X6_fitsInto x0 x1 x2 σ = some (r, σ')) : Mt l yX6_fitsInto cX6_fitsInto 3 (some .boolean) 35 shC (fun ad => [.ref (ad x0), .ref (ad x1), .ref (ad x2)]) σ (fun ad => some (.int r)) σ' := mt_i (own := RX6) (by decide) rfl (fun _ => Nat.le_of_ble_eq_true rfl) (fun γ ad K hc hk => t_X6_fitsInto hc ⟨_, _, h, hk⟩)

-- NetMaps.fits(II)I
theorem dX6_fits_0 : decode cX6_fits 0 = .ok (.iload_n 1, 1) := by decide +kernel
theorem dX6_fits_1 : decode cX6_fits 1 = .ok (.invokestatic 76, 3) := by decide +kernel
theorem dX6_fits_4 : decode cX6_fits 4 = .ok (.ifCond .ne 10, 3) := by decide +kernel
theorem dX6_fits_7 : decode cX6_fits 7 = .ok (.iload_n 2, 1) := by decide +kernel
theorem dX6_fits_8 : decode cX6_fits 8 = .ok (.invokestatic 76, 3) := by decide +kernel
theorem dX6_fits_11 : decode cX6_fits 11 = .ok (.ifCond .eq 5, 3) := by decide +kernel
theorem dX6_fits_14 : decode cX6_fits 14 = .ok (.iconst (-1), 1) := by decide +kernel
theorem dX6_fits_15 : decode cX6_fits 15 = .ok (.ireturn, 1) := by decide +kernel
theorem dX6_fits_16 : decode cX6_fits 16 = .ok (.aload_n 0, 1) := by decide +kernel
theorem dX6_fits_17 : decode cX6_fits 17 = .ok (.iload_n 1, 1) := by decide +kernel
theorem dX6_fits_18 : decode cX6_fits 18 = .ok (.invokevirtual 91, 3) := by decide +kernel
theorem dX6_fits_21 : decode cX6_fits 21 = .ok (.invokevirtual 109, 3) := by decide +kernel
theorem dX6_fits_24 : decode cX6_fits 24 = .ok (.ifCond .ne 14, 3) := by decide +kernel
theorem dX6_fits_27 : decode cX6_fits 27 = .ok (.aload_n 0, 1) := by decide +kernel
theorem dX6_fits_28 : decode cX6_fits 28 = .ok (.iload_n 2, 1) := by decide +kernel
theorem dX6_fits_29 : decode cX6_fits 29 = .ok (.invokevirtual 91, 3) := by decide +kernel
theorem dX6_fits_32 : decode cX6_fits 32 = .ok (.invokevirtual 109, 3) := by decide +kernel
theorem dX6_fits_35 : decode cX6_fits 35 = .ok (.ifCond .eq 6, 3) := by decide +kernel
theorem dX6_fits_38 : decode cX6_fits 38 = .ok (.bipush (-2), 2) := by decide +kernel
theorem dX6_fits_40 : decode cX6_fits 40 = .ok (.ireturn, 1) := by decide +kernel
theorem dX6_fits_41 : decode cX6_fits 41 = .ok (.aload_n 0, 1) := by decide +kernel
theorem dX6_fits_42 : decode cX6_fits 42 = .ok (.aload_n 0, 1) := by decide +kernel
theorem dX6_fits_43 : decode cX6_fits 43 = .ok (.iload_n 1, 1) := by decide +kernel
theorem dX6_fits_44 : decode cX6_fits 44 = .ok (.invokevirtual 91, 3) := by decide +kernel
theorem dX6_fits_47 : decode cX6_fits 47 = .ok (.aload_n 0, 1) := by decide +kernel
theorem dX6_fits_48 : decode cX6_fits 48 = .ok (.iload_n 2, 1) := by decide +kernel
theorem dX6_fits_49 : decode cX6_fits 49 = .ok (.invokevirtual 91, 3) := by decide +kernel
theorem dX6_fits_52 : decode cX6_fits 52 = .ok (.invokevirtual 245, 3) := by decide +kernel
theorem dX6_fits_55 : decode cX6_fits 55 = .ok (.ifCond .eq 7, 3) := by decide +kernel
theorem dX6_fits_58 : decode cX6_fits 58 = .ok (.iconst 1, 1) := by decide +kernel
theorem dX6_fits_59 : decode cX6_fits 59 = .ok (.goto 4, 3) := by decide +kernel
theorem dX6_fits_62 : decode cX6_fits 62 = .ok (.iconst 0, 1) := by decide +kernel
theorem dX6_fits_63 : decode cX6_fits 63 = .ok (.aload_n 0, 1) := by decide +kernel
theorem dX6_fits_64 : decode cX6_fits 64 = .ok (.aload_n 0, 1) := by decide +kernel
theorem dX6_fits_65 : decode cX6_fits 65 = .ok (.iload_n 2, 1) := by decide +kernel
theorem dX6_fits_66 : decode cX6_fits 66 = .ok (.invokevirtual 91, 3) := by decide +kernel
theorem dX6_fits_69 : decode cX6_fits 69 = .ok (.aload_n 0, 1) := by decide +kernel
theorem dX6_fits_70 : decode cX6_fits 70 = .ok (.iload_n 1, 1) := by decide +kernel
theorem dX6_fits_71 : decode cX6_fits 71 = .ok (.invokevirtual 91, 3) := by decide +kernel
theorem dX6_fits_74 : decode cX6_fits 74 = .ok (.invokevirtual 245, 3) := by decide +kernel
theorem dX6_fits_77 : decode cX6_fits 77 = .ok (.ifCond .eq 7, 3) := by decide +kernel
theorem dX6_fits_80 : decode cX6_fits 80 = .ok (.iconst 2, 1) := by decide +kernel
theorem dX6_fits_81 : decode cX6_fits 81 = .ok (.goto 4, 3) := by decide +kernel
theorem dX6_fits_84 : decode cX6_fits 84 = .ok (.iconst 0, 1) := by decide +kernel
theorem dX6_fits_85 : decode cX6_fits 85 = .ok (.iadd, 1) := by decide +kernel
theorem dX6_fits_86 : decode cX6_fits 86 = .ok (.ireturn, 1) := by decide +kernel
noncomputable def f_X6_fits_b14  (σ : Hp) : Option (Int32 × Hp) := some ((-1), σ)
set_option maxRecDepth 100000 in
set_option maxHeartbeats 4000000 in
theorem t_X6_fits_b14 {l : Launch} {γ : Gm} {ad : Nat → Nat} {K : Option Value → Hp → Prop} (hc : Cx l γ 36 3 ad shC RX6 cX6_fits (some .int) K)  {σ : Hp} (h : wpO (f_X6_fits_b14  σ) (KI K)) : WW l γ 36 3 ad shC 14 [] [] σ := by
  unfold f_X6_fits_b14 at h
  refine r_iconst hc (v := (-1)) (by decide) dX6_fits_14 ?_
  have h := wp_v h
  exact r_iret hc h dX6_fits_15
noncomputable def f_X6_fits_b38  (σ : Hp) : Option (Int32 × Hp) := some ((-2), σ)
set_option maxRecDepth 100000 in
set_option maxHeartbeats 4000000 in
theorem t_X6_fits_b38 {l : Launch} {γ : Gm} {ad : Nat → Nat} {K : Option Value → Hp → Prop} (hc : Cx l γ 36 3 ad shC RX6 cX6_fits (some .int) K)  {σ : Hp} (h : wpO (f_X6_fits_b38  σ) (KI K)) : WW l γ 36 3 ad shC 38 [] [] σ := by
  unfold f_X6_fits_b38 at h
  refine r_bipush hc (v := (-2)) (by decide) dX6_fits_38 ?_
  have h := wp_v h
  exact r_iret hc h dX6_fits_40
noncomputable def f_X6_fits_b85 (s0 : Int32) (s1 : Int32) (σ : Hp) : Option (Int32 × Hp) := some ((s0 + s1), σ)
set_option maxRecDepth 100000 in
set_option maxHeartbeats 4000000 in
theorem t_X6_fits_b85 {l : Launch} {γ : Gm} {ad : Nat → Nat} {K : Option Value → Hp → Prop} (hc : Cx l γ 36 3 ad shC RX6 cX6_fits (some .int) K) {s0 : Int32} {s1 : Int32} {σ : Hp} (h : wpO (f_X6_fits_b85 s0 s1 σ) (KI K)) : WW l γ 36 3 ad shC 85 [] [.int s1, .int s0] σ := by
  unfold f_X6_fits_b85 at h
  refine r_iadd hc dX6_fits_85 ?_
  have h := wp_v h
  exact r_iret hc h dX6_fits_86
noncomputable def f_X6_fits_b63 (x0 : Nat) (x1 : Int32) (x2 : Int32) (s0 : Int32) (σ : Hp) : Option (Int32 × Hp) := gO (chk shC x0 6) fun _ => bO (f_X6_in x0 x2 σ) fun r1 σ2 => gO (chk shC x0 6) fun _ => bO (f_X6_in x0 x1 σ2) fun r4 σ5 => gO (chk shC x0 6) fun _ => bO (f_X6_fitsInto x0 r1 r4 σ5) fun r7 σ8 => if r7 = 0 then (f_X6_fits_b85 s0 0 σ8) else (f_X6_fits_b85 s0 2 σ8)
set_option maxRecDepth 100000 in
set_option maxHeartbeats 4000000 in
theorem t_X6_fits_b63 {l : Launch} {γ : Gm} {ad : Nat → Nat} {K : Option Value → Hp → Prop} (hc : Cx l γ 36 3 ad shC RX6 cX6_fits (some .int) K) {x0 : Nat} {x1 : Int32} {x2 : Int32} {s0 : Int32} {σ : Hp} (h : wpO (f_X6_fits_b63 x0 x1 x2 s0 σ) (KI K)) : WW l γ 36 3 ad shC 63 [(0, .ref (ad x0)), (1, .int x1), (2, .int x2)] [.int s0] σ := by
  unfold f_X6_fits_b63 at h
  refine r_aload_n hc 0 rfl rfl dX6_fits_63 ?_
  refine r_aload_n hc 0 rfl rfl dX6_fits_64 ?_
  refine r_iload_n hc 2 rfl rfl dX6_fits_65 ?_
  obtain ⟨_, ek3, h⟩ := wp_g h
  obtain ⟨r1, σ2, er1, h⟩ := wp_b h
  refine r_callV hc (k0 := x0) mv_X6_in ml_X6_91 (c_X6_in er1) (chk_of ek3) cls_6.1 rfl rfl rfl (by decide) rfl (Nat.le_of_ble_eq_true rfl) dX6_fits_66 ?_
  refine r_aload_n hc 0 rfl rfl dX6_fits_69 ?_
  refine r_iload_n hc 1 rfl rfl dX6_fits_70 ?_
  obtain ⟨_, ek6, h⟩ := wp_g h
  obtain ⟨r4, σ5, er4, h⟩ := wp_b h
  refine r_callV hc (k0 := x0) mv_X6_in ml_X6_91 (c_X6_in er4) (chk_of ek6) cls_6.1 rfl rfl rfl (by decide) rfl (Nat.le_of_ble_eq_true rfl) dX6_fits_71 ?_
  obtain ⟨_, ek9, h⟩ := wp_g h
  obtain ⟨r7, σ8, er7, h⟩ := wp_b h
  refine r_callV hc (k0 := x0) mv_X6_fitsInto ml_X6_245 (c_X6_fitsInto er7) (chk_of ek9) cls_6.1 rfl rfl rfl (by decide) rfl (Nat.le_of_ble_eq_true rfl) dX6_fits_74 ?_
  refine r_if_eq hc (tgt := 84) dX6_fits_77 (by decide) (fun c => ?_) (fun c => ?_)
  · have h := wp_t c h
    refine r_iconst hc (v := 0) (by decide) dX6_fits_84 ?_
    refine r_sub [] (lv' := []) rfl ?_
    exact t_X6_fits_b85 hc h
  · have h := wp_f c h
    refine r_iconst hc (v := 2) (by decide) dX6_fits_80 ?_
    refine r_goto hc (tgt := 85) dX6_fits_81 (by decide) ?_
    refine r_sub [] (lv' := []) rfl ?_
    exact t_X6_fits_b85 hc h
noncomputable def f_X6_fits (x0 : Nat) (x1 : Int32) (x2 : Int32) (σ : Hp) : Option (Int32 × Hp) := bO (f_X6_noDrawer x1 σ) fun r1 σ2 => if r1 = 0 then (bO (f_X6_noDrawer x2 σ2) fun r3 σ4 => if r3 = 0 then (gO (chk shC x0 6) fun _ => bO (f_X6_in x0 x1 σ4) fun r5 σ6 => gO (chk shC r5 1) fun _ => bO (f_X1_isEmpty r5 σ6) fun r8 σ9 => if r8 = 0 then (gO (chk shC x0 6) fun _ => bO (f_X6_in x0 x2 σ9) fun r11 σ12 => gO (chk shC r11 1) fun _ => bO (f_X1_isEmpty r11 σ12) fun r14 σ15 => if r14 = 0 then (gO (chk shC x0 6) fun _ => bO (f_X6_in x0 x1 σ15) fun r17 σ18 => gO (chk shC x0 6) fun _ => bO (f_X6_in x0 x2 σ18) fun r20 σ21 => gO (chk shC x0 6) fun _ => bO (f_X6_fitsInto x0 r17 r20 σ21) fun r23 σ24 => if r23 = 0 then (f_X6_fits_b63 x0 x1 x2 0 σ24) else (f_X6_fits_b63 x0 x1 x2 1 σ24)) else (f_X6_fits_b38  σ15)) else (f_X6_fits_b38  σ9)) else (f_X6_fits_b14  σ4)) else (f_X6_fits_b14  σ2)
set_option maxRecDepth 100000 in
set_option maxHeartbeats 4000000 in
theorem t_X6_fits {l : Launch} {γ : Gm} {ad : Nat → Nat} {K : Option Value → Hp → Prop} (hc : Cx l γ 36 3 ad shC RX6 cX6_fits (some .int) K) {x0 : Nat} {x1 : Int32} {x2 : Int32} {σ : Hp} (h : wpO (f_X6_fits x0 x1 x2 σ) (KI K)) : WW l γ 36 3 ad shC 0 [(0, .ref (ad x0)), (1, .int x1), (2, .int x2)] [] σ := by
  unfold f_X6_fits at h
  refine r_iload_n hc 1 rfl rfl dX6_fits_0 ?_
  obtain ⟨r1, σ2, er1, h⟩ := wp_b h
  refine r_callS hc ms_X6_noDrawer ml_X6_76 (c_X6_noDrawer er1) rfl rfl (by decide) rfl (Nat.le_of_ble_eq_true rfl) dX6_fits_1 ?_
  refine r_if_ne hc (tgt := 14) dX6_fits_4 (by decide) (fun c => ?_) (fun c => ?_)
  · have h := wp_f c h
    refine r_sub [] (lv' := []) rfl ?_
    exact t_X6_fits_b14 hc h
  · have h := wp_t c h
    refine r_iload_n hc 2 rfl rfl dX6_fits_7 ?_
    obtain ⟨r3, σ4, er3, h⟩ := wp_b h
    refine r_callS hc ms_X6_noDrawer ml_X6_76 (c_X6_noDrawer er3) rfl rfl (by decide) rfl (Nat.le_of_ble_eq_true rfl) dX6_fits_8 ?_
    refine r_if_eq hc (tgt := 16) dX6_fits_11 (by decide) (fun c => ?_) (fun c => ?_)
    · have h := wp_t c h
      refine r_aload_n hc 0 rfl rfl dX6_fits_16 ?_
      refine r_iload_n hc 1 rfl rfl dX6_fits_17 ?_
      obtain ⟨_, ek7, h⟩ := wp_g h
      obtain ⟨r5, σ6, er5, h⟩ := wp_b h
      refine r_callV hc (k0 := x0) mv_X6_in ml_X6_91 (c_X6_in er5) (chk_of ek7) cls_6.1 rfl rfl rfl (by decide) rfl (Nat.le_of_ble_eq_true rfl) dX6_fits_18 ?_
      obtain ⟨_, ek10, h⟩ := wp_g h
      obtain ⟨r8, σ9, er8, h⟩ := wp_b h
      refine r_callV hc (k0 := r5) mv_X1_isEmpty ml_X6_109 (c_X1_isEmpty er8) (chk_of ek10) cls_1.1 rfl rfl rfl (by decide) rfl (Nat.le_of_ble_eq_true rfl) dX6_fits_21 ?_
      refine r_if_ne hc (tgt := 38) dX6_fits_24 (by decide) (fun c => ?_) (fun c => ?_)
      · have h := wp_f c h
        refine r_sub [] (lv' := []) rfl ?_
        exact t_X6_fits_b38 hc h
      · have h := wp_t c h
        refine r_aload_n hc 0 rfl rfl dX6_fits_27 ?_
        refine r_iload_n hc 2 rfl rfl dX6_fits_28 ?_
        obtain ⟨_, ek13, h⟩ := wp_g h
        obtain ⟨r11, σ12, er11, h⟩ := wp_b h
        refine r_callV hc (k0 := x0) mv_X6_in ml_X6_91 (c_X6_in er11) (chk_of ek13) cls_6.1 rfl rfl rfl (by decide) rfl (Nat.le_of_ble_eq_true rfl) dX6_fits_29 ?_
        obtain ⟨_, ek16, h⟩ := wp_g h
        obtain ⟨r14, σ15, er14, h⟩ := wp_b h
        refine r_callV hc (k0 := r11) mv_X1_isEmpty ml_X6_109 (c_X1_isEmpty er14) (chk_of ek16) cls_1.1 rfl rfl rfl (by decide) rfl (Nat.le_of_ble_eq_true rfl) dX6_fits_32 ?_
        refine r_if_eq hc (tgt := 41) dX6_fits_35 (by decide) (fun c => ?_) (fun c => ?_)
        · have h := wp_t c h
          refine r_aload_n hc 0 rfl rfl dX6_fits_41 ?_
          refine r_aload_n hc 0 rfl rfl dX6_fits_42 ?_
          refine r_iload_n hc 1 rfl rfl dX6_fits_43 ?_
          obtain ⟨_, ek19, h⟩ := wp_g h
          obtain ⟨r17, σ18, er17, h⟩ := wp_b h
          refine r_callV hc (k0 := x0) mv_X6_in ml_X6_91 (c_X6_in er17) (chk_of ek19) cls_6.1 rfl rfl rfl (by decide) rfl (Nat.le_of_ble_eq_true rfl) dX6_fits_44 ?_
          refine r_aload_n hc 0 rfl rfl dX6_fits_47 ?_
          refine r_iload_n hc 2 rfl rfl dX6_fits_48 ?_
          obtain ⟨_, ek22, h⟩ := wp_g h
          obtain ⟨r20, σ21, er20, h⟩ := wp_b h
          refine r_callV hc (k0 := x0) mv_X6_in ml_X6_91 (c_X6_in er20) (chk_of ek22) cls_6.1 rfl rfl rfl (by decide) rfl (Nat.le_of_ble_eq_true rfl) dX6_fits_49 ?_
          obtain ⟨_, ek25, h⟩ := wp_g h
          obtain ⟨r23, σ24, er23, h⟩ := wp_b h
          refine r_callV hc (k0 := x0) mv_X6_fitsInto ml_X6_245 (c_X6_fitsInto er23) (chk_of ek25) cls_6.1 rfl rfl rfl (by decide) rfl (Nat.le_of_ble_eq_true rfl) dX6_fits_52 ?_
          refine r_if_eq hc (tgt := 62) dX6_fits_55 (by decide) (fun c => ?_) (fun c => ?_)
          · have h := wp_t c h
            refine r_iconst hc (v := 0) (by decide) dX6_fits_62 ?_
            exact t_X6_fits_b63 hc h
          · have h := wp_f c h
            refine r_iconst hc (v := 1) (by decide) dX6_fits_58 ?_
            refine r_goto hc (tgt := 63) dX6_fits_59 (by decide) ?_
            exact t_X6_fits_b63 hc h
        · have h := wp_f c h
          refine r_sub [] (lv' := []) rfl ?_
          exact t_X6_fits_b38 hc h
    · have h := wp_f c h
      refine r_sub [] (lv' := []) rfl ?_
      exact t_X6_fits_b14 hc h
theorem c_X6_fits {l : Launch} {x0 : Nat} {x1 : Int32} {x2 : Int32} {σ σ' : Hp} {r : Int32} (h : f_X6_fits x0 x1 x2 σ = some (r, σ')) : Mt l yX6_fits cX6_fits 3 (some .int) 36 shC (fun ad => [.ref (ad x0), .int x1, .int x2]) σ (fun ad => some (.int r)) σ' := mt_i (own := RX6) (by decide) rfl (fun _ => Nat.le_of_ble_eq_true rfl) (fun γ ad K hc hk => t_X6_fits hc ⟨_, _, h, hk⟩)

-- NetMaps.search(II)I
theorem dX6_search_0 : decode cX6_search 0 = .ok (.iload_n 1, 1) := by decide +kernel
theorem dX6_search_1 : decode cX6_search 1 = .ok (.invokestatic 76, 3) := by decide +kernel
theorem dX6_search_4 : decode cX6_search 4 = .ok (.ifCond .ne 10, 3) := by decide +kernel
theorem dX6_search_7 : decode cX6_search 7 = .ok (.iload_n 2, 1) := by decide +kernel
theorem dX6_search_8 : decode cX6_search 8 = .ok (.invokestatic 76, 3) := by decide +kernel
theorem dX6_search_11 : decode cX6_search 11 = .ok (.ifCond .eq 5, 3) := by decide +kernel
theorem dX6_search_14 : decode cX6_search 14 = .ok (.iconst (-1), 1) := by decide +kernel
theorem dX6_search_15 : decode cX6_search 15 = .ok (.ireturn, 1) := by decide +kernel
theorem dX6_search_16 : decode cX6_search 16 = .ok (.aload_n 0, 1) := by decide +kernel
theorem dX6_search_17 : decode cX6_search 17 = .ok (.iload_n 1, 1) := by decide +kernel
theorem dX6_search_18 : decode cX6_search 18 = .ok (.invokevirtual 91, 3) := by decide +kernel
theorem dX6_search_21 : decode cX6_search 21 = .ok (.invokevirtual 109, 3) := by decide +kernel
theorem dX6_search_24 : decode cX6_search 24 = .ok (.ifCond .ne 14, 3) := by decide +kernel
theorem dX6_search_27 : decode cX6_search 27 = .ok (.aload_n 0, 1) := by decide +kernel
theorem dX6_search_28 : decode cX6_search 28 = .ok (.iload_n 2, 1) := by decide +kernel
theorem dX6_search_29 : decode cX6_search 29 = .ok (.invokevirtual 91, 3) := by decide +kernel
theorem dX6_search_32 : decode cX6_search 32 = .ok (.invokevirtual 109, 3) := by decide +kernel
theorem dX6_search_35 : decode cX6_search 35 = .ok (.ifCond .eq 6, 3) := by decide +kernel
theorem dX6_search_38 : decode cX6_search 38 = .ok (.bipush (-2), 2) := by decide +kernel
theorem dX6_search_40 : decode cX6_search 40 = .ok (.ireturn, 1) := by decide +kernel
theorem dX6_search_41 : decode cX6_search 41 = .ok (.aload_n 0, 1) := by decide +kernel
theorem dX6_search_42 : decode cX6_search 42 = .ok (.getfield 41, 3) := by decide +kernel
theorem dX6_search_45 : decode cX6_search 45 = .ok (.aload_n 0, 1) := by decide +kernel
theorem dX6_search_46 : decode cX6_search 46 = .ok (.iload_n 1, 1) := by decide +kernel
theorem dX6_search_47 : decode cX6_search 47 = .ok (.invokevirtual 91, 3) := by decide +kernel
theorem dX6_search_50 : decode cX6_search 50 = .ok (.aload_n 0, 1) := by decide +kernel
theorem dX6_search_51 : decode cX6_search 51 = .ok (.iload_n 2, 1) := by decide +kernel
theorem dX6_search_52 : decode cX6_search 52 = .ok (.invokevirtual 91, 3) := by decide +kernel
theorem dX6_search_55 : decode cX6_search 55 = .ok (.aload_n 0, 1) := by decide +kernel
theorem dX6_search_56 : decode cX6_search 56 = .ok (.getfield 10, 3) := by decide +kernel
theorem dX6_search_59 : decode cX6_search 59 = .ok (.getfield 213, 3) := by decide +kernel
theorem dX6_search_62 : decode cX6_search 62 = .ok (.invokevirtual 220, 3) := by decide +kernel
theorem dX6_search_65 : decode cX6_search 65 = .ok (.aload_n 0, 1) := by decide +kernel
theorem dX6_search_66 : decode cX6_search 66 = .ok (.getfield 41, 3) := by decide +kernel
theorem dX6_search_69 : decode cX6_search 69 = .ok (.invokevirtual 249, 3) := by decide +kernel
theorem dX6_search_72 : decode cX6_search 72 = .ok (.pop, 1) := by decide +kernel
theorem dX6_search_73 : decode cX6_search 73 = .ok (.aload_n 0, 1) := by decide +kernel
theorem dX6_search_74 : decode cX6_search 74 = .ok (.getfield 41, 3) := by decide +kernel
theorem dX6_search_77 : decode cX6_search 77 = .ok (.getfield 252, 3) := by decide +kernel
theorem dX6_search_80 : decode cX6_search 80 = .ok (.ireturn, 1) := by decide +kernel
noncomputable def f_X6_search_b14  (σ : Hp) : Option (Int32 × Hp) := some ((-1), σ)
set_option maxRecDepth 100000 in
set_option maxHeartbeats 4000000 in
theorem t_X6_search_b14 {l : Launch} {γ : Gm} {ad : Nat → Nat} {K : Option Value → Hp → Prop} (hc : Cx l γ 35 3 ad shC RX6 cX6_search (some .int) K)  {σ : Hp} (h : wpO (f_X6_search_b14  σ) (KI K)) : WW l γ 35 3 ad shC 14 [] [] σ := by
  unfold f_X6_search_b14 at h
  refine r_iconst hc (v := (-1)) (by decide) dX6_search_14 ?_
  have h := wp_v h
  exact r_iret hc h dX6_search_15
noncomputable def f_X6_search_b38  (σ : Hp) : Option (Int32 × Hp) := some ((-2), σ)
set_option maxRecDepth 100000 in
set_option maxHeartbeats 4000000 in
theorem t_X6_search_b38 {l : Launch} {γ : Gm} {ad : Nat → Nat} {K : Option Value → Hp → Prop} (hc : Cx l γ 35 3 ad shC RX6 cX6_search (some .int) K)  {σ : Hp} (h : wpO (f_X6_search_b38  σ) (KI K)) : WW l γ 35 3 ad shC 38 [] [] σ := by
  unfold f_X6_search_b38 at h
  refine r_bipush hc (v := (-2)) (by decide) dX6_search_38 ?_
  have h := wp_v h
  exact r_iret hc h dX6_search_40
noncomputable def f_X6_search (x0 : Nat) (x1 : Int32) (x2 : Int32) (σ : Hp) : Option (Int32 × Hp) := bO (f_X6_noDrawer x1 σ) fun r1 σ2 => if r1 = 0 then (bO (f_X6_noDrawer x2 σ2) fun r3 σ4 => if r3 = 0 then (gO (chk shC x0 6) fun _ => bO (f_X6_in x0 x1 σ4) fun r5 σ6 => gO (chk shC r5 1) fun _ => bO (f_X1_isEmpty r5 σ6) fun r8 σ9 => if r8 = 0 then (gO (chk shC x0 6) fun _ => bO (f_X6_in x0 x2 σ9) fun r11 σ12 => gO (chk shC r11 1) fun _ => bO (f_X1_isEmpty r11 σ12) fun r14 σ15 => if r14 = 0 then (gO (getR shC 6 x0 7 σ15) fun v17 => gO (chk shC x0 6) fun _ => bO (f_X6_in x0 x1 σ15) fun r18 σ19 => gO (chk shC x0 6) fun _ => bO (f_X6_in x0 x2 σ19) fun r21 σ22 => gO (getR shC 6 x0 0 σ22) fun v24 => gO (getR shC 5 v24 1 σ22) fun v25 => gO (chk shC v17 4) fun _ => bO (f_X4_byLists v17 r18 r21 v25 σ22) fun _ σ27 => gO (getR shC 6 x0 7 σ27) fun v29 => gO (chk shC v29 4) fun _ => bO (f_X4_finds v29 σ27) fun r30 σ31 => gO (getR shC 6 x0 7 σ31) fun v33 => gO (getI shC 4 v33 4 σ31) fun v34 => some (v34, σ31)) else (f_X6_search_b38  σ15)) else (f_X6_search_b38  σ9)) else (f_X6_search_b14  σ4)) else (f_X6_search_b14  σ2)
set_option maxRecDepth 100000 in
set_option maxHeartbeats 4000000 in
theorem t_X6_search {l : Launch} {γ : Gm} {ad : Nat → Nat} {K : Option Value → Hp → Prop} (hc : Cx l γ 35 3 ad shC RX6 cX6_search (some .int) K) {x0 : Nat} {x1 : Int32} {x2 : Int32} {σ : Hp} (h : wpO (f_X6_search x0 x1 x2 σ) (KI K)) : WW l γ 35 3 ad shC 0 [(0, .ref (ad x0)), (1, .int x1), (2, .int x2)] [] σ := by
  unfold f_X6_search at h
  refine r_iload_n hc 1 rfl rfl dX6_search_0 ?_
  obtain ⟨r1, σ2, er1, h⟩ := wp_b h
  refine r_callS hc ms_X6_noDrawer ml_X6_76 (c_X6_noDrawer er1) rfl rfl (by decide) rfl (Nat.le_of_ble_eq_true rfl) dX6_search_1 ?_
  refine r_if_ne hc (tgt := 14) dX6_search_4 (by decide) (fun c => ?_) (fun c => ?_)
  · have h := wp_f c h
    refine r_sub [] (lv' := []) rfl ?_
    exact t_X6_search_b14 hc h
  · have h := wp_t c h
    refine r_iload_n hc 2 rfl rfl dX6_search_7 ?_
    obtain ⟨r3, σ4, er3, h⟩ := wp_b h
    refine r_callS hc ms_X6_noDrawer ml_X6_76 (c_X6_noDrawer er3) rfl rfl (by decide) rfl (Nat.le_of_ble_eq_true rfl) dX6_search_8 ?_
    refine r_if_eq hc (tgt := 16) dX6_search_11 (by decide) (fun c => ?_) (fun c => ?_)
    · have h := wp_t c h
      refine r_aload_n hc 0 rfl rfl dX6_search_16 ?_
      refine r_iload_n hc 1 rfl rfl dX6_search_17 ?_
      obtain ⟨_, ek7, h⟩ := wp_g h
      obtain ⟨r5, σ6, er5, h⟩ := wp_b h
      refine r_callV hc (k0 := x0) mv_X6_in ml_X6_91 (c_X6_in er5) (chk_of ek7) cls_6.1 rfl rfl rfl (by decide) rfl (Nat.le_of_ble_eq_true rfl) dX6_search_18 ?_
      obtain ⟨_, ek10, h⟩ := wp_g h
      obtain ⟨r8, σ9, er8, h⟩ := wp_b h
      refine r_callV hc (k0 := r5) mv_X1_isEmpty ml_X6_109 (c_X1_isEmpty er8) (chk_of ek10) cls_1.1 rfl rfl rfl (by decide) rfl (Nat.le_of_ble_eq_true rfl) dX6_search_21 ?_
      refine r_if_ne hc (tgt := 38) dX6_search_24 (by decide) (fun c => ?_) (fun c => ?_)
      · have h := wp_f c h
        refine r_sub [] (lv' := []) rfl ?_
        exact t_X6_search_b38 hc h
      · have h := wp_t c h
        refine r_aload_n hc 0 rfl rfl dX6_search_27 ?_
        refine r_iload_n hc 2 rfl rfl dX6_search_28 ?_
        obtain ⟨_, ek13, h⟩ := wp_g h
        obtain ⟨r11, σ12, er11, h⟩ := wp_b h
        refine r_callV hc (k0 := x0) mv_X6_in ml_X6_91 (c_X6_in er11) (chk_of ek13) cls_6.1 rfl rfl rfl (by decide) rfl (Nat.le_of_ble_eq_true rfl) dX6_search_29 ?_
        obtain ⟨_, ek16, h⟩ := wp_g h
        obtain ⟨r14, σ15, er14, h⟩ := wp_b h
        refine r_callV hc (k0 := r11) mv_X1_isEmpty ml_X6_109 (c_X1_isEmpty er14) (chk_of ek16) cls_1.1 rfl rfl rfl (by decide) rfl (Nat.le_of_ble_eq_true rfl) dX6_search_32 ?_
        refine r_if_eq hc (tgt := 41) dX6_search_35 (by decide) (fun c => ?_) (fun c => ?_)
        · have h := wp_t c h
          refine r_aload_n hc 0 rfl rfl dX6_search_41 ?_
          obtain ⟨v17, ev17, h⟩ := wp_g h
          refine r_getR hc ev17 fl_X6_41 rfl dX6_search_42 ?_
          refine r_aload_n hc 0 rfl rfl dX6_search_45 ?_
          refine r_iload_n hc 1 rfl rfl dX6_search_46 ?_
          obtain ⟨_, ek20, h⟩ := wp_g h
          obtain ⟨r18, σ19, er18, h⟩ := wp_b h
          refine r_callV hc (k0 := x0) mv_X6_in ml_X6_91 (c_X6_in er18) (chk_of ek20) cls_6.1 rfl rfl rfl (by decide) rfl (Nat.le_of_ble_eq_true rfl) dX6_search_47 ?_
          refine r_aload_n hc 0 rfl rfl dX6_search_50 ?_
          refine r_iload_n hc 2 rfl rfl dX6_search_51 ?_
          obtain ⟨_, ek23, h⟩ := wp_g h
          obtain ⟨r21, σ22, er21, h⟩ := wp_b h
          refine r_callV hc (k0 := x0) mv_X6_in ml_X6_91 (c_X6_in er21) (chk_of ek23) cls_6.1 rfl rfl rfl (by decide) rfl (Nat.le_of_ble_eq_true rfl) dX6_search_52 ?_
          refine r_aload_n hc 0 rfl rfl dX6_search_55 ?_
          obtain ⟨v24, ev24, h⟩ := wp_g h
          refine r_getR hc ev24 fl_X6_10 rfl dX6_search_56 ?_
          obtain ⟨v25, ev25, h⟩ := wp_g h
          refine r_getR hc ev25 fl_X6_213 rfl dX6_search_59 ?_
          obtain ⟨_, ek28, h⟩ := wp_g h
          obtain ⟨_, σ27, er26, h⟩ := wp_b h
          refine r_callV hc (k0 := v17) mv_X4_byLists ml_X6_220 (c_X4_byLists er26) (chk_of ek28) cls_4.1 rfl rfl rfl (by decide) rfl (Nat.le_of_ble_eq_true rfl) dX6_search_62 ?_
          refine r_aload_n hc 0 rfl rfl dX6_search_65 ?_
          obtain ⟨v29, ev29, h⟩ := wp_g h
          refine r_getR hc ev29 fl_X6_41 rfl dX6_search_66 ?_
          obtain ⟨_, ek32, h⟩ := wp_g h
          obtain ⟨r30, σ31, er30, h⟩ := wp_b h
          refine r_callV hc (k0 := v29) mv_X4_finds ml_X6_249 (c_X4_finds er30) (chk_of ek32) cls_4.1 rfl rfl rfl (by decide) rfl (Nat.le_of_ble_eq_true rfl) dX6_search_69 ?_
          refine r_pop hc rfl dX6_search_72 ?_
          refine r_aload_n hc 0 rfl rfl dX6_search_73 ?_
          obtain ⟨v33, ev33, h⟩ := wp_g h
          refine r_getR hc ev33 fl_X6_41 rfl dX6_search_74 ?_
          obtain ⟨v34, ev34, h⟩ := wp_g h
          refine r_getI hc ev34 fl_X6_252 rfl dX6_search_77 ?_
          have h := wp_v h
          exact r_iret hc h dX6_search_80
        · have h := wp_f c h
          refine r_sub [] (lv' := []) rfl ?_
          exact t_X6_search_b38 hc h
    · have h := wp_f c h
      refine r_sub [] (lv' := []) rfl ?_
      exact t_X6_search_b14 hc h
theorem c_X6_search {l : Launch} {x0 : Nat} {x1 : Int32} {x2 : Int32} {σ σ' : Hp} {r : Int32} (h : f_X6_search x0 x1 x2 σ = some (r, σ')) : Mt l yX6_search cX6_search 3 (some .int) 35 shC (fun ad => [.ref (ad x0), .int x1, .int x2]) σ (fun ad => some (.int r)) σ' := mt_i (own := RX6) (by decide) rfl (fun _ => Nat.le_of_ble_eq_true rfl) (fun γ ad K hc hk => t_X6_search hc ⟨_, _, h, hk⟩)

-- NetMaps.tighten(II)I
theorem dX6_tighten_0 : decode cX6_tighten 0 = .ok (.iload_n 1, 1) := by decide +kernel
theorem dX6_tighten_1 : decode cX6_tighten 1 = .ok (.invokestatic 76, 3) := by decide +kernel
theorem dX6_tighten_4 : decode cX6_tighten 4 = .ok (.ifCond .ne 10, 3) := by decide +kernel
theorem dX6_tighten_7 : decode cX6_tighten 7 = .ok (.iload_n 2, 1) := by decide +kernel
theorem dX6_tighten_8 : decode cX6_tighten 8 = .ok (.invokestatic 76, 3) := by decide +kernel
theorem dX6_tighten_11 : decode cX6_tighten 11 = .ok (.ifCond .eq 5, 3) := by decide +kernel
theorem dX6_tighten_14 : decode cX6_tighten 14 = .ok (.iconst (-1), 1) := by decide +kernel
theorem dX6_tighten_15 : decode cX6_tighten 15 = .ok (.ireturn, 1) := by decide +kernel
theorem dX6_tighten_16 : decode cX6_tighten 16 = .ok (.aload_n 0, 1) := by decide +kernel
theorem dX6_tighten_17 : decode cX6_tighten 17 = .ok (.iload_n 1, 1) := by decide +kernel
theorem dX6_tighten_18 : decode cX6_tighten 18 = .ok (.invokevirtual 91, 3) := by decide +kernel
theorem dX6_tighten_21 : decode cX6_tighten 21 = .ok (.astore_n 3, 1) := by decide +kernel
theorem dX6_tighten_22 : decode cX6_tighten 22 = .ok (.aload_n 0, 1) := by decide +kernel
theorem dX6_tighten_23 : decode cX6_tighten 23 = .ok (.iload_n 2, 1) := by decide +kernel
theorem dX6_tighten_24 : decode cX6_tighten 24 = .ok (.invokevirtual 91, 3) := by decide +kernel
theorem dX6_tighten_27 : decode cX6_tighten 27 = .ok (.astore 4, 2) := by decide +kernel
theorem dX6_tighten_29 : decode cX6_tighten 29 = .ok (.aload_n 3, 1) := by decide +kernel
theorem dX6_tighten_30 : decode cX6_tighten 30 = .ok (.invokevirtual 109, 3) := by decide +kernel
theorem dX6_tighten_33 : decode cX6_tighten 33 = .ok (.ifCond .ne 11, 3) := by decide +kernel
theorem dX6_tighten_36 : decode cX6_tighten 36 = .ok (.aload 4, 2) := by decide +kernel
theorem dX6_tighten_38 : decode cX6_tighten 38 = .ok (.invokevirtual 109, 3) := by decide +kernel
theorem dX6_tighten_41 : decode cX6_tighten 41 = .ok (.ifCond .eq 6, 3) := by decide +kernel
theorem dX6_tighten_44 : decode cX6_tighten 44 = .ok (.bipush (-2), 2) := by decide +kernel
theorem dX6_tighten_46 : decode cX6_tighten 46 = .ok (.ireturn, 1) := by decide +kernel
theorem dX6_tighten_47 : decode cX6_tighten 47 = .ok (.aload_n 0, 1) := by decide +kernel
theorem dX6_tighten_48 : decode cX6_tighten 48 = .ok (.getfield 41, 3) := by decide +kernel
theorem dX6_tighten_51 : decode cX6_tighten 51 = .ok (.aload_n 3, 1) := by decide +kernel
theorem dX6_tighten_52 : decode cX6_tighten 52 = .ok (.aload 4, 2) := by decide +kernel
theorem dX6_tighten_54 : decode cX6_tighten 54 = .ok (.aload_n 0, 1) := by decide +kernel
theorem dX6_tighten_55 : decode cX6_tighten 55 = .ok (.getfield 10, 3) := by decide +kernel
theorem dX6_tighten_58 : decode cX6_tighten 58 = .ok (.getfield 213, 3) := by decide +kernel
theorem dX6_tighten_61 : decode cX6_tighten 61 = .ok (.invokevirtual 220, 3) := by decide +kernel
theorem dX6_tighten_64 : decode cX6_tighten 64 = .ok (.aload_n 0, 1) := by decide +kernel
theorem dX6_tighten_65 : decode cX6_tighten 65 = .ok (.getfield 41, 3) := by decide +kernel
theorem dX6_tighten_68 : decode cX6_tighten 68 = .ok (.invokevirtual 242, 3) := by decide +kernel
theorem dX6_tighten_71 : decode cX6_tighten 71 = .ok (.iconst 0, 1) := by decide +kernel
theorem dX6_tighten_72 : decode cX6_tighten 72 = .ok (.istore 5, 2) := by decide +kernel
theorem dX6_tighten_74 : decode cX6_tighten 74 = .ok (.iconst 0, 1) := by decide +kernel
theorem dX6_tighten_75 : decode cX6_tighten 75 = .ok (.istore 6, 2) := by decide +kernel
theorem dX6_tighten_77 : decode cX6_tighten 77 = .ok (.iload 6, 2) := by decide +kernel
theorem dX6_tighten_79 : decode cX6_tighten 79 = .ok (.aload_n 3, 1) := by decide +kernel
theorem dX6_tighten_80 : decode cX6_tighten 80 = .ok (.getfield 126, 3) := by decide +kernel
theorem dX6_tighten_83 : decode cX6_tighten 83 = .ok (.if_icmp .ge 62, 3) := by decide +kernel
theorem dX6_tighten_86 : decode cX6_tighten 86 = .ok (.aload_n 0, 1) := by decide +kernel
theorem dX6_tighten_87 : decode cX6_tighten 87 = .ok (.getfield 41, 3) := by decide +kernel
theorem dX6_tighten_90 : decode cX6_tighten 90 = .ok (.getfield 239, 3) := by decide +kernel
theorem dX6_tighten_93 : decode cX6_tighten 93 = .ok (.iload 6, 2) := by decide +kernel
theorem dX6_tighten_95 : decode cX6_tighten 95 = .ok (.iaload, 1) := by decide +kernel
theorem dX6_tighten_96 : decode cX6_tighten 96 = .ok (.istore 7, 2) := by decide +kernel
theorem dX6_tighten_98 : decode cX6_tighten 98 = .ok (.iload 5, 2) := by decide +kernel
theorem dX6_tighten_100 : decode cX6_tighten 100 = .ok (.aload_n 0, 1) := by decide +kernel
theorem dX6_tighten_101 : decode cX6_tighten 101 = .ok (.getfield 10, 3) := by decide +kernel
theorem dX6_tighten_104 : decode cX6_tighten 104 = .ok (.getfield 213, 3) := by decide +kernel
theorem dX6_tighten_107 : decode cX6_tighten 107 = .ok (.iload 6, 2) := by decide +kernel
theorem dX6_tighten_109 : decode cX6_tighten 109 = .ok (.iaload, 1) := by decide +kernel
theorem dX6_tighten_110 : decode cX6_tighten 110 = .ok (.aload 4, 2) := by decide +kernel
theorem dX6_tighten_112 : decode cX6_tighten 112 = .ok (.invokevirtual 206, 3) := by decide +kernel
theorem dX6_tighten_115 : decode cX6_tighten 115 = .ok (.iand, 1) := by decide +kernel
theorem dX6_tighten_116 : decode cX6_tighten 116 = .ok (.iload 7, 2) := by decide +kernel
theorem dX6_tighten_118 : decode cX6_tighten 118 = .ok (.iconst (-1), 1) := by decide +kernel
theorem dX6_tighten_119 : decode cX6_tighten 119 = .ok (.ixor, 1) := by decide +kernel
theorem dX6_tighten_120 : decode cX6_tighten 120 = .ok (.iand, 1) := by decide +kernel
theorem dX6_tighten_121 : decode cX6_tighten 121 = .ok (.invokestatic 132, 3) := by decide +kernel
theorem dX6_tighten_124 : decode cX6_tighten 124 = .ok (.iadd, 1) := by decide +kernel
theorem dX6_tighten_125 : decode cX6_tighten 125 = .ok (.istore 5, 2) := by decide +kernel
theorem dX6_tighten_127 : decode cX6_tighten 127 = .ok (.aload_n 0, 1) := by decide +kernel
theorem dX6_tighten_128 : decode cX6_tighten 128 = .ok (.getfield 10, 3) := by decide +kernel
theorem dX6_tighten_131 : decode cX6_tighten 131 = .ok (.getfield 213, 3) := by decide +kernel
theorem dX6_tighten_134 : decode cX6_tighten 134 = .ok (.iload 6, 2) := by decide +kernel
theorem dX6_tighten_136 : decode cX6_tighten 136 = .ok (.iload 7, 2) := by decide +kernel
theorem dX6_tighten_138 : decode cX6_tighten 138 = .ok (.iastore, 1) := by decide +kernel
theorem dX6_tighten_139 : decode cX6_tighten 139 = .ok (.iinc 6 1, 3) := by decide +kernel
theorem dX6_tighten_142 : decode cX6_tighten 142 = .ok (.goto (-65), 3) := by decide +kernel
theorem dX6_tighten_145 : decode cX6_tighten 145 = .ok (.iload 5, 2) := by decide +kernel
theorem dX6_tighten_147 : decode cX6_tighten 147 = .ok (.ireturn, 1) := by decide +kernel
noncomputable def f_X6_tighten_b14  (σ : Hp) : Option (Int32 × Hp) := some ((-1), σ)
set_option maxRecDepth 100000 in
set_option maxHeartbeats 4000000 in
theorem t_X6_tighten_b14 {l : Launch} {γ : Gm} {ad : Nat → Nat} {K : Option Value → Hp → Prop} (hc : Cx l γ 5 8 ad shC RX6 cX6_tighten (some .int) K)  {σ : Hp} (h : wpO (f_X6_tighten_b14  σ) (KI K)) : WW l γ 5 8 ad shC 14 [] [] σ := by
  unfold f_X6_tighten_b14 at h
  refine r_iconst hc (v := (-1)) (by decide) dX6_tighten_14 ?_
  have h := wp_v h
  exact r_iret hc h dX6_tighten_15
noncomputable def f_X6_tighten_b44  (σ : Hp) : Option (Int32 × Hp) := some ((-2), σ)
set_option maxRecDepth 100000 in
set_option maxHeartbeats 4000000 in
theorem t_X6_tighten_b44 {l : Launch} {γ : Gm} {ad : Nat → Nat} {K : Option Value → Hp → Prop} (hc : Cx l γ 5 8 ad shC RX6 cX6_tighten (some .int) K)  {σ : Hp} (h : wpO (f_X6_tighten_b44  σ) (KI K)) : WW l γ 5 8 ad shC 44 [] [] σ := by
  unfold f_X6_tighten_b44 at h
  refine r_bipush hc (v := (-2)) (by decide) dX6_tighten_44 ?_
  have h := wp_v h
  exact r_iret hc h dX6_tighten_46
noncomputable def f_X6_tighten_L77 (x0 : Nat) (x3 : Nat) (x4 : Nat) (v : (Int32 × Int32)) (σ : Hp) : Option (((Int32 × Int32) ⊕ (Int32)) × Hp) := gO (getI shC 1 x3 0 σ) fun v1 => if v1 ≤ v.2 then (some (Sum.inr v.1, σ)) else (gO (getR shC 6 x0 7 σ) fun v2 => gO (getR shC 4 v2 2 σ) fun v3 => gO (aldI shC 0 v3 v.2 σ) fun v4 => gO (getR shC 6 x0 0 σ) fun v5 => gO (getR shC 5 v5 1 σ) fun v6 => gO (aldI shC 0 v6 v.2 σ) fun v7 => gO (chk shC x4 1) fun _ => bO (f_X1_all x4 σ) fun r8 σ9 => bO (f_J6_bitCount_0f7a4 shC ((v7 &&& r8) &&& (v4 ^^^ (-1))) σ9) fun r11 σ12 => gO (getR shC 6 x0 0 σ12) fun v13 => gO (getR shC 5 v13 1 σ12) fun v14 => gO (astI shC 0 v14 v.2 v4 σ12) fun σ15 => some (Sum.inl ((v.1 + r11), (v.2 + 1)), σ15))
set_option maxRecDepth 100000 in
set_option maxHeartbeats 4000000 in
theorem t_X6_tighten_L77 {l : Launch} {γ : Gm} {ad : Nat → Nat} {K : Option Value → Hp → Prop}  (hc : Cx l γ 5 8 ad shC RX6 cX6_tighten (some .int) K) {x0 : Nat} {x3 : Nat} {x4 : Nat} {v : (Int32 × Int32)} {σ : Hp} {KX : (Int32) → Hp → Prop} (h : wpO (wh (f_X6_tighten_L77 x0 x3 x4) v σ) KX) (kx145 : ∀ (v : Int32) (σ : Hp), KX v σ → WW l γ 5 8 ad shC 145 [(5, .int v)] [] σ) : WW l γ 5 8 ad shC 77 [(0, .ref (ad x0)), (3, .ref (ad x3)), (4, .ref (ad x4)), (5, .int v.1), (6, .int v.2)] [] σ := by
  refine wh_W (P := fun v σ => WW l γ 5 8 ad shC 77 [(0, .ref (ad x0)), (3, .ref (ad x3)), (4, .ref (ad x4)), (5, .int v.1), (6, .int v.2)] [] σ) (fun v σ h => ?_) h
  have kn : ∀ (v : (Int32 × Int32)) (σ : Hp), WW l γ 5 8 ad shC 77 [(0, .ref (ad x0)), (3, .ref (ad x3)), (4, .ref (ad x4)), (5, .int v.1), (6, .int v.2)] [] σ → WW l γ 5 8 ad shC 77 [(0, .ref (ad x0)), (3, .ref (ad x3)), (4, .ref (ad x4)), (5, .int v.1), (6, .int v.2)] [] σ := fun _ _ h => h
  · unfold f_X6_tighten_L77 at h
    refine r_iload hc 4 rfl dX6_tighten_77 ?_
    refine r_aload_n hc 1 rfl rfl dX6_tighten_79 ?_
    obtain ⟨v1, ev1, h⟩ := wp_g h
    refine r_getI hc ev1 fl_X6_126 rfl dX6_tighten_80 ?_
    refine r_icmp_ge hc (tgt := 145) dX6_tighten_83 (by decide) (fun c => ?_) (fun c => ?_)
    · have h := wp_t c h
      refine r_sub [3] (lv' := [(5, .int v.1)]) rfl ?_
      have h := wp_v h
      exact kx145 v.1 _ h
    · have h := wp_f c h
      refine r_aload_n hc 0 rfl rfl dX6_tighten_86 ?_
      obtain ⟨v2, ev2, h⟩ := wp_g h
      refine r_getR hc ev2 fl_X6_41 rfl dX6_tighten_87 ?_
      obtain ⟨v3, ev3, h⟩ := wp_g h
      refine r_getR hc ev3 fl_X6_239 rfl dX6_tighten_90 ?_
      refine r_iload hc 4 rfl dX6_tighten_93 ?_
      obtain ⟨v4, ev4, h⟩ := wp_g h
      refine r_iald hc ev4 dX6_tighten_95 ?_
      refine r_istoreE hc (i := 7) (lv' := [(7, .int v4), (0, .ref (ad x0)), (3, .ref (ad x3)), (4, .ref (ad x4)), (5, .int v.1), (6, .int v.2)]) rfl (by decide) rfl dX6_tighten_96 ?_
      refine r_iload hc 4 rfl dX6_tighten_98 ?_
      refine r_aload_n hc 1 rfl rfl dX6_tighten_100 ?_
      obtain ⟨v5, ev5, h⟩ := wp_g h
      refine r_getR hc ev5 fl_X6_10 rfl dX6_tighten_101 ?_
      obtain ⟨v6, ev6, h⟩ := wp_g h
      refine r_getR hc ev6 fl_X6_213 rfl dX6_tighten_104 ?_
      refine r_iload hc 5 rfl dX6_tighten_107 ?_
      obtain ⟨v7, ev7, h⟩ := wp_g h
      refine r_iald hc ev7 dX6_tighten_109 ?_
      refine r_aload hc 3 rfl dX6_tighten_110 ?_
      obtain ⟨_, ek10, h⟩ := wp_g h
      obtain ⟨r8, σ9, er8, h⟩ := wp_b h
      refine r_callV hc (k0 := x4) mv_X1_all ml_X6_206 (c_X1_all er8) (chk_of ek10) cls_1.1 rfl rfl rfl (by decide) rfl (Nat.le_of_ble_eq_true rfl) dX6_tighten_112 ?_
      refine r_iand hc dX6_tighten_115 ?_
      refine r_iload hc 0 rfl dX6_tighten_116 ?_
      refine r_iconst hc (v := (-1)) (by decide) dX6_tighten_118 ?_
      refine r_ixor hc dX6_tighten_119 ?_
      refine r_iand hc dX6_tighten_120 ?_
      obtain ⟨r11, σ12, er11, h⟩ := wp_b h
      refine r_callS hc ms_J6_bitCount_0f7a4 ml_X6_132 (c_J6_bitCount_0f7a4 er11) rfl rfl (by decide) rfl (Nat.le_of_ble_eq_true rfl) dX6_tighten_121 ?_
      refine r_iadd hc dX6_tighten_124 ?_
      refine r_istoreE hc (i := 5) (lv' := [(5, .int (v.1 + r11)), (7, .int v4), (0, .ref (ad x0)), (3, .ref (ad x3)), (4, .ref (ad x4)), (6, .int v.2)]) rfl (by decide) rfl dX6_tighten_125 ?_
      refine r_aload_n hc 2 rfl rfl dX6_tighten_127 ?_
      obtain ⟨v13, ev13, h⟩ := wp_g h
      refine r_getR hc ev13 fl_X6_10 rfl dX6_tighten_128 ?_
      obtain ⟨v14, ev14, h⟩ := wp_g h
      refine r_getR hc ev14 fl_X6_213 rfl dX6_tighten_131 ?_
      refine r_iload hc 5 rfl dX6_tighten_134 ?_
      refine r_iload hc 1 rfl dX6_tighten_136 ?_
      obtain ⟨σ15, eσ15, h⟩ := wp_g h
      refine r_iast hc eσ15 dX6_tighten_138 ?_
      refine r_iincE hc (j := 5) (w := 1) (lv' := [(6, .int (v.2 + 1)), (5, .int (v.1 + r11)), (7, .int v4), (0, .ref (ad x0)), (3, .ref (ad x3)), (4, .ref (ad x4))]) rfl (by decide) rfl (by decide) rfl dX6_tighten_139 ?_
      refine r_goto hc (tgt := 77) dX6_tighten_142 (by decide) ?_
      refine r_sub [3, 4, 5, 1, 0] (lv' := [(0, .ref (ad x0)), (3, .ref (ad x3)), (4, .ref (ad x4)), (5, .int (v.1 + r11)), (6, .int (v.2 + 1))]) rfl ?_
      have h := wp_v h
      exact kn ((v.1 + r11), (v.2 + 1)) _ h
noncomputable def f_X6_tighten (x0 : Nat) (x1 : Int32) (x2 : Int32) (σ : Hp) : Option (Int32 × Hp) := bO (f_X6_noDrawer x1 σ) fun r1 σ2 => if r1 = 0 then (bO (f_X6_noDrawer x2 σ2) fun r3 σ4 => if r3 = 0 then (gO (chk shC x0 6) fun _ => bO (f_X6_in x0 x1 σ4) fun r5 σ6 => gO (chk shC x0 6) fun _ => bO (f_X6_in x0 x2 σ6) fun r8 σ9 => gO (chk shC r5 1) fun _ => bO (f_X1_isEmpty r5 σ9) fun r11 σ12 => if r11 = 0 then (gO (chk shC r8 1) fun _ => bO (f_X1_isEmpty r8 σ12) fun r14 σ15 => if r14 = 0 then (gO (getR shC 6 x0 7 σ15) fun v17 => gO (getR shC 6 x0 0 σ15) fun v18 => gO (getR shC 5 v18 1 σ15) fun v19 => gO (chk shC v17 4) fun _ => bO (f_X4_byLists v17 r5 r8 v19 σ15) fun _ σ21 => gO (getR shC 6 x0 7 σ21) fun v23 => gO (chk shC v23 4) fun _ => bO (f_X4_narrow v23 σ21) fun _ σ25 => bO (wh (f_X6_tighten_L77 x0 r5 r8) (0, 0) σ25) fun y27 σ28 => (some (y27, σ28))) else (f_X6_tighten_b44  σ15)) else (f_X6_tighten_b44  σ12)) else (f_X6_tighten_b14  σ4)) else (f_X6_tighten_b14  σ2)
set_option maxRecDepth 100000 in
set_option maxHeartbeats 4000000 in
theorem t_X6_tighten {l : Launch} {γ : Gm} {ad : Nat → Nat} {K : Option Value → Hp → Prop} (hc : Cx l γ 5 8 ad shC RX6 cX6_tighten (some .int) K) {x0 : Nat} {x1 : Int32} {x2 : Int32} {σ : Hp} (h : wpO (f_X6_tighten x0 x1 x2 σ) (KI K)) : WW l γ 5 8 ad shC 0 [(0, .ref (ad x0)), (1, .int x1), (2, .int x2)] [] σ := by
  unfold f_X6_tighten at h
  refine r_iload_n hc 1 rfl rfl dX6_tighten_0 ?_
  obtain ⟨r1, σ2, er1, h⟩ := wp_b h
  refine r_callS hc ms_X6_noDrawer ml_X6_76 (c_X6_noDrawer er1) rfl rfl (by decide) rfl (Nat.le_of_ble_eq_true rfl) dX6_tighten_1 ?_
  refine r_if_ne hc (tgt := 14) dX6_tighten_4 (by decide) (fun c => ?_) (fun c => ?_)
  · have h := wp_f c h
    refine r_sub [] (lv' := []) rfl ?_
    exact t_X6_tighten_b14 hc h
  · have h := wp_t c h
    refine r_iload_n hc 2 rfl rfl dX6_tighten_7 ?_
    obtain ⟨r3, σ4, er3, h⟩ := wp_b h
    refine r_callS hc ms_X6_noDrawer ml_X6_76 (c_X6_noDrawer er3) rfl rfl (by decide) rfl (Nat.le_of_ble_eq_true rfl) dX6_tighten_8 ?_
    refine r_if_eq hc (tgt := 16) dX6_tighten_11 (by decide) (fun c => ?_) (fun c => ?_)
    · have h := wp_t c h
      refine r_aload_n hc 0 rfl rfl dX6_tighten_16 ?_
      refine r_iload_n hc 1 rfl rfl dX6_tighten_17 ?_
      obtain ⟨_, ek7, h⟩ := wp_g h
      obtain ⟨r5, σ6, er5, h⟩ := wp_b h
      refine r_callV hc (k0 := x0) mv_X6_in ml_X6_91 (c_X6_in er5) (chk_of ek7) cls_6.1 rfl rfl rfl (by decide) rfl (Nat.le_of_ble_eq_true rfl) dX6_tighten_18 ?_
      refine r_astore_n hc (i := 3) (lv' := [(3, .ref (ad r5)), (0, .ref (ad x0)), (1, .int x1), (2, .int x2)]) rfl (by decide) rfl dX6_tighten_21 ?_
      refine r_aload_n hc 1 rfl rfl dX6_tighten_22 ?_
      refine r_iload_n hc 3 rfl rfl dX6_tighten_23 ?_
      obtain ⟨_, ek10, h⟩ := wp_g h
      obtain ⟨r8, σ9, er8, h⟩ := wp_b h
      refine r_callV hc (k0 := x0) mv_X6_in ml_X6_91 (c_X6_in er8) (chk_of ek10) cls_6.1 rfl rfl rfl (by decide) rfl (Nat.le_of_ble_eq_true rfl) dX6_tighten_24 ?_
      refine r_astore hc (i := 4) (lv' := [(4, .ref (ad r8)), (3, .ref (ad r5)), (0, .ref (ad x0)), (1, .int x1), (2, .int x2)]) (by decide) rfl dX6_tighten_27 ?_
      refine r_aload_n hc 1 rfl rfl dX6_tighten_29 ?_
      obtain ⟨_, ek13, h⟩ := wp_g h
      obtain ⟨r11, σ12, er11, h⟩ := wp_b h
      refine r_callV hc (k0 := r5) mv_X1_isEmpty ml_X6_109 (c_X1_isEmpty er11) (chk_of ek13) cls_1.1 rfl rfl rfl (by decide) rfl (Nat.le_of_ble_eq_true rfl) dX6_tighten_30 ?_
      refine r_if_ne hc (tgt := 44) dX6_tighten_33 (by decide) (fun c => ?_) (fun c => ?_)
      · have h := wp_f c h
        refine r_sub [] (lv' := []) rfl ?_
        exact t_X6_tighten_b44 hc h
      · have h := wp_t c h
        refine r_aload hc 0 rfl dX6_tighten_36 ?_
        obtain ⟨_, ek16, h⟩ := wp_g h
        obtain ⟨r14, σ15, er14, h⟩ := wp_b h
        refine r_callV hc (k0 := r8) mv_X1_isEmpty ml_X6_109 (c_X1_isEmpty er14) (chk_of ek16) cls_1.1 rfl rfl rfl (by decide) rfl (Nat.le_of_ble_eq_true rfl) dX6_tighten_38 ?_
        refine r_if_eq hc (tgt := 47) dX6_tighten_41 (by decide) (fun c => ?_) (fun c => ?_)
        · have h := wp_t c h
          refine r_aload_n hc 2 rfl rfl dX6_tighten_47 ?_
          obtain ⟨v17, ev17, h⟩ := wp_g h
          refine r_getR hc ev17 fl_X6_41 rfl dX6_tighten_48 ?_
          refine r_aload_n hc 1 rfl rfl dX6_tighten_51 ?_
          refine r_aload hc 0 rfl dX6_tighten_52 ?_
          refine r_aload_n hc 2 rfl rfl dX6_tighten_54 ?_
          obtain ⟨v18, ev18, h⟩ := wp_g h
          refine r_getR hc ev18 fl_X6_10 rfl dX6_tighten_55 ?_
          obtain ⟨v19, ev19, h⟩ := wp_g h
          refine r_getR hc ev19 fl_X6_213 rfl dX6_tighten_58 ?_
          obtain ⟨_, ek22, h⟩ := wp_g h
          obtain ⟨_, σ21, er20, h⟩ := wp_b h
          refine r_callV hc (k0 := v17) mv_X4_byLists ml_X6_220 (c_X4_byLists er20) (chk_of ek22) cls_4.1 rfl rfl rfl (by decide) rfl (Nat.le_of_ble_eq_true rfl) dX6_tighten_61 ?_
          refine r_aload_n hc 2 rfl rfl dX6_tighten_64 ?_
          obtain ⟨v23, ev23, h⟩ := wp_g h
          refine r_getR hc ev23 fl_X6_41 rfl dX6_tighten_65 ?_
          obtain ⟨_, ek26, h⟩ := wp_g h
          obtain ⟨_, σ25, er24, h⟩ := wp_b h
          refine r_callV hc (k0 := v23) mv_X4_narrow ml_X6_242 (c_X4_narrow er24) (chk_of ek26) cls_4.1 rfl rfl rfl (by decide) rfl (Nat.le_of_ble_eq_true rfl) dX6_tighten_68 ?_
          refine r_iconst hc (v := 0) (by decide) dX6_tighten_71 ?_
          refine r_istoreE hc (i := 5) (lv' := [(5, .int 0), (4, .ref (ad r8)), (3, .ref (ad r5)), (0, .ref (ad x0)), (1, .int x1), (2, .int x2)]) rfl (by decide) rfl dX6_tighten_72 ?_
          refine r_iconst hc (v := 0) (by decide) dX6_tighten_74 ?_
          refine r_istoreE hc (i := 6) (lv' := [(6, .int 0), (5, .int 0), (4, .ref (ad r8)), (3, .ref (ad r5)), (0, .ref (ad x0)), (1, .int x1), (2, .int x2)]) rfl (by decide) rfl dX6_tighten_75 ?_
          refine r_sub [4, 3, 2, 1, 0] (lv' := [(0, .ref (ad x0)), (3, .ref (ad r5)), (4, .ref (ad r8)), (5, .int 0), (6, .int 0)]) rfl ?_
          refine t_X6_tighten_L77 hc (wp_bb h) ?_
          · intro y27 σ28 h
            refine r_iload hc 0 rfl dX6_tighten_145 ?_
            have h := wp_v h
            exact r_iret hc h dX6_tighten_147
        · have h := wp_f c h
          refine r_sub [] (lv' := []) rfl ?_
          exact t_X6_tighten_b44 hc h
    · have h := wp_f c h
      refine r_sub [] (lv' := []) rfl ?_
      exact t_X6_tighten_b14 hc h
theorem c_X6_tighten {l : Launch} {x0 : Nat} {x1 : Int32} {x2 : Int32} {σ σ' : Hp} {r : Int32} (h : f_X6_tighten x0 x1 x2 σ = some (r, σ')) : Mt l yX6_tighten cX6_tighten 8 (some .int) 5 shC (fun ad => [.ref (ad x0), .int x1, .int x2]) σ (fun ad => some (.int r)) σ' := mt_i (own := RX6) (by decide) rfl (fun _ => Nat.le_of_ble_eq_true rfl) (fun γ ad K hc hk => t_X6_tighten hc ⟨_, _, h, hk⟩)

-- NetMaps.boundToImage(Z)I
theorem dX6_boundToImage_0 : decode cX6_boundToImage 0 = .ok (.aload_n 0, 1) := by decide +kernel
theorem dX6_boundToImage_1 : decode cX6_boundToImage 1 = .ok (.getfield 41, 3) := by decide +kernel
theorem dX6_boundToImage_4 : decode cX6_boundToImage 4 = .ok (.invokevirtual 249, 3) := by decide +kernel
theorem dX6_boundToImage_7 : decode cX6_boundToImage 7 = .ok (.ifCond .ne 5, 3) := by decide +kernel
theorem dX6_boundToImage_10 : decode cX6_boundToImage 10 = .ok (.iconst 0, 1) := by decide +kernel
theorem dX6_boundToImage_11 : decode cX6_boundToImage 11 = .ok (.ireturn, 1) := by decide +kernel
theorem dX6_boundToImage_12 : decode cX6_boundToImage 12 = .ok (.iconst 1, 1) := by decide +kernel
theorem dX6_boundToImage_13 : decode cX6_boundToImage 13 = .ok (.istore_n 2, 1) := by decide +kernel
theorem dX6_boundToImage_14 : decode cX6_boundToImage 14 = .ok (.iload_n 2, 1) := by decide +kernel
theorem dX6_boundToImage_15 : decode cX6_boundToImage 15 = .ok (.bipush 7, 2) := by decide +kernel
theorem dX6_boundToImage_17 : decode cX6_boundToImage 17 = .ok (.if_icmp .gt 60, 3) := by decide +kernel
theorem dX6_boundToImage_20 : decode cX6_boundToImage 20 = .ok (.iload_n 1, 1) := by decide +kernel
theorem dX6_boundToImage_21 : decode cX6_boundToImage 21 = .ok (.ifCond .eq 7, 3) := by decide +kernel
theorem dX6_boundToImage_24 : decode cX6_boundToImage 24 = .ok (.iload_n 2, 1) := by decide +kernel
theorem dX6_boundToImage_25 : decode cX6_boundToImage 25 = .ok (.goto 7, 3) := by decide +kernel
theorem dX6_boundToImage_28 : decode cX6_boundToImage 28 = .ok (.bipush 8, 2) := by decide +kernel
theorem dX6_boundToImage_30 : decode cX6_boundToImage 30 = .ok (.iload_n 2, 1) := by decide +kernel
theorem dX6_boundToImage_31 : decode cX6_boundToImage 31 = .ok (.isub, 1) := by decide +kernel
theorem dX6_boundToImage_32 : decode cX6_boundToImage 32 = .ok (.istore_n 3, 1) := by decide +kernel
theorem dX6_boundToImage_33 : decode cX6_boundToImage 33 = .ok (.aload_n 0, 1) := by decide +kernel
theorem dX6_boundToImage_34 : decode cX6_boundToImage 34 = .ok (.getfield 41, 3) := by decide +kernel
theorem dX6_boundToImage_37 : decode cX6_boundToImage 37 = .ok (.iload_n 1, 1) := by decide +kernel
theorem dX6_boundToImage_38 : decode cX6_boundToImage 38 = .ok (.ifCond .eq 7, 3) := by decide +kernel
theorem dX6_boundToImage_41 : decode cX6_boundToImage 41 = .ok (.iconst 0, 1) := by decide +kernel
theorem dX6_boundToImage_42 : decode cX6_boundToImage 42 = .ok (.goto 4, 3) := by decide +kernel
theorem dX6_boundToImage_45 : decode cX6_boundToImage 45 = .ok (.iload_n 3, 1) := by decide +kernel
theorem dX6_boundToImage_46 : decode cX6_boundToImage 46 = .ok (.iload_n 1, 1) := by decide +kernel
theorem dX6_boundToImage_47 : decode cX6_boundToImage 47 = .ok (.ifCond .eq 7, 3) := by decide +kernel
theorem dX6_boundToImage_50 : decode cX6_boundToImage 50 = .ok (.iload_n 3, 1) := by decide +kernel
theorem dX6_boundToImage_51 : decode cX6_boundToImage 51 = .ok (.goto 5, 3) := by decide +kernel
theorem dX6_boundToImage_54 : decode cX6_boundToImage 54 = .ok (.bipush 7, 2) := by decide +kernel
theorem dX6_boundToImage_56 : decode cX6_boundToImage 56 = .ok (.invokevirtual 224, 3) := by decide +kernel
theorem dX6_boundToImage_59 : decode cX6_boundToImage 59 = .ok (.aload_n 0, 1) := by decide +kernel
theorem dX6_boundToImage_60 : decode cX6_boundToImage 60 = .ok (.getfield 41, 3) := by decide +kernel
theorem dX6_boundToImage_63 : decode cX6_boundToImage 63 = .ok (.invokevirtual 249, 3) := by decide +kernel
theorem dX6_boundToImage_66 : decode cX6_boundToImage 66 = .ok (.ifCond .eq 5, 3) := by decide +kernel
theorem dX6_boundToImage_69 : decode cX6_boundToImage 69 = .ok (.iload_n 3, 1) := by decide +kernel
theorem dX6_boundToImage_70 : decode cX6_boundToImage 70 = .ok (.ireturn, 1) := by decide +kernel
theorem dX6_boundToImage_71 : decode cX6_boundToImage 71 = .ok (.iinc 2 1, 3) := by decide +kernel
theorem dX6_boundToImage_74 : decode cX6_boundToImage 74 = .ok (.goto (-60), 3) := by decide +kernel
theorem dX6_boundToImage_77 : decode cX6_boundToImage 77 = .ok (.iconst 0, 1) := by decide +kernel
theorem dX6_boundToImage_78 : decode cX6_boundToImage 78 = .ok (.ireturn, 1) := by decide +kernel
noncomputable def f_X6_boundToImage_b56 (x0 : Nat) (x1 : Int32) (x2 : Int32) (x3 : Int32) (s0 : Nat) (s1 : Int32) (s2 : Int32) (σ : Hp) : Option (((Int32) ⊕ ((Int32) ⊕ (Unit))) × Hp) := gO (chk shC s0 4) fun _ => bO (f_X4_bound s0 s1 s2 σ) fun _ σ2 => gO (getR shC 6 x0 7 σ2) fun v4 => gO (chk shC v4 4) fun _ => bO (f_X4_finds v4 σ2) fun r5 σ6 => if r5 = 0 then (some (Sum.inl (x2 + 1), σ6)) else (some (Sum.inr (Sum.inl x3), σ6))
set_option maxRecDepth 100000 in
set_option maxHeartbeats 4000000 in
theorem t_X6_boundToImage_b56 {l : Launch} {γ : Gm} {ad : Nat → Nat} {K : Option Value → Hp → Prop} (hc : Cx l γ 35 4 ad shC RX6 cX6_boundToImage (some .int) K) {x0 : Nat} {x1 : Int32} {x2 : Int32} {x3 : Int32} {s0 : Nat} {s1 : Int32} {s2 : Int32}  {σ : Hp} {KL : ((Int32) ⊕ ((Int32) ⊕ (Unit))) → Hp → Prop} (h : wpO (f_X6_boundToImage_b56 x0 x1 x2 x3 s0 s1 s2 σ) KL) (kn : ∀ (v : (Int32)) (σ : Hp), KL (Sum.inl v) σ → WW l γ 35 4 ad shC 14 [(0, .ref (ad x0)), (1, .int x1), (2, .int v)] [] σ) (kx69 : ∀ (v : Int32) (σ : Hp), KL (Sum.inr (Sum.inl v)) σ → WW l γ 35 4 ad shC 69 [(3, .int v)] [] σ) (kx77 : ∀ (v : Unit) (σ : Hp), KL (Sum.inr (Sum.inr v)) σ → WW l γ 35 4 ad shC 77 [] [] σ) : WW l γ 35 4 ad shC 56 [(0, .ref (ad x0)), (1, .int x1), (2, .int x2), (3, .int x3)] [.int s2, .int s1, .ref (ad s0)] σ := by
  unfold f_X6_boundToImage_b56 at h
  obtain ⟨_, ek3, h⟩ := wp_g h
  obtain ⟨_, σ2, er1, h⟩ := wp_b h
  refine r_callV hc (k0 := s0) mv_X4_bound ml_X6_224 (c_X4_bound er1) (chk_of ek3) cls_4.1 rfl rfl rfl (by decide) rfl (Nat.le_of_ble_eq_true rfl) dX6_boundToImage_56 ?_
  refine r_aload_n hc 0 rfl rfl dX6_boundToImage_59 ?_
  obtain ⟨v4, ev4, h⟩ := wp_g h
  refine r_getR hc ev4 fl_X6_41 rfl dX6_boundToImage_60 ?_
  obtain ⟨_, ek7, h⟩ := wp_g h
  obtain ⟨r5, σ6, er5, h⟩ := wp_b h
  refine r_callV hc (k0 := v4) mv_X4_finds ml_X6_249 (c_X4_finds er5) (chk_of ek7) cls_4.1 rfl rfl rfl (by decide) rfl (Nat.le_of_ble_eq_true rfl) dX6_boundToImage_63 ?_
  refine r_if_eq hc (tgt := 71) dX6_boundToImage_66 (by decide) (fun c => ?_) (fun c => ?_)
  · have h := wp_t c h
    refine r_iincE hc (j := 2) (w := 1) (lv' := [(2, .int (x2 + 1)), (0, .ref (ad x0)), (1, .int x1), (3, .int x3)]) rfl (by decide) rfl (by decide) rfl dX6_boundToImage_71 ?_
    refine r_goto hc (tgt := 14) dX6_boundToImage_74 (by decide) ?_
    refine r_sub [1, 2, 0] (lv' := [(0, .ref (ad x0)), (1, .int x1), (2, .int (x2 + 1))]) rfl ?_
    have h := wp_v h
    exact kn (x2 + 1) _ h
  · have h := wp_f c h
    refine r_sub [3] (lv' := [(3, .int x3)]) rfl ?_
    have h := wp_v h
    exact kx69 x3 _ h
noncomputable def f_X6_boundToImage_b46 (x0 : Nat) (x1 : Int32) (x2 : Int32) (x3 : Int32) (s0 : Nat) (s1 : Int32) (σ : Hp) : Option (((Int32) ⊕ ((Int32) ⊕ (Unit))) × Hp) := if x1 = 0 then (f_X6_boundToImage_b56 x0 x1 x2 x3 s0 s1 7 σ) else (f_X6_boundToImage_b56 x0 x1 x2 x3 s0 s1 x3 σ)
set_option maxRecDepth 100000 in
set_option maxHeartbeats 4000000 in
theorem t_X6_boundToImage_b46 {l : Launch} {γ : Gm} {ad : Nat → Nat} {K : Option Value → Hp → Prop} (hc : Cx l γ 35 4 ad shC RX6 cX6_boundToImage (some .int) K) {x0 : Nat} {x1 : Int32} {x2 : Int32} {x3 : Int32} {s0 : Nat} {s1 : Int32}  {σ : Hp} {KL : ((Int32) ⊕ ((Int32) ⊕ (Unit))) → Hp → Prop} (h : wpO (f_X6_boundToImage_b46 x0 x1 x2 x3 s0 s1 σ) KL) (kn : ∀ (v : (Int32)) (σ : Hp), KL (Sum.inl v) σ → WW l γ 35 4 ad shC 14 [(0, .ref (ad x0)), (1, .int x1), (2, .int v)] [] σ) (kx69 : ∀ (v : Int32) (σ : Hp), KL (Sum.inr (Sum.inl v)) σ → WW l γ 35 4 ad shC 69 [(3, .int v)] [] σ) (kx77 : ∀ (v : Unit) (σ : Hp), KL (Sum.inr (Sum.inr v)) σ → WW l γ 35 4 ad shC 77 [] [] σ) : WW l γ 35 4 ad shC 46 [(0, .ref (ad x0)), (1, .int x1), (2, .int x2), (3, .int x3)] [.int s1, .ref (ad s0)] σ := by
  unfold f_X6_boundToImage_b46 at h
  refine r_iload_n hc 1 rfl rfl dX6_boundToImage_46 ?_
  refine r_if_eq hc (tgt := 54) dX6_boundToImage_47 (by decide) (fun c => ?_) (fun c => ?_)
  · have h := wp_t c h
    refine r_bipush hc (v := 7) (by decide) dX6_boundToImage_54 ?_
    exact t_X6_boundToImage_b56 hc h kn kx69 kx77
  · have h := wp_f c h
    refine r_iload_n hc 3 rfl rfl dX6_boundToImage_50 ?_
    refine r_goto hc (tgt := 56) dX6_boundToImage_51 (by decide) ?_
    exact t_X6_boundToImage_b56 hc h kn kx69 kx77
noncomputable def f_X6_boundToImage_b32 (x0 : Nat) (x1 : Int32) (x2 : Int32) (s0 : Int32) (σ : Hp) : Option (((Int32) ⊕ ((Int32) ⊕ (Unit))) × Hp) := gO (getR shC 6 x0 7 σ) fun v1 => if x1 = 0 then (f_X6_boundToImage_b46 x0 x1 x2 s0 v1 s0 σ) else (f_X6_boundToImage_b46 x0 x1 x2 s0 v1 0 σ)
set_option maxRecDepth 100000 in
set_option maxHeartbeats 4000000 in
theorem t_X6_boundToImage_b32 {l : Launch} {γ : Gm} {ad : Nat → Nat} {K : Option Value → Hp → Prop} (hc : Cx l γ 35 4 ad shC RX6 cX6_boundToImage (some .int) K) {x0 : Nat} {x1 : Int32} {x2 : Int32} {s0 : Int32}  {σ : Hp} {KL : ((Int32) ⊕ ((Int32) ⊕ (Unit))) → Hp → Prop} (h : wpO (f_X6_boundToImage_b32 x0 x1 x2 s0 σ) KL) (kn : ∀ (v : (Int32)) (σ : Hp), KL (Sum.inl v) σ → WW l γ 35 4 ad shC 14 [(0, .ref (ad x0)), (1, .int x1), (2, .int v)] [] σ) (kx69 : ∀ (v : Int32) (σ : Hp), KL (Sum.inr (Sum.inl v)) σ → WW l γ 35 4 ad shC 69 [(3, .int v)] [] σ) (kx77 : ∀ (v : Unit) (σ : Hp), KL (Sum.inr (Sum.inr v)) σ → WW l γ 35 4 ad shC 77 [] [] σ) : WW l γ 35 4 ad shC 32 [(0, .ref (ad x0)), (1, .int x1), (2, .int x2)] [.int s0] σ := by
  unfold f_X6_boundToImage_b32 at h
  refine r_istore_nE hc (i := 3) (lv' := [(3, .int s0), (0, .ref (ad x0)), (1, .int x1), (2, .int x2)]) rfl rfl (by decide) rfl dX6_boundToImage_32 ?_
  refine r_aload_n hc 1 rfl rfl dX6_boundToImage_33 ?_
  obtain ⟨v1, ev1, h⟩ := wp_g h
  refine r_getR hc ev1 fl_X6_41 rfl dX6_boundToImage_34 ?_
  refine r_iload_n hc 2 rfl rfl dX6_boundToImage_37 ?_
  refine r_if_eq hc (tgt := 45) dX6_boundToImage_38 (by decide) (fun c => ?_) (fun c => ?_)
  · have h := wp_t c h
    refine r_iload_n hc 0 rfl rfl dX6_boundToImage_45 ?_
    refine r_sub [1, 2, 3, 0] (lv' := [(0, .ref (ad x0)), (1, .int x1), (2, .int x2), (3, .int s0)]) rfl ?_
    exact t_X6_boundToImage_b46 hc h kn kx69 kx77
  · have h := wp_f c h
    refine r_iconst hc (v := 0) (by decide) dX6_boundToImage_41 ?_
    refine r_goto hc (tgt := 46) dX6_boundToImage_42 (by decide) ?_
    refine r_sub [1, 2, 3, 0] (lv' := [(0, .ref (ad x0)), (1, .int x1), (2, .int x2), (3, .int s0)]) rfl ?_
    exact t_X6_boundToImage_b46 hc h kn kx69 kx77
noncomputable def f_X6_boundToImage_L14 (x0 : Nat) (x1 : Int32) (v : (Int32)) (σ : Hp) : Option (((Int32) ⊕ ((Int32) ⊕ (Unit))) × Hp) := if 7 < v then (some (Sum.inr (Sum.inr ()), σ)) else (if x1 = 0 then (f_X6_boundToImage_b32 x0 x1 v (8 - v) σ) else (f_X6_boundToImage_b32 x0 x1 v v σ))
set_option maxRecDepth 100000 in
set_option maxHeartbeats 4000000 in
theorem t_X6_boundToImage_L14 {l : Launch} {γ : Gm} {ad : Nat → Nat} {K : Option Value → Hp → Prop}  (hc : Cx l γ 35 4 ad shC RX6 cX6_boundToImage (some .int) K) {x0 : Nat} {x1 : Int32} {v : (Int32)} {σ : Hp} {KX : ((Int32) ⊕ (Unit)) → Hp → Prop} (h : wpO (wh (f_X6_boundToImage_L14 x0 x1) v σ) KX) (kx69 : ∀ (v : Int32) (σ : Hp), KX (Sum.inl v) σ → WW l γ 35 4 ad shC 69 [(3, .int v)] [] σ) (kx77 : ∀ (v : Unit) (σ : Hp), KX (Sum.inr v) σ → WW l γ 35 4 ad shC 77 [] [] σ) : WW l γ 35 4 ad shC 14 [(0, .ref (ad x0)), (1, .int x1), (2, .int v)] [] σ := by
  refine wh_W (P := fun v σ => WW l γ 35 4 ad shC 14 [(0, .ref (ad x0)), (1, .int x1), (2, .int v)] [] σ) (fun v σ h => ?_) h
  have kn : ∀ (v : (Int32)) (σ : Hp), WW l γ 35 4 ad shC 14 [(0, .ref (ad x0)), (1, .int x1), (2, .int v)] [] σ → WW l γ 35 4 ad shC 14 [(0, .ref (ad x0)), (1, .int x1), (2, .int v)] [] σ := fun _ _ h => h
  · unfold f_X6_boundToImage_L14 at h
    refine r_iload_n hc 2 rfl rfl dX6_boundToImage_14 ?_
    refine r_bipush hc (v := 7) (by decide) dX6_boundToImage_15 ?_
    refine r_icmp_gt hc (tgt := 77) dX6_boundToImage_17 (by decide) (fun c => ?_) (fun c => ?_)
    · have h := wp_t c h
      refine r_sub [] (lv' := []) rfl ?_
      have h := wp_v h
      exact kx77 () _ h
    · have h := wp_f c h
      refine r_iload_n hc 1 rfl rfl dX6_boundToImage_20 ?_
      refine r_if_eq hc (tgt := 28) dX6_boundToImage_21 (by decide) (fun c => ?_) (fun c => ?_)
      · have h := wp_t c h
        refine r_bipush hc (v := 8) (by decide) dX6_boundToImage_28 ?_
        refine r_iload_n hc 2 rfl rfl dX6_boundToImage_30 ?_
        refine r_isub hc dX6_boundToImage_31 ?_
        exact t_X6_boundToImage_b32 hc h kn kx69 kx77
      · have h := wp_f c h
        refine r_iload_n hc 2 rfl rfl dX6_boundToImage_24 ?_
        refine r_goto hc (tgt := 32) dX6_boundToImage_25 (by decide) ?_
        exact t_X6_boundToImage_b32 hc h kn kx69 kx77
noncomputable def f_X6_boundToImage (x0 : Nat) (x1 : Int32) (σ : Hp) : Option (Int32 × Hp) := gO (getR shC 6 x0 7 σ) fun v1 => gO (chk shC v1 4) fun _ => bO (f_X4_finds v1 σ) fun r2 σ3 => if r2 = 0 then (some (0, σ3)) else (bO (wh (f_X6_boundToImage_L14 x0 x1) 1 σ3) fun y5 σ6 => (Sum.elim (fun y5' => (some (y5', σ6))) (fun y7 => (some (0, σ6))) y5))
set_option maxRecDepth 100000 in
set_option maxHeartbeats 4000000 in
theorem t_X6_boundToImage {l : Launch} {γ : Gm} {ad : Nat → Nat} {K : Option Value → Hp → Prop} (hc : Cx l γ 35 4 ad shC RX6 cX6_boundToImage (some .int) K) {x0 : Nat} {x1 : Int32} {σ : Hp} (h : wpO (f_X6_boundToImage x0 x1 σ) (KI K)) : WW l γ 35 4 ad shC 0 [(0, .ref (ad x0)), (1, .int x1)] [] σ := by
  unfold f_X6_boundToImage at h
  refine r_aload_n hc 0 rfl rfl dX6_boundToImage_0 ?_
  obtain ⟨v1, ev1, h⟩ := wp_g h
  refine r_getR hc ev1 fl_X6_41 rfl dX6_boundToImage_1 ?_
  obtain ⟨_, ek4, h⟩ := wp_g h
  obtain ⟨r2, σ3, er2, h⟩ := wp_b h
  refine r_callV hc (k0 := v1) mv_X4_finds ml_X6_249 (c_X4_finds er2) (chk_of ek4) cls_4.1 rfl rfl rfl (by decide) rfl (Nat.le_of_ble_eq_true rfl) dX6_boundToImage_4 ?_
  refine r_if_ne hc (tgt := 12) dX6_boundToImage_7 (by decide) (fun c => ?_) (fun c => ?_)
  · have h := wp_f c h
    refine r_iconst hc (v := 1) (by decide) dX6_boundToImage_12 ?_
    refine r_istore_nE hc (i := 2) (lv' := [(2, .int 1), (0, .ref (ad x0)), (1, .int x1)]) rfl rfl (by decide) rfl dX6_boundToImage_13 ?_
    refine r_sub [1, 2, 0] (lv' := [(0, .ref (ad x0)), (1, .int x1), (2, .int 1)]) rfl ?_
    refine t_X6_boundToImage_L14 hc (wp_bb h) ?_ ?_
    · intro y5' σ6 h
      have h := wp_sl h
      refine r_iload_n hc 0 rfl rfl dX6_boundToImage_69 ?_
      have h := wp_v h
      exact r_iret hc h dX6_boundToImage_70
    · intro y7 σ6 h
      have h := wp_sr h
      refine r_iconst hc (v := 0) (by decide) dX6_boundToImage_77 ?_
      have h := wp_v h
      exact r_iret hc h dX6_boundToImage_78
  · have h := wp_t c h
    refine r_iconst hc (v := 0) (by decide) dX6_boundToImage_10 ?_
    have h := wp_v h
    exact r_iret hc h dX6_boundToImage_11
theorem c_X6_boundToImage {l : Launch} {x0 : Nat} {x1 : Int32} {σ σ' : Hp} {r : Int32} (h : f_X6_boundToImage x0 x1 σ = some (r, σ')) : Mt l yX6_boundToImage cX6_boundToImage 4 (some .int) 35 shC (fun ad => [.ref (ad x0), .int x1]) σ (fun ad => some (.int r)) σ' := mt_i (own := RX6) (by decide) rfl (fun _ => Nat.le_of_ble_eq_true rfl) (fun γ ad K hc hk => t_X6_boundToImage hc ⟨_, _, h, hk⟩)

-- NetMaps.copyImage([I)V
theorem dX6_copyImage_0 : decode cX6_copyImage 0 = .ok (.iconst 0, 1) := by decide +kernel
theorem dX6_copyImage_1 : decode cX6_copyImage 1 = .ok (.istore_n 2, 1) := by decide +kernel
theorem dX6_copyImage_2 : decode cX6_copyImage 2 = .ok (.iload_n 2, 1) := by decide +kernel
theorem dX6_copyImage_3 : decode cX6_copyImage 3 = .ok (.bipush 27, 2) := by decide +kernel
theorem dX6_copyImage_5 : decode cX6_copyImage 5 = .ok (.if_icmp .ge 21, 3) := by decide +kernel
theorem dX6_copyImage_8 : decode cX6_copyImage 8 = .ok (.aload_n 1, 1) := by decide +kernel
theorem dX6_copyImage_9 : decode cX6_copyImage 9 = .ok (.iload_n 2, 1) := by decide +kernel
theorem dX6_copyImage_10 : decode cX6_copyImage 10 = .ok (.aload_n 0, 1) := by decide +kernel
theorem dX6_copyImage_11 : decode cX6_copyImage 11 = .ok (.getfield 41, 3) := by decide +kernel
theorem dX6_copyImage_14 : decode cX6_copyImage 14 = .ok (.getfield 236, 3) := by decide +kernel
theorem dX6_copyImage_17 : decode cX6_copyImage 17 = .ok (.iload_n 2, 1) := by decide +kernel
theorem dX6_copyImage_18 : decode cX6_copyImage 18 = .ok (.iaload, 1) := by decide +kernel
theorem dX6_copyImage_19 : decode cX6_copyImage 19 = .ok (.iastore, 1) := by decide +kernel
theorem dX6_copyImage_20 : decode cX6_copyImage 20 = .ok (.iinc 2 1, 3) := by decide +kernel
theorem dX6_copyImage_23 : decode cX6_copyImage 23 = .ok (.goto (-21), 3) := by decide +kernel
theorem dX6_copyImage_26 : decode cX6_copyImage 26 = .ok (.return_, 1) := by decide +kernel
noncomputable def f_X6_copyImage_L2 (x0 : Nat) (x1 : Nat) (v : (Int32)) (σ : Hp) : Option (((Int32) ⊕ (Unit)) × Hp) := if 27 ≤ v then (some (Sum.inr (), σ)) else (gO (getR shC 6 x0 7 σ) fun v1 => gO (getR shC 4 v1 3 σ) fun v2 => gO (aldI shC 0 v2 v σ) fun v3 => gO (astI shC 0 x1 v v3 σ) fun σ4 => some (Sum.inl (v + 1), σ4))
set_option maxRecDepth 100000 in
set_option maxHeartbeats 4000000 in
theorem t_X6_copyImage_L2 {l : Launch} {γ : Gm} {ad : Nat → Nat} {K : Option Value → Hp → Prop}  (hc : Cx l γ 1 3 ad shC RX6 cX6_copyImage none K) {x0 : Nat} {x1 : Nat} {v : (Int32)} {σ : Hp} {KX : (Unit) → Hp → Prop} (h : wpO (wh (f_X6_copyImage_L2 x0 x1) v σ) KX) (kx26 : ∀ (v : Unit) (σ : Hp), KX v σ → WW l γ 1 3 ad shC 26 [] [] σ) : WW l γ 1 3 ad shC 2 [(0, .ref (ad x0)), (1, .ref (ad x1)), (2, .int v)] [] σ := by
  refine wh_W (P := fun v σ => WW l γ 1 3 ad shC 2 [(0, .ref (ad x0)), (1, .ref (ad x1)), (2, .int v)] [] σ) (fun v σ h => ?_) h
  have kn : ∀ (v : (Int32)) (σ : Hp), WW l γ 1 3 ad shC 2 [(0, .ref (ad x0)), (1, .ref (ad x1)), (2, .int v)] [] σ → WW l γ 1 3 ad shC 2 [(0, .ref (ad x0)), (1, .ref (ad x1)), (2, .int v)] [] σ := fun _ _ h => h
  · unfold f_X6_copyImage_L2 at h
    refine r_iload_n hc 2 rfl rfl dX6_copyImage_2 ?_
    refine r_bipush hc (v := 27) (by decide) dX6_copyImage_3 ?_
    refine r_icmp_ge hc (tgt := 26) dX6_copyImage_5 (by decide) (fun c => ?_) (fun c => ?_)
    · have h := wp_t c h
      refine r_sub [] (lv' := []) rfl ?_
      have h := wp_v h
      exact kx26 () _ h
    · have h := wp_f c h
      refine r_aload_n hc 1 rfl rfl dX6_copyImage_8 ?_
      refine r_iload_n hc 2 rfl rfl dX6_copyImage_9 ?_
      refine r_aload_n hc 0 rfl rfl dX6_copyImage_10 ?_
      obtain ⟨v1, ev1, h⟩ := wp_g h
      refine r_getR hc ev1 fl_X6_41 rfl dX6_copyImage_11 ?_
      obtain ⟨v2, ev2, h⟩ := wp_g h
      refine r_getR hc ev2 fl_X6_236 rfl dX6_copyImage_14 ?_
      refine r_iload_n hc 2 rfl rfl dX6_copyImage_17 ?_
      obtain ⟨v3, ev3, h⟩ := wp_g h
      refine r_iald hc ev3 dX6_copyImage_18 ?_
      obtain ⟨σ4, eσ4, h⟩ := wp_g h
      refine r_iast hc eσ4 dX6_copyImage_19 ?_
      refine r_iincE hc (j := 2) (w := 1) (lv' := [(2, .int (v + 1)), (0, .ref (ad x0)), (1, .ref (ad x1))]) rfl (by decide) rfl (by decide) rfl dX6_copyImage_20 ?_
      refine r_goto hc (tgt := 2) dX6_copyImage_23 (by decide) ?_
      refine r_sub [1, 2, 0] (lv' := [(0, .ref (ad x0)), (1, .ref (ad x1)), (2, .int (v + 1))]) rfl ?_
      have h := wp_v h
      exact kn (v + 1) _ h
noncomputable def f_X6_copyImage (x0 : Nat) (x1 : Nat) (σ : Hp) : Option (Unit × Hp) := bO (wh (f_X6_copyImage_L2 x0 x1) 0 σ) fun y1 σ2 => (some ((), σ2))
set_option maxRecDepth 100000 in
set_option maxHeartbeats 4000000 in
theorem t_X6_copyImage {l : Launch} {γ : Gm} {ad : Nat → Nat} {K : Option Value → Hp → Prop} (hc : Cx l γ 1 3 ad shC RX6 cX6_copyImage none K) {x0 : Nat} {x1 : Nat} {σ : Hp} (h : wpO (f_X6_copyImage x0 x1 σ) (KU K)) : WW l γ 1 3 ad shC 0 [(0, .ref (ad x0)), (1, .ref (ad x1))] [] σ := by
  unfold f_X6_copyImage at h
  refine r_iconst hc (v := 0) (by decide) dX6_copyImage_0 ?_
  refine r_istore_nE hc (i := 2) (lv' := [(2, .int 0), (0, .ref (ad x0)), (1, .ref (ad x1))]) rfl rfl (by decide) rfl dX6_copyImage_1 ?_
  refine r_sub [1, 2, 0] (lv' := [(0, .ref (ad x0)), (1, .ref (ad x1)), (2, .int 0)]) rfl ?_
  refine t_X6_copyImage_L2 hc (wp_bb h) ?_
  · intro y1 σ2 h
    have h := wp_v h
    exact r_vret hc h dX6_copyImage_26
theorem c_X6_copyImage {l : Launch} {x0 : Nat} {x1 : Nat} {σ σ' : Hp} {r : Unit} (h : f_X6_copyImage x0 x1 σ = some (r, σ')) : Mt l yX6_copyImage cX6_copyImage 3 none 1 shC (fun ad => [.ref (ad x0), .ref (ad x1)]) σ (fun ad => none) σ' := mt_i (own := RX6) (by decide) rfl (fun _ => Nat.le_of_ble_eq_true rfl) (fun γ ad K hc hk => t_X6_copyImage hc ⟨_, _, h, hk⟩)

-- NetMaps$Search.numberOf([I)I
theorem dX4_numberOf_0 : decode cX4_numberOf 0 = .ok (.iconst 0, 1) := by decide +kernel
theorem dX4_numberOf_1 : decode cX4_numberOf 1 = .ok (.istore_n 2, 1) := by decide +kernel
theorem dX4_numberOf_2 : decode cX4_numberOf 2 = .ok (.aload_n 0, 1) := by decide +kernel
theorem dX4_numberOf_3 : decode cX4_numberOf 3 = .ok (.iconst 0, 1) := by decide +kernel
theorem dX4_numberOf_4 : decode cX4_numberOf 4 = .ok (.bipush 7, 2) := by decide +kernel
theorem dX4_numberOf_6 : decode cX4_numberOf 6 = .ok (.invokevirtual 32, 3) := by decide +kernel
theorem dX4_numberOf_9 : decode cX4_numberOf 9 = .ok (.iconst 0, 1) := by decide +kernel
theorem dX4_numberOf_10 : decode cX4_numberOf 10 = .ok (.istore_n 3, 1) := by decide +kernel
theorem dX4_numberOf_11 : decode cX4_numberOf 11 = .ok (.iload_n 3, 1) := by decide +kernel
theorem dX4_numberOf_12 : decode cX4_numberOf 12 = .ok (.aload_n 0, 1) := by decide +kernel
theorem dX4_numberOf_13 : decode cX4_numberOf 13 = .ok (.getfield 12, 3) := by decide +kernel
theorem dX4_numberOf_16 : decode cX4_numberOf 16 = .ok (.getfield 40, 3) := by decide +kernel
theorem dX4_numberOf_19 : decode cX4_numberOf 19 = .ok (.if_icmp .ge 78, 3) := by decide +kernel
theorem dX4_numberOf_22 : decode cX4_numberOf 22 = .ok (.iload_n 3, 1) := by decide +kernel
theorem dX4_numberOf_23 : decode cX4_numberOf 23 = .ok (.aload_n 1, 1) := by decide +kernel
theorem dX4_numberOf_24 : decode cX4_numberOf 24 = .ok (.arraylength, 1) := by decide +kernel
theorem dX4_numberOf_25 : decode cX4_numberOf 25 = .ok (.if_icmp .ge 72, 3) := by decide +kernel
theorem dX4_numberOf_28 : decode cX4_numberOf 28 = .ok (.aload_n 0, 1) := by decide +kernel
theorem dX4_numberOf_29 : decode cX4_numberOf 29 = .ok (.iload_n 3, 1) := by decide +kernel
theorem dX4_numberOf_30 : decode cX4_numberOf 30 = .ok (.iconst 0, 1) := by decide +kernel
theorem dX4_numberOf_31 : decode cX4_numberOf 31 = .ok (.invokevirtual 86, 3) := by decide +kernel
theorem dX4_numberOf_34 : decode cX4_numberOf 34 = .ok (.istore 4, 2) := by decide +kernel
theorem dX4_numberOf_36 : decode cX4_numberOf 36 = .ok (.iconst 0, 1) := by decide +kernel
theorem dX4_numberOf_37 : decode cX4_numberOf 37 = .ok (.istore 5, 2) := by decide +kernel
theorem dX4_numberOf_39 : decode cX4_numberOf 39 = .ok (.iload 5, 2) := by decide +kernel
theorem dX4_numberOf_41 : decode cX4_numberOf 41 = .ok (.aload_n 1, 1) := by decide +kernel
theorem dX4_numberOf_42 : decode cX4_numberOf 42 = .ok (.iload_n 3, 1) := by decide +kernel
theorem dX4_numberOf_43 : decode cX4_numberOf 43 = .ok (.iaload, 1) := by decide +kernel
theorem dX4_numberOf_44 : decode cX4_numberOf 44 = .ok (.if_icmp .ge 38, 3) := by decide +kernel
theorem dX4_numberOf_47 : decode cX4_numberOf 47 = .ok (.iload 4, 2) := by decide +kernel
theorem dX4_numberOf_49 : decode cX4_numberOf 49 = .ok (.iload 5, 2) := by decide +kernel
theorem dX4_numberOf_51 : decode cX4_numberOf 51 = .ok (.invokestatic 70, 3) := by decide +kernel
theorem dX4_numberOf_54 : decode cX4_numberOf 54 = .ok (.ifCond .eq 22, 3) := by decide +kernel
theorem dX4_numberOf_57 : decode cX4_numberOf 57 = .ok (.aload_n 0, 1) := by decide +kernel
theorem dX4_numberOf_58 : decode cX4_numberOf 58 = .ok (.getfield 25, 3) := by decide +kernel
theorem dX4_numberOf_61 : decode cX4_numberOf 61 = .ok (.iload_n 3, 1) := by decide +kernel
theorem dX4_numberOf_62 : decode cX4_numberOf 62 = .ok (.iload 5, 2) := by decide +kernel
theorem dX4_numberOf_64 : decode cX4_numberOf 64 = .ok (.iastore, 1) := by decide +kernel
theorem dX4_numberOf_65 : decode cX4_numberOf 65 = .ok (.iload_n 2, 1) := by decide +kernel
theorem dX4_numberOf_66 : decode cX4_numberOf 66 = .ok (.aload_n 0, 1) := by decide +kernel
theorem dX4_numberOf_67 : decode cX4_numberOf 67 = .ok (.iload_n 3, 1) := by decide +kernel
theorem dX4_numberOf_68 : decode cX4_numberOf 68 = .ok (.iconst 1, 1) := by decide +kernel
theorem dX4_numberOf_69 : decode cX4_numberOf 69 = .ok (.iadd, 1) := by decide +kernel
theorem dX4_numberOf_70 : decode cX4_numberOf 70 = .ok (.iconst 0, 1) := by decide +kernel
theorem dX4_numberOf_71 : decode cX4_numberOf 71 = .ok (.invokestatic 93, 3) := by decide +kernel
theorem dX4_numberOf_74 : decode cX4_numberOf 74 = .ok (.iadd, 1) := by decide +kernel
theorem dX4_numberOf_75 : decode cX4_numberOf 75 = .ok (.istore_n 2, 1) := by decide +kernel
theorem dX4_numberOf_76 : decode cX4_numberOf 76 = .ok (.iinc 5 1, 3) := by decide +kernel
theorem dX4_numberOf_79 : decode cX4_numberOf 79 = .ok (.goto (-40), 3) := by decide +kernel
theorem dX4_numberOf_82 : decode cX4_numberOf 82 = .ok (.aload_n 0, 1) := by decide +kernel
theorem dX4_numberOf_83 : decode cX4_numberOf 83 = .ok (.getfield 25, 3) := by decide +kernel
theorem dX4_numberOf_86 : decode cX4_numberOf 86 = .ok (.iload_n 3, 1) := by decide +kernel
theorem dX4_numberOf_87 : decode cX4_numberOf 87 = .ok (.aload_n 1, 1) := by decide +kernel
theorem dX4_numberOf_88 : decode cX4_numberOf 88 = .ok (.iload_n 3, 1) := by decide +kernel
theorem dX4_numberOf_89 : decode cX4_numberOf 89 = .ok (.iaload, 1) := by decide +kernel
theorem dX4_numberOf_90 : decode cX4_numberOf 90 = .ok (.iastore, 1) := by decide +kernel
theorem dX4_numberOf_91 : decode cX4_numberOf 91 = .ok (.iinc 3 1, 3) := by decide +kernel
theorem dX4_numberOf_94 : decode cX4_numberOf 94 = .ok (.goto (-83), 3) := by decide +kernel
theorem dX4_numberOf_97 : decode cX4_numberOf 97 = .ok (.iload_n 2, 1) := by decide +kernel
theorem dX4_numberOf_98 : decode cX4_numberOf 98 = .ok (.ireturn, 1) := by decide +kernel
noncomputable def f_X4_numberOf_b76 (x0 : Nat) (x1 : Nat) (x2 : Int32) (x3 : Int32) (x4 : Int32) (x5 : Int32) (σ : Hp) : Option (((Int32 × Int32) ⊕ (Int32)) × Hp) := some (Sum.inl (x2, (x5 + 1)), σ)
set_option maxRecDepth 100000 in
set_option maxHeartbeats 4000000 in
theorem t_X4_numberOf_b76 {l : Launch} {γ : Gm} {ad : Nat → Nat} {K : Option Value → Hp → Prop} (hc : Cx l γ 34 6 ad shC RX4 cX4_numberOf (some .int) K) {x0 : Nat} {x1 : Nat} {x2 : Int32} {x3 : Int32} {x4 : Int32} {x5 : Int32}  {σ : Hp} {KL : ((Int32 × Int32) ⊕ (Int32)) → Hp → Prop} (h : wpO (f_X4_numberOf_b76 x0 x1 x2 x3 x4 x5 σ) KL) (kn : ∀ (v : (Int32 × Int32)) (σ : Hp), KL (Sum.inl v) σ → WW l γ 34 6 ad shC 39 [(0, .ref (ad x0)), (1, .ref (ad x1)), (2, .int v.1), (3, .int x3), (4, .int x4), (5, .int v.2)] [] σ) (kx82 : ∀ (v : Int32) (σ : Hp), KL (Sum.inr v) σ → WW l γ 34 6 ad shC 82 [(0, .ref (ad x0)), (1, .ref (ad x1)), (2, .int v), (3, .int x3)] [] σ) : WW l γ 34 6 ad shC 76 [(0, .ref (ad x0)), (1, .ref (ad x1)), (2, .int x2), (3, .int x3), (4, .int x4), (5, .int x5)] [] σ := by
  unfold f_X4_numberOf_b76 at h
  refine r_iincE hc (j := 5) (w := 1) (lv' := [(5, .int (x5 + 1)), (0, .ref (ad x0)), (1, .ref (ad x1)), (2, .int x2), (3, .int x3), (4, .int x4)]) rfl (by decide) rfl (by decide) rfl dX4_numberOf_76 ?_
  refine r_goto hc (tgt := 39) dX4_numberOf_79 (by decide) ?_
  refine r_sub [1, 2, 3, 4, 5, 0] (lv' := [(0, .ref (ad x0)), (1, .ref (ad x1)), (2, .int x2), (3, .int x3), (4, .int x4), (5, .int (x5 + 1))]) rfl ?_
  have h := wp_v h
  exact kn (x2, (x5 + 1)) _ h
noncomputable def f_X4_numberOf_L39 (x0 : Nat) (x1 : Nat) (x3 : Int32) (x4 : Int32) (v : (Int32 × Int32)) (σ : Hp) : Option (((Int32 × Int32) ⊕ (Int32)) × Hp) := gO (aldI shC 0 x1 x3 σ) fun v1 => if v1 ≤ v.2 then (some (Sum.inr v.1, σ)) else (bO (f_X6_has x4 v.2 σ) fun r2 σ3 => if r2 = 0 then (f_X4_numberOf_b76 x0 x1 v.1 x3 x4 v.2 σ3) else (gO (getR shC 4 x0 3 σ3) fun v4 => gO (astI shC 0 v4 x3 v.2 σ3) fun σ5 => bO (f_X4_manyFrom 30 x0 (x3 + 1) 0 σ5) fun r6 σ7 => f_X4_numberOf_b76 x0 x1 (v.1 + r6) x3 x4 v.2 σ7))
set_option maxRecDepth 100000 in
set_option maxHeartbeats 4000000 in
theorem t_X4_numberOf_L39 {l : Launch} {γ : Gm} {ad : Nat → Nat} {K : Option Value → Hp → Prop}  (hc : Cx l γ 34 6 ad shC RX4 cX4_numberOf (some .int) K) {x0 : Nat} {x1 : Nat} {x3 : Int32} {x4 : Int32} {v : (Int32 × Int32)} {σ : Hp} {KX : (Int32) → Hp → Prop} (h : wpO (wh (f_X4_numberOf_L39 x0 x1 x3 x4) v σ) KX) (kx82 : ∀ (v : Int32) (σ : Hp), KX v σ → WW l γ 34 6 ad shC 82 [(0, .ref (ad x0)), (1, .ref (ad x1)), (2, .int v), (3, .int x3)] [] σ) : WW l γ 34 6 ad shC 39 [(0, .ref (ad x0)), (1, .ref (ad x1)), (2, .int v.1), (3, .int x3), (4, .int x4), (5, .int v.2)] [] σ := by
  refine wh_W (P := fun v σ => WW l γ 34 6 ad shC 39 [(0, .ref (ad x0)), (1, .ref (ad x1)), (2, .int v.1), (3, .int x3), (4, .int x4), (5, .int v.2)] [] σ) (fun v σ h => ?_) h
  have kn : ∀ (v : (Int32 × Int32)) (σ : Hp), WW l γ 34 6 ad shC 39 [(0, .ref (ad x0)), (1, .ref (ad x1)), (2, .int v.1), (3, .int x3), (4, .int x4), (5, .int v.2)] [] σ → WW l γ 34 6 ad shC 39 [(0, .ref (ad x0)), (1, .ref (ad x1)), (2, .int v.1), (3, .int x3), (4, .int x4), (5, .int v.2)] [] σ := fun _ _ h => h
  · unfold f_X4_numberOf_L39 at h
    refine r_iload hc 5 rfl dX4_numberOf_39 ?_
    refine r_aload_n hc 1 rfl rfl dX4_numberOf_41 ?_
    refine r_iload_n hc 3 rfl rfl dX4_numberOf_42 ?_
    obtain ⟨v1, ev1, h⟩ := wp_g h
    refine r_iald hc ev1 dX4_numberOf_43 ?_
    refine r_icmp_ge hc (tgt := 82) dX4_numberOf_44 (by decide) (fun c => ?_) (fun c => ?_)
    · have h := wp_t c h
      refine r_sub [0, 1, 2, 3] (lv' := [(0, .ref (ad x0)), (1, .ref (ad x1)), (2, .int v.1), (3, .int x3)]) rfl ?_
      have h := wp_v h
      exact kx82 v.1 _ h
    · have h := wp_f c h
      refine r_iload hc 4 rfl dX4_numberOf_47 ?_
      refine r_iload hc 5 rfl dX4_numberOf_49 ?_
      obtain ⟨r2, σ3, er2, h⟩ := wp_b h
      refine r_callSN hc ms_X6_has nl_X4_70 (c_X6_has er2) rfl rfl (by decide) rfl (Nat.le_of_ble_eq_true rfl) dX4_numberOf_51 ?_
      refine r_if_eq hc (tgt := 76) dX4_numberOf_54 (by decide) (fun c => ?_) (fun c => ?_)
      · have h := wp_t c h
        exact t_X4_numberOf_b76 hc h kn kx82
      · have h := wp_f c h
        refine r_aload_n hc 0 rfl rfl dX4_numberOf_57 ?_
        obtain ⟨v4, ev4, h⟩ := wp_g h
        refine r_getR hc ev4 fl_X4_25 rfl dX4_numberOf_58 ?_
        refine r_iload_n hc 3 rfl rfl dX4_numberOf_61 ?_
        refine r_iload hc 5 rfl dX4_numberOf_62 ?_
        obtain ⟨σ5, eσ5, h⟩ := wp_g h
        refine r_iast hc eσ5 dX4_numberOf_64 ?_
        refine r_iload_n hc 2 rfl rfl dX4_numberOf_65 ?_
        refine r_aload_n hc 0 rfl rfl dX4_numberOf_66 ?_
        refine r_iload_n hc 3 rfl rfl dX4_numberOf_67 ?_
        refine r_iconst hc (v := 1) (by decide) dX4_numberOf_68 ?_
        refine r_iadd hc dX4_numberOf_69 ?_
        refine r_iconst hc (v := 0) (by decide) dX4_numberOf_70 ?_
        obtain ⟨r6, σ7, er6, h⟩ := wp_b h
        refine r_callS hc ms_X4_manyFrom ml_X4_93 (c_X4_manyFrom er6) rfl rfl (by decide) rfl (Nat.le_of_ble_eq_true rfl) dX4_numberOf_71 ?_
        refine r_iadd hc dX4_numberOf_74 ?_
        refine r_istore_nE hc (i := 2) (lv' := [(2, .int (v.1 + r6)), (0, .ref (ad x0)), (1, .ref (ad x1)), (3, .int x3), (4, .int x4), (5, .int v.2)]) rfl rfl (by decide) rfl dX4_numberOf_75 ?_
        refine r_sub [1, 2, 0, 3, 4, 5] (lv' := [(0, .ref (ad x0)), (1, .ref (ad x1)), (2, .int (v.1 + r6)), (3, .int x3), (4, .int x4), (5, .int v.2)]) rfl ?_
        exact t_X4_numberOf_b76 hc h kn kx82
noncomputable def f_X4_numberOf_L11 (x0 : Nat) (x1 : Nat) (v : (Int32 × Int32)) (σ : Hp) : Option (((Int32 × Int32) ⊕ (Int32)) × Hp) := gO (getR shC 4 x0 0 σ) fun v1 => gO (getI shC 1 v1 0 σ) fun v2 => if v2 ≤ v.2 then (some (Sum.inr v.1, σ)) else (gO (alen shC 0 x1) fun v3 => if v3 ≤ v.2 then (some (Sum.inr v.1, σ)) else (gO (chk shC x0 4) fun _ => bO (f_X4_choices x0 v.2 0 σ) fun r4 σ5 => bO (wh (f_X4_numberOf_L39 x0 x1 v.2 r4) (v.1, 0) σ5) fun y7 σ8 => (gO (getR shC 4 x0 3 σ8) fun v9 => gO (aldI shC 0 x1 v.2 σ8) fun v10 => gO (astI shC 0 v9 v.2 v10 σ8) fun σ11 => some (Sum.inl (y7, (v.2 + 1)), σ11))))
set_option maxRecDepth 100000 in
set_option maxHeartbeats 4000000 in
theorem t_X4_numberOf_L11 {l : Launch} {γ : Gm} {ad : Nat → Nat} {K : Option Value → Hp → Prop}  (hc : Cx l γ 34 6 ad shC RX4 cX4_numberOf (some .int) K) {x0 : Nat} {x1 : Nat} {v : (Int32 × Int32)} {σ : Hp} {KX : (Int32) → Hp → Prop} (h : wpO (wh (f_X4_numberOf_L11 x0 x1) v σ) KX) (kx97 : ∀ (v : Int32) (σ : Hp), KX v σ → WW l γ 34 6 ad shC 97 [(2, .int v)] [] σ) : WW l γ 34 6 ad shC 11 [(0, .ref (ad x0)), (1, .ref (ad x1)), (2, .int v.1), (3, .int v.2)] [] σ := by
  refine wh_W (P := fun v σ => WW l γ 34 6 ad shC 11 [(0, .ref (ad x0)), (1, .ref (ad x1)), (2, .int v.1), (3, .int v.2)] [] σ) (fun v σ h => ?_) h
  have kn : ∀ (v : (Int32 × Int32)) (σ : Hp), WW l γ 34 6 ad shC 11 [(0, .ref (ad x0)), (1, .ref (ad x1)), (2, .int v.1), (3, .int v.2)] [] σ → WW l γ 34 6 ad shC 11 [(0, .ref (ad x0)), (1, .ref (ad x1)), (2, .int v.1), (3, .int v.2)] [] σ := fun _ _ h => h
  · unfold f_X4_numberOf_L11 at h
    refine r_iload_n hc 3 rfl rfl dX4_numberOf_11 ?_
    refine r_aload_n hc 0 rfl rfl dX4_numberOf_12 ?_
    obtain ⟨v1, ev1, h⟩ := wp_g h
    refine r_getR hc ev1 fl_X4_12 rfl dX4_numberOf_13 ?_
    obtain ⟨v2, ev2, h⟩ := wp_g h
    refine r_getI hc ev2 fl_X4_40 rfl dX4_numberOf_16 ?_
    refine r_icmp_ge hc (tgt := 97) dX4_numberOf_19 (by decide) (fun c => ?_) (fun c => ?_)
    · have h := wp_t c h
      refine r_sub [2] (lv' := [(2, .int v.1)]) rfl ?_
      have h := wp_v h
      exact kx97 v.1 _ h
    · have h := wp_f c h
      refine r_iload_n hc 3 rfl rfl dX4_numberOf_22 ?_
      refine r_aload_n hc 1 rfl rfl dX4_numberOf_23 ?_
      obtain ⟨v3, ev3, h⟩ := wp_g h
      refine r_alen hc ev3 dX4_numberOf_24 ?_
      refine r_icmp_ge hc (tgt := 97) dX4_numberOf_25 (by decide) (fun c => ?_) (fun c => ?_)
      · have h := wp_t c h
        refine r_sub [2] (lv' := [(2, .int v.1)]) rfl ?_
        have h := wp_v h
        exact kx97 v.1 _ h
      · have h := wp_f c h
        refine r_aload_n hc 0 rfl rfl dX4_numberOf_28 ?_
        refine r_iload_n hc 3 rfl rfl dX4_numberOf_29 ?_
        refine r_iconst hc (v := 0) (by decide) dX4_numberOf_30 ?_
        obtain ⟨_, ek6, h⟩ := wp_g h
        obtain ⟨r4, σ5, er4, h⟩ := wp_b h
        refine r_callV hc (k0 := x0) mv_X4_choices ml_X4_86 (c_X4_choices er4) (chk_of ek6) cls_4.1 rfl rfl rfl (by decide) rfl (Nat.le_of_ble_eq_true rfl) dX4_numberOf_31 ?_
        refine r_istoreE hc (i := 4) (lv' := [(4, .int r4), (0, .ref (ad x0)), (1, .ref (ad x1)), (2, .int v.1), (3, .int v.2)]) rfl (by decide) rfl dX4_numberOf_34 ?_
        refine r_iconst hc (v := 0) (by decide) dX4_numberOf_36 ?_
        refine r_istoreE hc (i := 5) (lv' := [(5, .int 0), (4, .int r4), (0, .ref (ad x0)), (1, .ref (ad x1)), (2, .int v.1), (3, .int v.2)]) rfl (by decide) rfl dX4_numberOf_37 ?_
        refine r_sub [2, 3, 4, 5, 1, 0] (lv' := [(0, .ref (ad x0)), (1, .ref (ad x1)), (2, .int v.1), (3, .int v.2), (4, .int r4), (5, .int 0)]) rfl ?_
        refine t_X4_numberOf_L39 hc (wp_bb h) ?_
        · intro y7 σ8 h
          refine r_aload_n hc 0 rfl rfl dX4_numberOf_82 ?_
          obtain ⟨v9, ev9, h⟩ := wp_g h
          refine r_getR hc ev9 fl_X4_25 rfl dX4_numberOf_83 ?_
          refine r_iload_n hc 3 rfl rfl dX4_numberOf_86 ?_
          refine r_aload_n hc 1 rfl rfl dX4_numberOf_87 ?_
          refine r_iload_n hc 3 rfl rfl dX4_numberOf_88 ?_
          obtain ⟨v10, ev10, h⟩ := wp_g h
          refine r_iald hc ev10 dX4_numberOf_89 ?_
          obtain ⟨σ11, eσ11, h⟩ := wp_g h
          refine r_iast hc eσ11 dX4_numberOf_90 ?_
          refine r_iincE hc (j := 3) (w := 1) (lv' := [(3, .int (v.2 + 1)), (0, .ref (ad x0)), (1, .ref (ad x1)), (2, .int y7)]) rfl (by decide) rfl (by decide) rfl dX4_numberOf_91 ?_
          refine r_goto hc (tgt := 11) dX4_numberOf_94 (by decide) ?_
          refine r_sub [1, 2, 3, 0] (lv' := [(0, .ref (ad x0)), (1, .ref (ad x1)), (2, .int y7), (3, .int (v.2 + 1))]) rfl ?_
          have h := wp_v h
          exact kn (y7, (v.2 + 1)) _ h
noncomputable def f_X4_numberOf_b97 (x2 : Int32) (σ : Hp) : Option (Int32 × Hp) := some (x2, σ)
set_option maxRecDepth 100000 in
set_option maxHeartbeats 4000000 in
theorem t_X4_numberOf_b97 {l : Launch} {γ : Gm} {ad : Nat → Nat} {K : Option Value → Hp → Prop} (hc : Cx l γ 34 6 ad shC RX4 cX4_numberOf (some .int) K) {x2 : Int32} {σ : Hp} (h : wpO (f_X4_numberOf_b97 x2 σ) (KI K)) : WW l γ 34 6 ad shC 97 [(2, .int x2)] [] σ := by
  unfold f_X4_numberOf_b97 at h
  refine r_iload_n hc 0 rfl rfl dX4_numberOf_97 ?_
  have h := wp_v h
  exact r_iret hc h dX4_numberOf_98
noncomputable def f_X4_numberOf (x0 : Nat) (x1 : Nat) (σ : Hp) : Option (Int32 × Hp) := gO (chk shC x0 4) fun _ => bO (f_X4_bound x0 0 7 σ) fun _ σ2 => bO (wh (f_X4_numberOf_L11 x0 x1) (0, 0) σ2) fun y4 σ5 => (f_X4_numberOf_b97 y4 σ5)
set_option maxRecDepth 100000 in
set_option maxHeartbeats 4000000 in
theorem t_X4_numberOf {l : Launch} {γ : Gm} {ad : Nat → Nat} {K : Option Value → Hp → Prop} (hc : Cx l γ 34 6 ad shC RX4 cX4_numberOf (some .int) K) {x0 : Nat} {x1 : Nat} {σ : Hp} (h : wpO (f_X4_numberOf x0 x1 σ) (KI K)) : WW l γ 34 6 ad shC 0 [(0, .ref (ad x0)), (1, .ref (ad x1))] [] σ := by
  unfold f_X4_numberOf at h
  refine r_iconst hc (v := 0) (by decide) dX4_numberOf_0 ?_
  refine r_istore_nE hc (i := 2) (lv' := [(2, .int 0), (0, .ref (ad x0)), (1, .ref (ad x1))]) rfl rfl (by decide) rfl dX4_numberOf_1 ?_
  refine r_aload_n hc 1 rfl rfl dX4_numberOf_2 ?_
  refine r_iconst hc (v := 0) (by decide) dX4_numberOf_3 ?_
  refine r_bipush hc (v := 7) (by decide) dX4_numberOf_4 ?_
  obtain ⟨_, ek3, h⟩ := wp_g h
  obtain ⟨_, σ2, er1, h⟩ := wp_b h
  refine r_callV hc (k0 := x0) mv_X4_bound ml_X4_32 (c_X4_bound er1) (chk_of ek3) cls_4.1 rfl rfl rfl (by decide) rfl (Nat.le_of_ble_eq_true rfl) dX4_numberOf_6 ?_
  refine r_iconst hc (v := 0) (by decide) dX4_numberOf_9 ?_
  refine r_istore_nE hc (i := 3) (lv' := [(3, .int 0), (2, .int 0), (0, .ref (ad x0)), (1, .ref (ad x1))]) rfl rfl (by decide) rfl dX4_numberOf_10 ?_
  refine r_sub [2, 3, 1, 0] (lv' := [(0, .ref (ad x0)), (1, .ref (ad x1)), (2, .int 0), (3, .int 0)]) rfl ?_
  refine t_X4_numberOf_L11 hc (wp_bb h) ?_
  · intro y4 σ5 h
    exact t_X4_numberOf_b97 hc h
theorem c_X4_numberOf {l : Launch} {x0 : Nat} {x1 : Nat} {σ σ' : Hp} {r : Int32} (h : f_X4_numberOf x0 x1 σ = some (r, σ')) : Mt l yX4_numberOf cX4_numberOf 6 (some .int) 34 shC (fun ad => [.ref (ad x0), .ref (ad x1)]) σ (fun ad => some (.int r)) σ' := mt_i (own := RX4) (by decide) rfl (fun _ => Nat.le_of_ble_eq_true rfl) (fun γ ad K hc hk => t_X4_numberOf hc ⟨_, _, h, hk⟩)

-- NetMaps.image(IIZI)I
theorem dX6_image_0 : decode cX6_image 0 = .ok (.iload_n 1, 1) := by decide +kernel
theorem dX6_image_1 : decode cX6_image 1 = .ok (.invokestatic 76, 3) := by decide +kernel
theorem dX6_image_4 : decode cX6_image 4 = .ok (.ifCond .ne 21, 3) := by decide +kernel
theorem dX6_image_7 : decode cX6_image 7 = .ok (.iload_n 2, 1) := by decide +kernel
theorem dX6_image_8 : decode cX6_image 8 = .ok (.invokestatic 76, 3) := by decide +kernel
theorem dX6_image_11 : decode cX6_image 11 = .ok (.ifCond .ne 14, 3) := by decide +kernel
theorem dX6_image_14 : decode cX6_image 14 = .ok (.iload 4, 2) := by decide +kernel
theorem dX6_image_16 : decode cX6_image 16 = .ok (.ifCond .lt 9, 3) := by decide +kernel
theorem dX6_image_19 : decode cX6_image 19 = .ok (.iload 4, 2) := by decide +kernel
theorem dX6_image_21 : decode cX6_image 21 = .ok (.iconst 2, 1) := by decide +kernel
theorem dX6_image_22 : decode cX6_image 22 = .ok (.if_icmp .le 5, 3) := by decide +kernel
theorem dX6_image_25 : decode cX6_image 25 = .ok (.iconst (-1), 1) := by decide +kernel
theorem dX6_image_26 : decode cX6_image 26 = .ok (.ireturn, 1) := by decide +kernel
theorem dX6_image_27 : decode cX6_image 27 = .ok (.aload_n 0, 1) := by decide +kernel
theorem dX6_image_28 : decode cX6_image 28 = .ok (.iload_n 1, 1) := by decide +kernel
theorem dX6_image_29 : decode cX6_image 29 = .ok (.invokevirtual 91, 3) := by decide +kernel
theorem dX6_image_32 : decode cX6_image 32 = .ok (.invokevirtual 109, 3) := by decide +kernel
theorem dX6_image_35 : decode cX6_image 35 = .ok (.ifCond .ne 14, 3) := by decide +kernel
theorem dX6_image_38 : decode cX6_image 38 = .ok (.aload_n 0, 1) := by decide +kernel
theorem dX6_image_39 : decode cX6_image 39 = .ok (.iload_n 2, 1) := by decide +kernel
theorem dX6_image_40 : decode cX6_image 40 = .ok (.invokevirtual 91, 3) := by decide +kernel
theorem dX6_image_43 : decode cX6_image 43 = .ok (.invokevirtual 109, 3) := by decide +kernel
theorem dX6_image_46 : decode cX6_image 46 = .ok (.ifCond .eq 6, 3) := by decide +kernel
theorem dX6_image_49 : decode cX6_image 49 = .ok (.bipush (-2), 2) := by decide +kernel
theorem dX6_image_51 : decode cX6_image 51 = .ok (.ireturn, 1) := by decide +kernel
theorem dX6_image_52 : decode cX6_image 52 = .ok (.aload_n 0, 1) := by decide +kernel
theorem dX6_image_53 : decode cX6_image 53 = .ok (.getfield 41, 3) := by decide +kernel
theorem dX6_image_56 : decode cX6_image 56 = .ok (.aload_n 0, 1) := by decide +kernel
theorem dX6_image_57 : decode cX6_image 57 = .ok (.iload_n 1, 1) := by decide +kernel
theorem dX6_image_58 : decode cX6_image 58 = .ok (.invokevirtual 91, 3) := by decide +kernel
theorem dX6_image_61 : decode cX6_image 61 = .ok (.aload_n 0, 1) := by decide +kernel
theorem dX6_image_62 : decode cX6_image 62 = .ok (.iload_n 2, 1) := by decide +kernel
theorem dX6_image_63 : decode cX6_image 63 = .ok (.invokevirtual 91, 3) := by decide +kernel
theorem dX6_image_66 : decode cX6_image 66 = .ok (.aload_n 0, 1) := by decide +kernel
theorem dX6_image_67 : decode cX6_image 67 = .ok (.getfield 10, 3) := by decide +kernel
theorem dX6_image_70 : decode cX6_image 70 = .ok (.getfield 213, 3) := by decide +kernel
theorem dX6_image_73 : decode cX6_image 73 = .ok (.invokevirtual 220, 3) := by decide +kernel
theorem dX6_image_76 : decode cX6_image 76 = .ok (.aload_n 0, 1) := by decide +kernel
theorem dX6_image_77 : decode cX6_image 77 = .ok (.iload_n 3, 1) := by decide +kernel
theorem dX6_image_78 : decode cX6_image 78 = .ok (.invokevirtual 255, 3) := by decide +kernel
theorem dX6_image_81 : decode cX6_image 81 = .ok (.istore 5, 2) := by decide +kernel
theorem dX6_image_83 : decode cX6_image 83 = .ok (.iload 5, 2) := by decide +kernel
theorem dX6_image_85 : decode cX6_image 85 = .ok (.ifCond .ne 6, 3) := by decide +kernel
theorem dX6_image_88 : decode cX6_image 88 = .ok (.bipush (-4), 2) := by decide +kernel
theorem dX6_image_90 : decode cX6_image 90 = .ok (.ireturn, 1) := by decide +kernel
theorem dX6_image_91 : decode cX6_image 91 = .ok (.iload 4, 2) := by decide +kernel
theorem dX6_image_93 : decode cX6_image 93 = .ok (.lookupswitch 38 #[(0, 27), (1, 30)], 27) := by decide +kernel
theorem dX6_image_120 : decode cX6_image 120 = .ok (.iload 5, 2) := by decide +kernel
theorem dX6_image_122 : decode cX6_image 122 = .ok (.ireturn, 1) := by decide +kernel
theorem dX6_image_123 : decode cX6_image 123 = .ok (.aload_n 0, 1) := by decide +kernel
theorem dX6_image_124 : decode cX6_image 124 = .ok (.getfield 41, 3) := by decide +kernel
theorem dX6_image_127 : decode cX6_image 127 = .ok (.invokevirtual 230, 3) := by decide +kernel
theorem dX6_image_130 : decode cX6_image 130 = .ok (.ireturn, 1) := by decide +kernel
theorem dX6_image_131 : decode cX6_image 131 = .ok (.aload_n 0, 1) := by decide +kernel
theorem dX6_image_132 : decode cX6_image 132 = .ok (.aload_n 0, 1) := by decide +kernel
theorem dX6_image_133 : decode cX6_image 133 = .ok (.getfield 59, 3) := by decide +kernel
theorem dX6_image_136 : decode cX6_image 136 = .ok (.invokevirtual 258, 3) := by decide +kernel
theorem dX6_image_139 : decode cX6_image 139 = .ok (.aload_n 0, 1) := by decide +kernel
theorem dX6_image_140 : decode cX6_image 140 = .ok (.getfield 41, 3) := by decide +kernel
theorem dX6_image_143 : decode cX6_image 143 = .ok (.aload_n 0, 1) := by decide +kernel
theorem dX6_image_144 : decode cX6_image 144 = .ok (.getfield 59, 3) := by decide +kernel
theorem dX6_image_147 : decode cX6_image 147 = .ok (.invokevirtual 262, 3) := by decide +kernel
theorem dX6_image_150 : decode cX6_image 150 = .ok (.ireturn, 1) := by decide +kernel
noncomputable def f_X6_image_b25  (σ : Hp) : Option (Int32 × Hp) := some ((-1), σ)
set_option maxRecDepth 100000 in
set_option maxHeartbeats 4000000 in
theorem t_X6_image_b25 {l : Launch} {γ : Gm} {ad : Nat → Nat} {K : Option Value → Hp → Prop} (hc : Cx l γ 36 6 ad shC RX6 cX6_image (some .int) K)  {σ : Hp} (h : wpO (f_X6_image_b25  σ) (KI K)) : WW l γ 36 6 ad shC 25 [] [] σ := by
  unfold f_X6_image_b25 at h
  refine r_iconst hc (v := (-1)) (by decide) dX6_image_25 ?_
  have h := wp_v h
  exact r_iret hc h dX6_image_26
noncomputable def f_X6_image_b49  (σ : Hp) : Option (Int32 × Hp) := some ((-2), σ)
set_option maxRecDepth 100000 in
set_option maxHeartbeats 4000000 in
theorem t_X6_image_b49 {l : Launch} {γ : Gm} {ad : Nat → Nat} {K : Option Value → Hp → Prop} (hc : Cx l γ 36 6 ad shC RX6 cX6_image (some .int) K)  {σ : Hp} (h : wpO (f_X6_image_b49  σ) (KI K)) : WW l γ 36 6 ad shC 49 [] [] σ := by
  unfold f_X6_image_b49 at h
  refine r_bipush hc (v := (-2)) (by decide) dX6_image_49 ?_
  have h := wp_v h
  exact r_iret hc h dX6_image_51
noncomputable def f_X6_image (x0 : Nat) (x1 : Int32) (x2 : Int32) (x3 : Int32) (x4 : Int32) (σ : Hp) : Option (Int32 × Hp) := bO (f_X6_noDrawer x1 σ) fun r1 σ2 => if r1 = 0 then (bO (f_X6_noDrawer x2 σ2) fun r3 σ4 => if r3 = 0 then (if x4 < 0 then (f_X6_image_b25  σ4) else (if x4 ≤ 2 then (gO (chk shC x0 6) fun _ => bO (f_X6_in x0 x1 σ4) fun r5 σ6 => gO (chk shC r5 1) fun _ => bO (f_X1_isEmpty r5 σ6) fun r8 σ9 => if r8 = 0 then (gO (chk shC x0 6) fun _ => bO (f_X6_in x0 x2 σ9) fun r11 σ12 => gO (chk shC r11 1) fun _ => bO (f_X1_isEmpty r11 σ12) fun r14 σ15 => if r14 = 0 then (gO (getR shC 6 x0 7 σ15) fun v17 => gO (chk shC x0 6) fun _ => bO (f_X6_in x0 x1 σ15) fun r18 σ19 => gO (chk shC x0 6) fun _ => bO (f_X6_in x0 x2 σ19) fun r21 σ22 => gO (getR shC 6 x0 0 σ22) fun v24 => gO (getR shC 5 v24 1 σ22) fun v25 => gO (chk shC v17 4) fun _ => bO (f_X4_byLists v17 r18 r21 v25 σ22) fun _ σ27 => gO (chk shC x0 6) fun _ => bO (f_X6_boundToImage x0 x3 σ27) fun r29 σ30 => if r29 = 0 then (some ((-4), σ30)) else (if x4 = 0 then (some (r29, σ30)) else (if x4 = 1 then (gO (getR shC 6 x0 7 σ30) fun v32 => gO (chk shC v32 4) fun _ => bO (f_X4_howMany v32 σ30) fun r33 σ34 => some (r33, σ34)) else (gO (getR shC 6 x0 10 σ30) fun v36 => gO (chk shC x0 6) fun _ => bO (f_X6_copyImage x0 v36 σ30) fun _ σ38 => gO (getR shC 6 x0 7 σ38) fun v40 => gO (getR shC 6 x0 10 σ38) fun v41 => gO (chk shC v40 4) fun _ => bO (f_X4_numberOf v40 v41 σ38) fun r42 σ43 => some (r42, σ43))))) else (f_X6_image_b49  σ15)) else (f_X6_image_b49  σ9)) else (f_X6_image_b25  σ4))) else (f_X6_image_b25  σ4)) else (f_X6_image_b25  σ2)
set_option maxRecDepth 100000 in
set_option maxHeartbeats 4000000 in
theorem t_X6_image {l : Launch} {γ : Gm} {ad : Nat → Nat} {K : Option Value → Hp → Prop} (hc : Cx l γ 36 6 ad shC RX6 cX6_image (some .int) K) {x0 : Nat} {x1 : Int32} {x2 : Int32} {x3 : Int32} {x4 : Int32} {σ : Hp} (h : wpO (f_X6_image x0 x1 x2 x3 x4 σ) (KI K)) : WW l γ 36 6 ad shC 0 [(0, .ref (ad x0)), (1, .int x1), (2, .int x2), (3, .int x3), (4, .int x4)] [] σ := by
  unfold f_X6_image at h
  refine r_iload_n hc 1 rfl rfl dX6_image_0 ?_
  obtain ⟨r1, σ2, er1, h⟩ := wp_b h
  refine r_callS hc ms_X6_noDrawer ml_X6_76 (c_X6_noDrawer er1) rfl rfl (by decide) rfl (Nat.le_of_ble_eq_true rfl) dX6_image_1 ?_
  refine r_if_ne hc (tgt := 25) dX6_image_4 (by decide) (fun c => ?_) (fun c => ?_)
  · have h := wp_f c h
    refine r_sub [] (lv' := []) rfl ?_
    exact t_X6_image_b25 hc h
  · have h := wp_t c h
    refine r_iload_n hc 2 rfl rfl dX6_image_7 ?_
    obtain ⟨r3, σ4, er3, h⟩ := wp_b h
    refine r_callS hc ms_X6_noDrawer ml_X6_76 (c_X6_noDrawer er3) rfl rfl (by decide) rfl (Nat.le_of_ble_eq_true rfl) dX6_image_8 ?_
    refine r_if_ne hc (tgt := 25) dX6_image_11 (by decide) (fun c => ?_) (fun c => ?_)
    · have h := wp_f c h
      refine r_sub [] (lv' := []) rfl ?_
      exact t_X6_image_b25 hc h
    · have h := wp_t c h
      refine r_iload hc 4 rfl dX6_image_14 ?_
      refine r_if_lt hc (tgt := 25) dX6_image_16 (by decide) (fun c => ?_) (fun c => ?_)
      · have h := wp_t c h
        refine r_sub [] (lv' := []) rfl ?_
        exact t_X6_image_b25 hc h
      · have h := wp_f c h
        refine r_iload hc 4 rfl dX6_image_19 ?_
        refine r_iconst hc (v := 2) (by decide) dX6_image_21 ?_
        refine r_icmp_le hc (tgt := 27) dX6_image_22 (by decide) (fun c => ?_) (fun c => ?_)
        · have h := wp_t c h
          refine r_aload_n hc 0 rfl rfl dX6_image_27 ?_
          refine r_iload_n hc 1 rfl rfl dX6_image_28 ?_
          obtain ⟨_, ek7, h⟩ := wp_g h
          obtain ⟨r5, σ6, er5, h⟩ := wp_b h
          refine r_callV hc (k0 := x0) mv_X6_in ml_X6_91 (c_X6_in er5) (chk_of ek7) cls_6.1 rfl rfl rfl (by decide) rfl (Nat.le_of_ble_eq_true rfl) dX6_image_29 ?_
          obtain ⟨_, ek10, h⟩ := wp_g h
          obtain ⟨r8, σ9, er8, h⟩ := wp_b h
          refine r_callV hc (k0 := r5) mv_X1_isEmpty ml_X6_109 (c_X1_isEmpty er8) (chk_of ek10) cls_1.1 rfl rfl rfl (by decide) rfl (Nat.le_of_ble_eq_true rfl) dX6_image_32 ?_
          refine r_if_ne hc (tgt := 49) dX6_image_35 (by decide) (fun c => ?_) (fun c => ?_)
          · have h := wp_f c h
            refine r_sub [] (lv' := []) rfl ?_
            exact t_X6_image_b49 hc h
          · have h := wp_t c h
            refine r_aload_n hc 0 rfl rfl dX6_image_38 ?_
            refine r_iload_n hc 2 rfl rfl dX6_image_39 ?_
            obtain ⟨_, ek13, h⟩ := wp_g h
            obtain ⟨r11, σ12, er11, h⟩ := wp_b h
            refine r_callV hc (k0 := x0) mv_X6_in ml_X6_91 (c_X6_in er11) (chk_of ek13) cls_6.1 rfl rfl rfl (by decide) rfl (Nat.le_of_ble_eq_true rfl) dX6_image_40 ?_
            obtain ⟨_, ek16, h⟩ := wp_g h
            obtain ⟨r14, σ15, er14, h⟩ := wp_b h
            refine r_callV hc (k0 := r11) mv_X1_isEmpty ml_X6_109 (c_X1_isEmpty er14) (chk_of ek16) cls_1.1 rfl rfl rfl (by decide) rfl (Nat.le_of_ble_eq_true rfl) dX6_image_43 ?_
            refine r_if_eq hc (tgt := 52) dX6_image_46 (by decide) (fun c => ?_) (fun c => ?_)
            · have h := wp_t c h
              refine r_aload_n hc 0 rfl rfl dX6_image_52 ?_
              obtain ⟨v17, ev17, h⟩ := wp_g h
              refine r_getR hc ev17 fl_X6_41 rfl dX6_image_53 ?_
              refine r_aload_n hc 0 rfl rfl dX6_image_56 ?_
              refine r_iload_n hc 1 rfl rfl dX6_image_57 ?_
              obtain ⟨_, ek20, h⟩ := wp_g h
              obtain ⟨r18, σ19, er18, h⟩ := wp_b h
              refine r_callV hc (k0 := x0) mv_X6_in ml_X6_91 (c_X6_in er18) (chk_of ek20) cls_6.1 rfl rfl rfl (by decide) rfl (Nat.le_of_ble_eq_true rfl) dX6_image_58 ?_
              refine r_aload_n hc 0 rfl rfl dX6_image_61 ?_
              refine r_iload_n hc 2 rfl rfl dX6_image_62 ?_
              obtain ⟨_, ek23, h⟩ := wp_g h
              obtain ⟨r21, σ22, er21, h⟩ := wp_b h
              refine r_callV hc (k0 := x0) mv_X6_in ml_X6_91 (c_X6_in er21) (chk_of ek23) cls_6.1 rfl rfl rfl (by decide) rfl (Nat.le_of_ble_eq_true rfl) dX6_image_63 ?_
              refine r_aload_n hc 0 rfl rfl dX6_image_66 ?_
              obtain ⟨v24, ev24, h⟩ := wp_g h
              refine r_getR hc ev24 fl_X6_10 rfl dX6_image_67 ?_
              obtain ⟨v25, ev25, h⟩ := wp_g h
              refine r_getR hc ev25 fl_X6_213 rfl dX6_image_70 ?_
              obtain ⟨_, ek28, h⟩ := wp_g h
              obtain ⟨_, σ27, er26, h⟩ := wp_b h
              refine r_callV hc (k0 := v17) mv_X4_byLists ml_X6_220 (c_X4_byLists er26) (chk_of ek28) cls_4.1 rfl rfl rfl (by decide) rfl (Nat.le_of_ble_eq_true rfl) dX6_image_73 ?_
              refine r_aload_n hc 0 rfl rfl dX6_image_76 ?_
              refine r_iload_n hc 3 rfl rfl dX6_image_77 ?_
              obtain ⟨_, ek31, h⟩ := wp_g h
              obtain ⟨r29, σ30, er29, h⟩ := wp_b h
              refine r_callV hc (k0 := x0) mv_X6_boundToImage ml_X6_255 (c_X6_boundToImage er29) (chk_of ek31) cls_6.1 rfl rfl rfl (by decide) rfl (Nat.le_of_ble_eq_true rfl) dX6_image_78 ?_
              refine r_istoreE hc (i := 5) (lv' := [(5, .int r29), (0, .ref (ad x0)), (1, .int x1), (2, .int x2), (3, .int x3), (4, .int x4)]) rfl (by decide) rfl dX6_image_81 ?_
              refine r_iload hc 0 rfl dX6_image_83 ?_
              refine r_if_ne hc (tgt := 91) dX6_image_85 (by decide) (fun c => ?_) (fun c => ?_)
              · have h := wp_f c h
                refine r_iload hc 5 rfl dX6_image_91 ?_
                by_cases c0 : x4 = 0
                · have h := wp_t c0 h
                  refine r_lookup hc (off := 27) (tgt := 120) dX6_image_93 (by decide) (by rw [c0]; decide) (by decide) ?_
                  refine r_iload hc 0 rfl dX6_image_120 ?_
                  have h := wp_v h
                  exact r_iret hc h dX6_image_122
                have h := wp_f c0 h
                by_cases c1 : x4 = 1
                · have h := wp_t c1 h
                  refine r_lookup hc (off := 30) (tgt := 123) dX6_image_93 (by decide) (by rw [c1]; decide) (by decide) ?_
                  refine r_aload_n hc 1 rfl rfl dX6_image_123 ?_
                  obtain ⟨v32, ev32, h⟩ := wp_g h
                  refine r_getR hc ev32 fl_X6_41 rfl dX6_image_124 ?_
                  obtain ⟨_, ek35, h⟩ := wp_g h
                  obtain ⟨r33, σ34, er33, h⟩ := wp_b h
                  refine r_callV hc (k0 := v32) mv_X4_howMany ml_X6_230 (c_X4_howMany er33) (chk_of ek35) cls_4.1 rfl rfl rfl (by decide) rfl (Nat.le_of_ble_eq_true rfl) dX6_image_127 ?_
                  have h := wp_v h
                  exact r_iret hc h dX6_image_130
                have h := wp_f c1 h
                refine r_lookup hc (off := 38) (tgt := 131) dX6_image_93 (by decide) (lk_out2 c0 c1) (by decide) ?_
                refine r_aload_n hc 1 rfl rfl dX6_image_131 ?_
                refine r_aload_n hc 1 rfl rfl dX6_image_132 ?_
                obtain ⟨v36, ev36, h⟩ := wp_g h
                refine r_getR hc ev36 fl_X6_59 rfl dX6_image_133 ?_
                obtain ⟨_, ek39, h⟩ := wp_g h
                obtain ⟨_, σ38, er37, h⟩ := wp_b h
                refine r_callV hc (k0 := x0) mv_X6_copyImage ml_X6_258 (c_X6_copyImage er37) (chk_of ek39) cls_6.1 rfl rfl rfl (by decide) rfl (Nat.le_of_ble_eq_true rfl) dX6_image_136 ?_
                refine r_aload_n hc 1 rfl rfl dX6_image_139 ?_
                obtain ⟨v40, ev40, h⟩ := wp_g h
                refine r_getR hc ev40 fl_X6_41 rfl dX6_image_140 ?_
                refine r_aload_n hc 1 rfl rfl dX6_image_143 ?_
                obtain ⟨v41, ev41, h⟩ := wp_g h
                refine r_getR hc ev41 fl_X6_59 rfl dX6_image_144 ?_
                obtain ⟨_, ek44, h⟩ := wp_g h
                obtain ⟨r42, σ43, er42, h⟩ := wp_b h
                refine r_callV hc (k0 := v40) mv_X4_numberOf ml_X6_262 (c_X4_numberOf er42) (chk_of ek44) cls_4.1 rfl rfl rfl (by decide) rfl (Nat.le_of_ble_eq_true rfl) dX6_image_147 ?_
                have h := wp_v h
                exact r_iret hc h dX6_image_150
              · have h := wp_t c h
                refine r_bipush hc (v := (-4)) (by decide) dX6_image_88 ?_
                have h := wp_v h
                exact r_iret hc h dX6_image_90
            · have h := wp_f c h
              refine r_sub [] (lv' := []) rfl ?_
              exact t_X6_image_b49 hc h
        · have h := wp_f c h
          refine r_sub [] (lv' := []) rfl ?_
          exact t_X6_image_b25 hc h
theorem c_X6_image {l : Launch} {x0 : Nat} {x1 : Int32} {x2 : Int32} {x3 : Int32} {x4 : Int32} {σ σ' : Hp} {r : Int32} (h : f_X6_image x0 x1 x2 x3 x4 σ = some (r, σ')) : Mt l yX6_image cX6_image 6 (some .int) 36 shC (fun ad => [.ref (ad x0), .int x1, .int x2, .int x3, .int x4]) σ (fun ad => some (.int r)) σ' := mt_i (own := RX6) (by decide) rfl (fun _ => Nat.le_of_ble_eq_true rfl) (fun γ ad K hc hk => t_X6_image hc ⟨_, _, h, hk⟩)

-- NetMaps.weigh(II)I
theorem dX6_weigh_0 : decode cX6_weigh 0 = .ok (.iload_n 1, 1) := by decide +kernel
theorem dX6_weigh_1 : decode cX6_weigh 1 = .ok (.ifCond .lt 19, 3) := by decide +kernel
theorem dX6_weigh_4 : decode cX6_weigh 4 = .ok (.iload_n 1, 1) := by decide +kernel
theorem dX6_weigh_5 : decode cX6_weigh 5 = .ok (.bipush 7, 2) := by decide +kernel
theorem dX6_weigh_7 : decode cX6_weigh 7 = .ok (.if_icmp .ge 13, 3) := by decide +kernel
theorem dX6_weigh_10 : decode cX6_weigh 10 = .ok (.iload_n 2, 1) := by decide +kernel
theorem dX6_weigh_11 : decode cX6_weigh 11 = .ok (.ifCond .lt 9, 3) := by decide +kernel
theorem dX6_weigh_14 : decode cX6_weigh 14 = .ok (.iload_n 2, 1) := by decide +kernel
theorem dX6_weigh_15 : decode cX6_weigh 15 = .ok (.bipush 9, 2) := by decide +kernel
theorem dX6_weigh_17 : decode cX6_weigh 17 = .ok (.if_icmp .le 5, 3) := by decide +kernel
theorem dX6_weigh_20 : decode cX6_weigh 20 = .ok (.iconst (-1), 1) := by decide +kernel
theorem dX6_weigh_21 : decode cX6_weigh 21 = .ok (.ireturn, 1) := by decide +kernel
theorem dX6_weigh_22 : decode cX6_weigh 22 = .ok (.aload_n 0, 1) := by decide +kernel
theorem dX6_weigh_23 : decode cX6_weigh 23 = .ok (.getfield 10, 3) := by decide +kernel
theorem dX6_weigh_26 : decode cX6_weigh 26 = .ok (.getfield 266, 3) := by decide +kernel
theorem dX6_weigh_29 : decode cX6_weigh 29 = .ok (.iload_n 1, 1) := by decide +kernel
theorem dX6_weigh_30 : decode cX6_weigh 30 = .ok (.iaload, 1) := by decide +kernel
theorem dX6_weigh_31 : decode cX6_weigh 31 = .ok (.istore_n 3, 1) := by decide +kernel
theorem dX6_weigh_32 : decode cX6_weigh 32 = .ok (.aload_n 0, 1) := by decide +kernel
theorem dX6_weigh_33 : decode cX6_weigh 33 = .ok (.getfield 10, 3) := by decide +kernel
theorem dX6_weigh_36 : decode cX6_weigh 36 = .ok (.getfield 266, 3) := by decide +kernel
theorem dX6_weigh_39 : decode cX6_weigh 39 = .ok (.iload_n 1, 1) := by decide +kernel
theorem dX6_weigh_40 : decode cX6_weigh 40 = .ok (.iload_n 2, 1) := by decide +kernel
theorem dX6_weigh_41 : decode cX6_weigh 41 = .ok (.iastore, 1) := by decide +kernel
theorem dX6_weigh_42 : decode cX6_weigh 42 = .ok (.iload_n 3, 1) := by decide +kernel
theorem dX6_weigh_43 : decode cX6_weigh 43 = .ok (.ireturn, 1) := by decide +kernel
noncomputable def f_X6_weigh_b20  (σ : Hp) : Option (Int32 × Hp) := some ((-1), σ)
set_option maxRecDepth 100000 in
set_option maxHeartbeats 4000000 in
theorem t_X6_weigh_b20 {l : Launch} {γ : Gm} {ad : Nat → Nat} {K : Option Value → Hp → Prop} (hc : Cx l γ 1 4 ad shC RX6 cX6_weigh (some .int) K)  {σ : Hp} (h : wpO (f_X6_weigh_b20  σ) (KI K)) : WW l γ 1 4 ad shC 20 [] [] σ := by
  unfold f_X6_weigh_b20 at h
  refine r_iconst hc (v := (-1)) (by decide) dX6_weigh_20 ?_
  have h := wp_v h
  exact r_iret hc h dX6_weigh_21
noncomputable def f_X6_weigh (x0 : Nat) (x1 : Int32) (x2 : Int32) (σ : Hp) : Option (Int32 × Hp) := if x1 < 0 then (f_X6_weigh_b20  σ) else (if 7 ≤ x1 then (f_X6_weigh_b20  σ) else (if x2 < 0 then (f_X6_weigh_b20  σ) else (if x2 ≤ 9 then (gO (getR shC 6 x0 0 σ) fun v1 => gO (getR shC 5 v1 2 σ) fun v2 => gO (aldI shC 0 v2 x1 σ) fun v3 => gO (getR shC 6 x0 0 σ) fun v4 => gO (getR shC 5 v4 2 σ) fun v5 => gO (astI shC 0 v5 x1 x2 σ) fun σ6 => some (v3, σ6)) else (f_X6_weigh_b20  σ))))
set_option maxRecDepth 100000 in
set_option maxHeartbeats 4000000 in
theorem t_X6_weigh {l : Launch} {γ : Gm} {ad : Nat → Nat} {K : Option Value → Hp → Prop} (hc : Cx l γ 1 4 ad shC RX6 cX6_weigh (some .int) K) {x0 : Nat} {x1 : Int32} {x2 : Int32} {σ : Hp} (h : wpO (f_X6_weigh x0 x1 x2 σ) (KI K)) : WW l γ 1 4 ad shC 0 [(0, .ref (ad x0)), (1, .int x1), (2, .int x2)] [] σ := by
  unfold f_X6_weigh at h
  refine r_iload_n hc 1 rfl rfl dX6_weigh_0 ?_
  refine r_if_lt hc (tgt := 20) dX6_weigh_1 (by decide) (fun c => ?_) (fun c => ?_)
  · have h := wp_t c h
    refine r_sub [] (lv' := []) rfl ?_
    exact t_X6_weigh_b20 hc h
  · have h := wp_f c h
    refine r_iload_n hc 1 rfl rfl dX6_weigh_4 ?_
    refine r_bipush hc (v := 7) (by decide) dX6_weigh_5 ?_
    refine r_icmp_ge hc (tgt := 20) dX6_weigh_7 (by decide) (fun c => ?_) (fun c => ?_)
    · have h := wp_t c h
      refine r_sub [] (lv' := []) rfl ?_
      exact t_X6_weigh_b20 hc h
    · have h := wp_f c h
      refine r_iload_n hc 2 rfl rfl dX6_weigh_10 ?_
      refine r_if_lt hc (tgt := 20) dX6_weigh_11 (by decide) (fun c => ?_) (fun c => ?_)
      · have h := wp_t c h
        refine r_sub [] (lv' := []) rfl ?_
        exact t_X6_weigh_b20 hc h
      · have h := wp_f c h
        refine r_iload_n hc 2 rfl rfl dX6_weigh_14 ?_
        refine r_bipush hc (v := 9) (by decide) dX6_weigh_15 ?_
        refine r_icmp_le hc (tgt := 22) dX6_weigh_17 (by decide) (fun c => ?_) (fun c => ?_)
        · have h := wp_t c h
          refine r_aload_n hc 0 rfl rfl dX6_weigh_22 ?_
          obtain ⟨v1, ev1, h⟩ := wp_g h
          refine r_getR hc ev1 fl_X6_10 rfl dX6_weigh_23 ?_
          obtain ⟨v2, ev2, h⟩ := wp_g h
          refine r_getR hc ev2 fl_X6_266 rfl dX6_weigh_26 ?_
          refine r_iload_n hc 1 rfl rfl dX6_weigh_29 ?_
          obtain ⟨v3, ev3, h⟩ := wp_g h
          refine r_iald hc ev3 dX6_weigh_30 ?_
          refine r_istore_nE hc (i := 3) (lv' := [(3, .int v3), (0, .ref (ad x0)), (1, .int x1), (2, .int x2)]) rfl rfl (by decide) rfl dX6_weigh_31 ?_
          refine r_aload_n hc 1 rfl rfl dX6_weigh_32 ?_
          obtain ⟨v4, ev4, h⟩ := wp_g h
          refine r_getR hc ev4 fl_X6_10 rfl dX6_weigh_33 ?_
          obtain ⟨v5, ev5, h⟩ := wp_g h
          refine r_getR hc ev5 fl_X6_266 rfl dX6_weigh_36 ?_
          refine r_iload_n hc 2 rfl rfl dX6_weigh_39 ?_
          refine r_iload_n hc 3 rfl rfl dX6_weigh_40 ?_
          obtain ⟨σ6, eσ6, h⟩ := wp_g h
          refine r_iast hc eσ6 dX6_weigh_41 ?_
          refine r_iload_n hc 0 rfl rfl dX6_weigh_42 ?_
          have h := wp_v h
          exact r_iret hc h dX6_weigh_43
        · have h := wp_f c h
          refine r_sub [] (lv' := []) rfl ?_
          exact t_X6_weigh_b20 hc h
theorem c_X6_weigh {l : Launch} {x0 : Nat} {x1 : Int32} {x2 : Int32} {σ σ' : Hp} {r : Int32} (h : f_X6_weigh x0 x1 x2 σ = some (r, σ')) : Mt l yX6_weigh cX6_weigh 4 (some .int) 1 shC (fun ad => [.ref (ad x0), .int x1, .int x2]) σ (fun ad => some (.int r)) σ' := mt_i (own := RX6) (by decide) rfl (fun _ => Nat.le_of_ble_eq_true rfl) (fun γ ad K hc hk => t_X6_weigh hc ⟨_, _, h, hk⟩)

-- NetMaps$Scale.compare(III)V
theorem dX3_compare_0 : decode cX3_compare 0 = .ok (.aload_n 0, 1) := by decide +kernel
theorem dX3_compare_1 : decode cX3_compare 1 = .ok (.getfield 21, 3) := by decide +kernel
theorem dX3_compare_4 : decode cX3_compare 4 = .ok (.iload_n 2, 1) := by decide +kernel
theorem dX3_compare_5 : decode cX3_compare 5 = .ok (.iaload, 1) := by decide +kernel
theorem dX3_compare_6 : decode cX3_compare 6 = .ok (.aload_n 0, 1) := by decide +kernel
theorem dX3_compare_7 : decode cX3_compare 7 = .ok (.getfield 9, 3) := by decide +kernel
theorem dX3_compare_10 : decode cX3_compare 10 = .ok (.iload_n 1, 1) := by decide +kernel
theorem dX3_compare_11 : decode cX3_compare 11 = .ok (.iconst 1, 1) := by decide +kernel
theorem dX3_compare_12 : decode cX3_compare 12 = .ok (.iadd, 1) := by decide +kernel
theorem dX3_compare_13 : decode cX3_compare 13 = .ok (.iaload, 1) := by decide +kernel
theorem dX3_compare_14 : decode cX3_compare 14 = .ok (.iadd, 1) := by decide +kernel
theorem dX3_compare_15 : decode cX3_compare 15 = .ok (.istore 4, 2) := by decide +kernel
theorem dX3_compare_17 : decode cX3_compare 17 = .ok (.aload_n 0, 1) := by decide +kernel
theorem dX3_compare_18 : decode cX3_compare 18 = .ok (.getfield 24, 3) := by decide +kernel
theorem dX3_compare_21 : decode cX3_compare 21 = .ok (.ifCond .eq 22, 3) := by decide +kernel
theorem dX3_compare_24 : decode cX3_compare 24 = .ok (.iload 4, 2) := by decide +kernel
theorem dX3_compare_26 : decode cX3_compare 26 = .ok (.aload_n 0, 1) := by decide +kernel
theorem dX3_compare_27 : decode cX3_compare 27 = .ok (.getfield 9, 3) := by decide +kernel
theorem dX3_compare_30 : decode cX3_compare 30 = .ok (.iload_n 1, 1) := by decide +kernel
theorem dX3_compare_31 : decode cX3_compare 31 = .ok (.iaload, 1) := by decide +kernel
theorem dX3_compare_32 : decode cX3_compare 32 = .ok (.if_icmp .ge 7, 3) := by decide +kernel
theorem dX3_compare_35 : decode cX3_compare 35 = .ok (.iconst 1, 1) := by decide +kernel
theorem dX3_compare_36 : decode cX3_compare 36 = .ok (.goto 23, 3) := by decide +kernel
theorem dX3_compare_39 : decode cX3_compare 39 = .ok (.iconst 0, 1) := by decide +kernel
theorem dX3_compare_40 : decode cX3_compare 40 = .ok (.goto 19, 3) := by decide +kernel
theorem dX3_compare_43 : decode cX3_compare 43 = .ok (.iload 4, 2) := by decide +kernel
theorem dX3_compare_45 : decode cX3_compare 45 = .ok (.aload_n 0, 1) := by decide +kernel
theorem dX3_compare_46 : decode cX3_compare 46 = .ok (.getfield 9, 3) := by decide +kernel
theorem dX3_compare_49 : decode cX3_compare 49 = .ok (.iload_n 1, 1) := by decide +kernel
theorem dX3_compare_50 : decode cX3_compare 50 = .ok (.iaload, 1) := by decide +kernel
theorem dX3_compare_51 : decode cX3_compare 51 = .ok (.if_icmp .le 7, 3) := by decide +kernel
theorem dX3_compare_54 : decode cX3_compare 54 = .ok (.iconst 1, 1) := by decide +kernel
theorem dX3_compare_55 : decode cX3_compare 55 = .ok (.goto 4, 3) := by decide +kernel
theorem dX3_compare_58 : decode cX3_compare 58 = .ok (.iconst 0, 1) := by decide +kernel
theorem dX3_compare_59 : decode cX3_compare 59 = .ok (.istore 5, 2) := by decide +kernel
theorem dX3_compare_61 : decode cX3_compare 61 = .ok (.aload_n 0, 1) := by decide +kernel
theorem dX3_compare_62 : decode cX3_compare 62 = .ok (.getfield 15, 3) := by decide +kernel
theorem dX3_compare_65 : decode cX3_compare 65 = .ok (.iload_n 1, 1) := by decide +kernel
theorem dX3_compare_66 : decode cX3_compare 66 = .ok (.iaload, 1) := by decide +kernel
theorem dX3_compare_67 : decode cX3_compare 67 = .ok (.ifCond .eq 8, 3) := by decide +kernel
theorem dX3_compare_70 : decode cX3_compare 70 = .ok (.iload 5, 2) := by decide +kernel
theorem dX3_compare_72 : decode cX3_compare 72 = .ok (.ifCond .eq 44, 3) := by decide +kernel
theorem dX3_compare_75 : decode cX3_compare 75 = .ok (.aload_n 0, 1) := by decide +kernel
theorem dX3_compare_76 : decode cX3_compare 76 = .ok (.getfield 9, 3) := by decide +kernel
theorem dX3_compare_79 : decode cX3_compare 79 = .ok (.iload_n 1, 1) := by decide +kernel
theorem dX3_compare_80 : decode cX3_compare 80 = .ok (.iload 4, 2) := by decide +kernel
theorem dX3_compare_82 : decode cX3_compare 82 = .ok (.iastore, 1) := by decide +kernel
theorem dX3_compare_83 : decode cX3_compare 83 = .ok (.aload_n 0, 1) := by decide +kernel
theorem dX3_compare_84 : decode cX3_compare 84 = .ok (.getfield 15, 3) := by decide +kernel
theorem dX3_compare_87 : decode cX3_compare 87 = .ok (.iload_n 1, 1) := by decide +kernel
theorem dX3_compare_88 : decode cX3_compare 88 = .ok (.aload_n 0, 1) := by decide +kernel
theorem dX3_compare_89 : decode cX3_compare 89 = .ok (.getfield 15, 3) := by decide +kernel
theorem dX3_compare_92 : decode cX3_compare 92 = .ok (.iload_n 1, 1) := by decide +kernel
theorem dX3_compare_93 : decode cX3_compare 93 = .ok (.iconst 1, 1) := by decide +kernel
theorem dX3_compare_94 : decode cX3_compare 94 = .ok (.iadd, 1) := by decide +kernel
theorem dX3_compare_95 : decode cX3_compare 95 = .ok (.iaload, 1) := by decide +kernel
theorem dX3_compare_96 : decode cX3_compare 96 = .ok (.iastore, 1) := by decide +kernel
theorem dX3_compare_97 : decode cX3_compare 97 = .ok (.aload_n 0, 1) := by decide +kernel
theorem dX3_compare_98 : decode cX3_compare 98 = .ok (.getfield 18, 3) := by decide +kernel
theorem dX3_compare_101 : decode cX3_compare 101 = .ok (.iload_n 1, 1) := by decide +kernel
theorem dX3_compare_102 : decode cX3_compare 102 = .ok (.iload_n 3, 1) := by decide +kernel
theorem dX3_compare_103 : decode cX3_compare 103 = .ok (.aload_n 0, 1) := by decide +kernel
theorem dX3_compare_104 : decode cX3_compare 104 = .ok (.getfield 18, 3) := by decide +kernel
theorem dX3_compare_107 : decode cX3_compare 107 = .ok (.iload_n 1, 1) := by decide +kernel
theorem dX3_compare_108 : decode cX3_compare 108 = .ok (.iconst 1, 1) := by decide +kernel
theorem dX3_compare_109 : decode cX3_compare 109 = .ok (.iadd, 1) := by decide +kernel
theorem dX3_compare_110 : decode cX3_compare 110 = .ok (.iaload, 1) := by decide +kernel
theorem dX3_compare_111 : decode cX3_compare 111 = .ok (.iadd, 1) := by decide +kernel
theorem dX3_compare_112 : decode cX3_compare 112 = .ok (.iastore, 1) := by decide +kernel
theorem dX3_compare_113 : decode cX3_compare 113 = .ok (.goto 31, 3) := by decide +kernel
theorem dX3_compare_116 : decode cX3_compare 116 = .ok (.iload 4, 2) := by decide +kernel
theorem dX3_compare_118 : decode cX3_compare 118 = .ok (.aload_n 0, 1) := by decide +kernel
theorem dX3_compare_119 : decode cX3_compare 119 = .ok (.getfield 9, 3) := by decide +kernel
theorem dX3_compare_122 : decode cX3_compare 122 = .ok (.iload_n 1, 1) := by decide +kernel
theorem dX3_compare_123 : decode cX3_compare 123 = .ok (.iaload, 1) := by decide +kernel
theorem dX3_compare_124 : decode cX3_compare 124 = .ok (.if_icmp .ne 20, 3) := by decide +kernel
theorem dX3_compare_127 : decode cX3_compare 127 = .ok (.aload_n 0, 1) := by decide +kernel
theorem dX3_compare_128 : decode cX3_compare 128 = .ok (.getfield 15, 3) := by decide +kernel
theorem dX3_compare_131 : decode cX3_compare 131 = .ok (.iload_n 1, 1) := by decide +kernel
theorem dX3_compare_132 : decode cX3_compare 132 = .ok (.dup2, 1) := by decide +kernel
theorem dX3_compare_133 : decode cX3_compare 133 = .ok (.iaload, 1) := by decide +kernel
theorem dX3_compare_134 : decode cX3_compare 134 = .ok (.aload_n 0, 1) := by decide +kernel
theorem dX3_compare_135 : decode cX3_compare 135 = .ok (.getfield 15, 3) := by decide +kernel
theorem dX3_compare_138 : decode cX3_compare 138 = .ok (.iload_n 1, 1) := by decide +kernel
theorem dX3_compare_139 : decode cX3_compare 139 = .ok (.iconst 1, 1) := by decide +kernel
theorem dX3_compare_140 : decode cX3_compare 140 = .ok (.iadd, 1) := by decide +kernel
theorem dX3_compare_141 : decode cX3_compare 141 = .ok (.iaload, 1) := by decide +kernel
theorem dX3_compare_142 : decode cX3_compare 142 = .ok (.iadd, 1) := by decide +kernel
theorem dX3_compare_143 : decode cX3_compare 143 = .ok (.iastore, 1) := by decide +kernel
theorem dX3_compare_144 : decode cX3_compare 144 = .ok (.return_, 1) := by decide +kernel
noncomputable def f_X3_compare_b144  (σ : Hp) : Option (Unit × Hp) := some ((), σ)
set_option maxRecDepth 100000 in
set_option maxHeartbeats 4000000 in
theorem t_X3_compare_b144 {l : Launch} {γ : Gm} {ad : Nat → Nat} {K : Option Value → Hp → Prop} (hc : Cx l γ 1 6 ad shC RX3 cX3_compare none K)  {σ : Hp} (h : wpO (f_X3_compare_b144  σ) (KU K)) : WW l γ 1 6 ad shC 144 [] [] σ := by
  unfold f_X3_compare_b144 at h
  have h := wp_v h
  exact r_vret hc h dX3_compare_144
noncomputable def f_X3_compare_b75 (x0 : Nat) (x1 : Int32) (x3 : Int32) (x4 : Int32) (σ : Hp) : Option (Unit × Hp) := gO (getR shC 3 x0 0 σ) fun v1 => gO (astI shC 0 v1 x1 x4 σ) fun σ2 => gO (getR shC 3 x0 1 σ2) fun v3 => gO (getR shC 3 x0 1 σ2) fun v4 => gO (aldI shC 0 v4 (x1 + 1) σ2) fun v5 => gO (astI shC 0 v3 x1 v5 σ2) fun σ6 => gO (getR shC 3 x0 2 σ6) fun v7 => gO (getR shC 3 x0 2 σ6) fun v8 => gO (aldI shC 0 v8 (x1 + 1) σ6) fun v9 => gO (astI shC 0 v7 x1 (x3 + v9) σ6) fun σ10 => f_X3_compare_b144  σ10
set_option maxRecDepth 100000 in
set_option maxHeartbeats 4000000 in
theorem t_X3_compare_b75 {l : Launch} {γ : Gm} {ad : Nat → Nat} {K : Option Value → Hp → Prop} (hc : Cx l γ 1 6 ad shC RX3 cX3_compare none K) {x0 : Nat} {x1 : Int32} {x3 : Int32} {x4 : Int32} {σ : Hp} (h : wpO (f_X3_compare_b75 x0 x1 x3 x4 σ) (KU K)) : WW l γ 1 6 ad shC 75 [(0, .ref (ad x0)), (1, .int x1), (3, .int x3), (4, .int x4)] [] σ := by
  unfold f_X3_compare_b75 at h
  refine r_aload_n hc 0 rfl rfl dX3_compare_75 ?_
  obtain ⟨v1, ev1, h⟩ := wp_g h
  refine r_getR hc ev1 fl_X3_9 rfl dX3_compare_76 ?_
  refine r_iload_n hc 1 rfl rfl dX3_compare_79 ?_
  refine r_iload hc 3 rfl dX3_compare_80 ?_
  obtain ⟨σ2, eσ2, h⟩ := wp_g h
  refine r_iast hc eσ2 dX3_compare_82 ?_
  refine r_aload_n hc 0 rfl rfl dX3_compare_83 ?_
  obtain ⟨v3, ev3, h⟩ := wp_g h
  refine r_getR hc ev3 fl_X3_15 rfl dX3_compare_84 ?_
  refine r_iload_n hc 1 rfl rfl dX3_compare_87 ?_
  refine r_aload_n hc 0 rfl rfl dX3_compare_88 ?_
  obtain ⟨v4, ev4, h⟩ := wp_g h
  refine r_getR hc ev4 fl_X3_15 rfl dX3_compare_89 ?_
  refine r_iload_n hc 1 rfl rfl dX3_compare_92 ?_
  refine r_iconst hc (v := 1) (by decide) dX3_compare_93 ?_
  refine r_iadd hc dX3_compare_94 ?_
  obtain ⟨v5, ev5, h⟩ := wp_g h
  refine r_iald hc ev5 dX3_compare_95 ?_
  obtain ⟨σ6, eσ6, h⟩ := wp_g h
  refine r_iast hc eσ6 dX3_compare_96 ?_
  refine r_aload_n hc 0 rfl rfl dX3_compare_97 ?_
  obtain ⟨v7, ev7, h⟩ := wp_g h
  refine r_getR hc ev7 fl_X3_18 rfl dX3_compare_98 ?_
  refine r_iload_n hc 1 rfl rfl dX3_compare_101 ?_
  refine r_iload_n hc 2 rfl rfl dX3_compare_102 ?_
  refine r_aload_n hc 0 rfl rfl dX3_compare_103 ?_
  obtain ⟨v8, ev8, h⟩ := wp_g h
  refine r_getR hc ev8 fl_X3_18 rfl dX3_compare_104 ?_
  refine r_iload_n hc 1 rfl rfl dX3_compare_107 ?_
  refine r_iconst hc (v := 1) (by decide) dX3_compare_108 ?_
  refine r_iadd hc dX3_compare_109 ?_
  obtain ⟨v9, ev9, h⟩ := wp_g h
  refine r_iald hc ev9 dX3_compare_110 ?_
  refine r_iadd hc dX3_compare_111 ?_
  obtain ⟨σ10, eσ10, h⟩ := wp_g h
  refine r_iast hc eσ10 dX3_compare_112 ?_
  refine r_goto hc (tgt := 144) dX3_compare_113 (by decide) ?_
  refine r_sub [] (lv' := []) rfl ?_
  exact t_X3_compare_b144 hc h
noncomputable def f_X3_compare_b59 (x0 : Nat) (x1 : Int32) (x3 : Int32) (x4 : Int32) (s0 : Int32) (σ : Hp) : Option (Unit × Hp) := gO (getR shC 3 x0 1 σ) fun v1 => gO (aldI shC 0 v1 x1 σ) fun v2 => if v2 = 0 then (f_X3_compare_b75 x0 x1 x3 x4 σ) else (if s0 = 0 then (gO (getR shC 3 x0 0 σ) fun v3 => gO (aldI shC 0 v3 x1 σ) fun v4 => if x4 = v4 then (gO (getR shC 3 x0 1 σ) fun v5 => gO (aldI shC 0 v5 x1 σ) fun v6 => gO (getR shC 3 x0 1 σ) fun v7 => gO (aldI shC 0 v7 (x1 + 1) σ) fun v8 => gO (astI shC 0 v5 x1 (v6 + v8) σ) fun σ9 => f_X3_compare_b144  σ9) else (f_X3_compare_b144  σ)) else (f_X3_compare_b75 x0 x1 x3 x4 σ))
set_option maxRecDepth 100000 in
set_option maxHeartbeats 4000000 in
theorem t_X3_compare_b59 {l : Launch} {γ : Gm} {ad : Nat → Nat} {K : Option Value → Hp → Prop} (hc : Cx l γ 1 6 ad shC RX3 cX3_compare none K) {x0 : Nat} {x1 : Int32} {x3 : Int32} {x4 : Int32} {s0 : Int32} {σ : Hp} (h : wpO (f_X3_compare_b59 x0 x1 x3 x4 s0 σ) (KU K)) : WW l γ 1 6 ad shC 59 [(0, .ref (ad x0)), (1, .int x1), (3, .int x3), (4, .int x4)] [.int s0] σ := by
  unfold f_X3_compare_b59 at h
  refine r_istoreE hc (i := 5) (lv' := [(5, .int s0), (0, .ref (ad x0)), (1, .int x1), (3, .int x3), (4, .int x4)]) rfl (by decide) rfl dX3_compare_59 ?_
  refine r_aload_n hc 1 rfl rfl dX3_compare_61 ?_
  obtain ⟨v1, ev1, h⟩ := wp_g h
  refine r_getR hc ev1 fl_X3_15 rfl dX3_compare_62 ?_
  refine r_iload_n hc 2 rfl rfl dX3_compare_65 ?_
  obtain ⟨v2, ev2, h⟩ := wp_g h
  refine r_iald hc ev2 dX3_compare_66 ?_
  refine r_if_eq hc (tgt := 75) dX3_compare_67 (by decide) (fun c => ?_) (fun c => ?_)
  · have h := wp_t c h
    refine r_sub [1, 2, 3, 4] (lv' := [(0, .ref (ad x0)), (1, .int x1), (3, .int x3), (4, .int x4)]) rfl ?_
    exact t_X3_compare_b75 hc h
  · have h := wp_f c h
    refine r_iload hc 0 rfl dX3_compare_70 ?_
    refine r_if_eq hc (tgt := 116) dX3_compare_72 (by decide) (fun c => ?_) (fun c => ?_)
    · have h := wp_t c h
      refine r_iload hc 4 rfl dX3_compare_116 ?_
      refine r_aload_n hc 1 rfl rfl dX3_compare_118 ?_
      obtain ⟨v3, ev3, h⟩ := wp_g h
      refine r_getR hc ev3 fl_X3_9 rfl dX3_compare_119 ?_
      refine r_iload_n hc 2 rfl rfl dX3_compare_122 ?_
      obtain ⟨v4, ev4, h⟩ := wp_g h
      refine r_iald hc ev4 dX3_compare_123 ?_
      refine r_icmp_ne hc (tgt := 144) dX3_compare_124 (by decide) (fun c => ?_) (fun c => ?_)
      · have h := wp_f c h
        refine r_sub [] (lv' := []) rfl ?_
        exact t_X3_compare_b144 hc h
      · have h := wp_t c h
        refine r_aload_n hc 1 rfl rfl dX3_compare_127 ?_
        obtain ⟨v5, ev5, h⟩ := wp_g h
        refine r_getR hc ev5 fl_X3_15 rfl dX3_compare_128 ?_
        refine r_iload_n hc 2 rfl rfl dX3_compare_131 ?_
        refine r_dup2 hc rfl rfl dX3_compare_132 ?_
        obtain ⟨v6, ev6, h⟩ := wp_g h
        refine r_iald hc ev6 dX3_compare_133 ?_
        refine r_aload_n hc 1 rfl rfl dX3_compare_134 ?_
        obtain ⟨v7, ev7, h⟩ := wp_g h
        refine r_getR hc ev7 fl_X3_15 rfl dX3_compare_135 ?_
        refine r_iload_n hc 2 rfl rfl dX3_compare_138 ?_
        refine r_iconst hc (v := 1) (by decide) dX3_compare_139 ?_
        refine r_iadd hc dX3_compare_140 ?_
        obtain ⟨v8, ev8, h⟩ := wp_g h
        refine r_iald hc ev8 dX3_compare_141 ?_
        refine r_iadd hc dX3_compare_142 ?_
        obtain ⟨σ9, eσ9, h⟩ := wp_g h
        refine r_iast hc eσ9 dX3_compare_143 ?_
        refine r_sub [] (lv' := []) rfl ?_
        exact t_X3_compare_b144 hc h
    · have h := wp_f c h
      refine r_sub [1, 2, 3, 4] (lv' := [(0, .ref (ad x0)), (1, .int x1), (3, .int x3), (4, .int x4)]) rfl ?_
      exact t_X3_compare_b75 hc h
noncomputable def f_X3_compare (x0 : Nat) (x1 : Int32) (x2 : Int32) (x3 : Int32) (σ : Hp) : Option (Unit × Hp) := gO (getR shC 3 x0 3 σ) fun v1 => gO (aldI shC 0 v1 x2 σ) fun v2 => gO (getR shC 3 x0 0 σ) fun v3 => gO (aldI shC 0 v3 (x1 + 1) σ) fun v4 => gO (getI shC 3 x0 4 σ) fun v5 => if v5 = 0 then (gO (getR shC 3 x0 0 σ) fun v6 => gO (aldI shC 0 v6 x1 σ) fun v7 => if (v2 + v4) ≤ v7 then (f_X3_compare_b59 x0 x1 x3 (v2 + v4) 0 σ) else (f_X3_compare_b59 x0 x1 x3 (v2 + v4) 1 σ)) else (gO (getR shC 3 x0 0 σ) fun v8 => gO (aldI shC 0 v8 x1 σ) fun v9 => if v9 ≤ (v2 + v4) then (f_X3_compare_b59 x0 x1 x3 (v2 + v4) 0 σ) else (f_X3_compare_b59 x0 x1 x3 (v2 + v4) 1 σ))
set_option maxRecDepth 100000 in
set_option maxHeartbeats 4000000 in
theorem t_X3_compare {l : Launch} {γ : Gm} {ad : Nat → Nat} {K : Option Value → Hp → Prop} (hc : Cx l γ 1 6 ad shC RX3 cX3_compare none K) {x0 : Nat} {x1 : Int32} {x2 : Int32} {x3 : Int32} {σ : Hp} (h : wpO (f_X3_compare x0 x1 x2 x3 σ) (KU K)) : WW l γ 1 6 ad shC 0 [(0, .ref (ad x0)), (1, .int x1), (2, .int x2), (3, .int x3)] [] σ := by
  unfold f_X3_compare at h
  refine r_aload_n hc 0 rfl rfl dX3_compare_0 ?_
  obtain ⟨v1, ev1, h⟩ := wp_g h
  refine r_getR hc ev1 fl_X3_21 rfl dX3_compare_1 ?_
  refine r_iload_n hc 2 rfl rfl dX3_compare_4 ?_
  obtain ⟨v2, ev2, h⟩ := wp_g h
  refine r_iald hc ev2 dX3_compare_5 ?_
  refine r_aload_n hc 0 rfl rfl dX3_compare_6 ?_
  obtain ⟨v3, ev3, h⟩ := wp_g h
  refine r_getR hc ev3 fl_X3_9 rfl dX3_compare_7 ?_
  refine r_iload_n hc 1 rfl rfl dX3_compare_10 ?_
  refine r_iconst hc (v := 1) (by decide) dX3_compare_11 ?_
  refine r_iadd hc dX3_compare_12 ?_
  obtain ⟨v4, ev4, h⟩ := wp_g h
  refine r_iald hc ev4 dX3_compare_13 ?_
  refine r_iadd hc dX3_compare_14 ?_
  refine r_istoreE hc (i := 4) (lv' := [(4, .int (v2 + v4)), (0, .ref (ad x0)), (1, .int x1), (2, .int x2), (3, .int x3)]) rfl (by decide) rfl dX3_compare_15 ?_
  refine r_aload_n hc 1 rfl rfl dX3_compare_17 ?_
  obtain ⟨v5, ev5, h⟩ := wp_g h
  refine r_getI hc ev5 fl_X3_24 rfl dX3_compare_18 ?_
  refine r_if_eq hc (tgt := 43) dX3_compare_21 (by decide) (fun c => ?_) (fun c => ?_)
  · have h := wp_t c h
    refine r_iload hc 0 rfl dX3_compare_43 ?_
    refine r_aload_n hc 1 rfl rfl dX3_compare_45 ?_
    obtain ⟨v6, ev6, h⟩ := wp_g h
    refine r_getR hc ev6 fl_X3_9 rfl dX3_compare_46 ?_
    refine r_iload_n hc 2 rfl rfl dX3_compare_49 ?_
    obtain ⟨v7, ev7, h⟩ := wp_g h
    refine r_iald hc ev7 dX3_compare_50 ?_
    refine r_icmp_le hc (tgt := 58) dX3_compare_51 (by decide) (fun c => ?_) (fun c => ?_)
    · have h := wp_t c h
      refine r_iconst hc (v := 0) (by decide) dX3_compare_58 ?_
      refine r_sub [1, 2, 4, 0] (lv' := [(0, .ref (ad x0)), (1, .int x1), (3, .int x3), (4, .int (v2 + v4))]) rfl ?_
      exact t_X3_compare_b59 hc h
    · have h := wp_f c h
      refine r_iconst hc (v := 1) (by decide) dX3_compare_54 ?_
      refine r_goto hc (tgt := 59) dX3_compare_55 (by decide) ?_
      refine r_sub [1, 2, 4, 0] (lv' := [(0, .ref (ad x0)), (1, .int x1), (3, .int x3), (4, .int (v2 + v4))]) rfl ?_
      exact t_X3_compare_b59 hc h
  · have h := wp_f c h
    refine r_iload hc 0 rfl dX3_compare_24 ?_
    refine r_aload_n hc 1 rfl rfl dX3_compare_26 ?_
    obtain ⟨v8, ev8, h⟩ := wp_g h
    refine r_getR hc ev8 fl_X3_9 rfl dX3_compare_27 ?_
    refine r_iload_n hc 2 rfl rfl dX3_compare_30 ?_
    obtain ⟨v9, ev9, h⟩ := wp_g h
    refine r_iald hc ev9 dX3_compare_31 ?_
    refine r_icmp_ge hc (tgt := 39) dX3_compare_32 (by decide) (fun c => ?_) (fun c => ?_)
    · have h := wp_t c h
      refine r_iconst hc (v := 0) (by decide) dX3_compare_39 ?_
      refine r_goto hc (tgt := 59) dX3_compare_40 (by decide) ?_
      refine r_sub [1, 2, 4, 0] (lv' := [(0, .ref (ad x0)), (1, .int x1), (3, .int x3), (4, .int (v2 + v4))]) rfl ?_
      exact t_X3_compare_b59 hc h
    · have h := wp_f c h
      refine r_iconst hc (v := 1) (by decide) dX3_compare_35 ?_
      refine r_goto hc (tgt := 59) dX3_compare_36 (by decide) ?_
      refine r_sub [1, 2, 4, 0] (lv' := [(0, .ref (ad x0)), (1, .int x1), (3, .int x3), (4, .int (v2 + v4))]) rfl ?_
      exact t_X3_compare_b59 hc h
theorem c_X3_compare {l : Launch} {x0 : Nat} {x1 : Int32} {x2 : Int32} {x3 : Int32} {σ σ' : Hp} {r : Unit} (h : f_X3_compare x0 x1 x2 x3 σ = some (r, σ')) : Mt l yX3_compare cX3_compare 6 none 1 shC (fun ad => [.ref (ad x0), .int x1, .int x2, .int x3]) σ (fun ad => none) σ' := mt_i (own := RX3) (by decide) rfl (fun _ => Nat.le_of_ble_eq_true rfl) (fun γ ad K hc hk => t_X3_compare hc ⟨_, _, h, hk⟩)

-- NetMaps$Scale.settle(I)V
theorem dX3_settle_0 : decode cX3_settle 0 = .ok (.aload_n 0, 1) := by decide +kernel
theorem dX3_settle_1 : decode cX3_settle 1 = .ok (.getfield 9, 3) := by decide +kernel
theorem dX3_settle_4 : decode cX3_settle 4 = .ok (.iload_n 1, 1) := by decide +kernel
theorem dX3_settle_5 : decode cX3_settle 5 = .ok (.iconst 0, 1) := by decide +kernel
theorem dX3_settle_6 : decode cX3_settle 6 = .ok (.iastore, 1) := by decide +kernel
theorem dX3_settle_7 : decode cX3_settle 7 = .ok (.aload_n 0, 1) := by decide +kernel
theorem dX3_settle_8 : decode cX3_settle 8 = .ok (.getfield 15, 3) := by decide +kernel
theorem dX3_settle_11 : decode cX3_settle 11 = .ok (.iload_n 1, 1) := by decide +kernel
theorem dX3_settle_12 : decode cX3_settle 12 = .ok (.iconst 1, 1) := by decide +kernel
theorem dX3_settle_13 : decode cX3_settle 13 = .ok (.iastore, 1) := by decide +kernel
theorem dX3_settle_14 : decode cX3_settle 14 = .ok (.aload_n 0, 1) := by decide +kernel
theorem dX3_settle_15 : decode cX3_settle 15 = .ok (.getfield 18, 3) := by decide +kernel
theorem dX3_settle_18 : decode cX3_settle 18 = .ok (.iload_n 1, 1) := by decide +kernel
theorem dX3_settle_19 : decode cX3_settle 19 = .ok (.iconst 0, 1) := by decide +kernel
theorem dX3_settle_20 : decode cX3_settle 20 = .ok (.iastore, 1) := by decide +kernel
theorem dX3_settle_21 : decode cX3_settle 21 = .ok (.return_, 1) := by decide +kernel
noncomputable def f_X3_settle (x0 : Nat) (x1 : Int32) (σ : Hp) : Option (Unit × Hp) := gO (getR shC 3 x0 0 σ) fun v1 => gO (astI shC 0 v1 x1 0 σ) fun σ2 => gO (getR shC 3 x0 1 σ2) fun v3 => gO (astI shC 0 v3 x1 1 σ2) fun σ4 => gO (getR shC 3 x0 2 σ4) fun v5 => gO (astI shC 0 v5 x1 0 σ4) fun σ6 => some ((), σ6)
set_option maxRecDepth 100000 in
set_option maxHeartbeats 4000000 in
theorem t_X3_settle {l : Launch} {γ : Gm} {ad : Nat → Nat} {K : Option Value → Hp → Prop} (hc : Cx l γ 1 2 ad shC RX3 cX3_settle none K) {x0 : Nat} {x1 : Int32} {σ : Hp} (h : wpO (f_X3_settle x0 x1 σ) (KU K)) : WW l γ 1 2 ad shC 0 [(0, .ref (ad x0)), (1, .int x1)] [] σ := by
  unfold f_X3_settle at h
  refine r_aload_n hc 0 rfl rfl dX3_settle_0 ?_
  obtain ⟨v1, ev1, h⟩ := wp_g h
  refine r_getR hc ev1 fl_X3_9 rfl dX3_settle_1 ?_
  refine r_iload_n hc 1 rfl rfl dX3_settle_4 ?_
  refine r_iconst hc (v := 0) (by decide) dX3_settle_5 ?_
  obtain ⟨σ2, eσ2, h⟩ := wp_g h
  refine r_iast hc eσ2 dX3_settle_6 ?_
  refine r_aload_n hc 0 rfl rfl dX3_settle_7 ?_
  obtain ⟨v3, ev3, h⟩ := wp_g h
  refine r_getR hc ev3 fl_X3_15 rfl dX3_settle_8 ?_
  refine r_iload_n hc 1 rfl rfl dX3_settle_11 ?_
  refine r_iconst hc (v := 1) (by decide) dX3_settle_12 ?_
  obtain ⟨σ4, eσ4, h⟩ := wp_g h
  refine r_iast hc eσ4 dX3_settle_13 ?_
  refine r_aload_n hc 0 rfl rfl dX3_settle_14 ?_
  obtain ⟨v5, ev5, h⟩ := wp_g h
  refine r_getR hc ev5 fl_X3_18 rfl dX3_settle_15 ?_
  refine r_iload_n hc 1 rfl rfl dX3_settle_18 ?_
  refine r_iconst hc (v := 0) (by decide) dX3_settle_19 ?_
  obtain ⟨σ6, eσ6, h⟩ := wp_g h
  refine r_iast hc eσ6 dX3_settle_20 ?_
  have h := wp_v h
  exact r_vret hc h dX3_settle_21
theorem c_X3_settle {l : Launch} {x0 : Nat} {x1 : Int32} {σ σ' : Hp} {r : Unit} (h : f_X3_settle x0 x1 σ = some (r, σ')) : Mt l yX3_settle cX3_settle 2 none 1 shC (fun ad => [.ref (ad x0), .int x1]) σ (fun ad => none) σ' := mt_i (own := RX3) (by decide) rfl (fun _ => Nat.le_of_ble_eq_true rfl) (fun γ ad K hc hk => t_X3_settle hc ⟨_, _, h, hk⟩)

-- NetMaps$Scale.weighFrom(LNetMaps$Scale;LNetMaps$Search;I)I
theorem dX3_weighFrom_0 : decode cX3_weighFrom 0 = .ok (.iload_n 2, 1) := by decide +kernel
theorem dX3_weighFrom_1 : decode cX3_weighFrom 1 = .ok (.aload_n 1, 1) := by decide +kernel
theorem dX3_weighFrom_2 : decode cX3_weighFrom 2 = .ok (.getfield 32, 3) := by decide +kernel
theorem dX3_weighFrom_5 : decode cX3_weighFrom 5 = .ok (.getfield 38, 3) := by decide +kernel
theorem dX3_weighFrom_8 : decode cX3_weighFrom 8 = .ok (.if_icmp .ge 9, 3) := by decide +kernel
theorem dX3_weighFrom_11 : decode cX3_weighFrom 11 = .ok (.iload_n 2, 1) := by decide +kernel
theorem dX3_weighFrom_12 : decode cX3_weighFrom 12 = .ok (.bipush 7, 2) := by decide +kernel
theorem dX3_weighFrom_14 : decode cX3_weighFrom 14 = .ok (.if_icmp .lt 10, 3) := by decide +kernel
theorem dX3_weighFrom_17 : decode cX3_weighFrom 17 = .ok (.aload_n 0, 1) := by decide +kernel
theorem dX3_weighFrom_18 : decode cX3_weighFrom 18 = .ok (.iload_n 2, 1) := by decide +kernel
theorem dX3_weighFrom_19 : decode cX3_weighFrom 19 = .ok (.invokevirtual 44, 3) := by decide +kernel
theorem dX3_weighFrom_22 : decode cX3_weighFrom 22 = .ok (.iconst 1, 1) := by decide +kernel
theorem dX3_weighFrom_23 : decode cX3_weighFrom 23 = .ok (.ireturn, 1) := by decide +kernel
theorem dX3_weighFrom_24 : decode cX3_weighFrom 24 = .ok (.aload_n 0, 1) := by decide +kernel
theorem dX3_weighFrom_25 : decode cX3_weighFrom 25 = .ok (.getfield 15, 3) := by decide +kernel
theorem dX3_weighFrom_28 : decode cX3_weighFrom 28 = .ok (.iload_n 2, 1) := by decide +kernel
theorem dX3_weighFrom_29 : decode cX3_weighFrom 29 = .ok (.iconst 0, 1) := by decide +kernel
theorem dX3_weighFrom_30 : decode cX3_weighFrom 30 = .ok (.iastore, 1) := by decide +kernel
theorem dX3_weighFrom_31 : decode cX3_weighFrom 31 = .ok (.aload_n 1, 1) := by decide +kernel
theorem dX3_weighFrom_32 : decode cX3_weighFrom 32 = .ok (.iload_n 2, 1) := by decide +kernel
theorem dX3_weighFrom_33 : decode cX3_weighFrom 33 = .ok (.iconst 0, 1) := by decide +kernel
theorem dX3_weighFrom_34 : decode cX3_weighFrom 34 = .ok (.invokevirtual 48, 3) := by decide +kernel
theorem dX3_weighFrom_37 : decode cX3_weighFrom 37 = .ok (.istore_n 3, 1) := by decide +kernel
theorem dX3_weighFrom_38 : decode cX3_weighFrom 38 = .ok (.aload_n 1, 1) := by decide +kernel
theorem dX3_weighFrom_39 : decode cX3_weighFrom 39 = .ok (.iload_n 2, 1) := by decide +kernel
theorem dX3_weighFrom_40 : decode cX3_weighFrom 40 = .ok (.invokevirtual 52, 3) := by decide +kernel
theorem dX3_weighFrom_43 : decode cX3_weighFrom 43 = .ok (.istore 4, 2) := by decide +kernel
theorem dX3_weighFrom_45 : decode cX3_weighFrom 45 = .ok (.iconst 0, 1) := by decide +kernel
theorem dX3_weighFrom_46 : decode cX3_weighFrom 46 = .ok (.istore 5, 2) := by decide +kernel
theorem dX3_weighFrom_48 : decode cX3_weighFrom 48 = .ok (.iconst 0, 1) := by decide +kernel
theorem dX3_weighFrom_49 : decode cX3_weighFrom 49 = .ok (.istore 6, 2) := by decide +kernel
theorem dX3_weighFrom_51 : decode cX3_weighFrom 51 = .ok (.iconst 0, 1) := by decide +kernel
theorem dX3_weighFrom_52 : decode cX3_weighFrom 52 = .ok (.istore 7, 2) := by decide +kernel
theorem dX3_weighFrom_54 : decode cX3_weighFrom 54 = .ok (.iconst 0, 1) := by decide +kernel
theorem dX3_weighFrom_55 : decode cX3_weighFrom 55 = .ok (.istore 8, 2) := by decide +kernel
theorem dX3_weighFrom_57 : decode cX3_weighFrom 57 = .ok (.iload 8, 2) := by decide +kernel
theorem dX3_weighFrom_59 : decode cX3_weighFrom 59 = .ok (.aload_n 1, 1) := by decide +kernel
theorem dX3_weighFrom_60 : decode cX3_weighFrom 60 = .ok (.getfield 56, 3) := by decide +kernel
theorem dX3_weighFrom_63 : decode cX3_weighFrom 63 = .ok (.getfield 38, 3) := by decide +kernel
theorem dX3_weighFrom_66 : decode cX3_weighFrom 66 = .ok (.if_icmp .ge 77, 3) := by decide +kernel
theorem dX3_weighFrom_69 : decode cX3_weighFrom 69 = .ok (.iload 8, 2) := by decide +kernel
theorem dX3_weighFrom_71 : decode cX3_weighFrom 71 = .ok (.bipush 7, 2) := by decide +kernel
theorem dX3_weighFrom_73 : decode cX3_weighFrom 73 = .ok (.if_icmp .ge 70, 3) := by decide +kernel
theorem dX3_weighFrom_76 : decode cX3_weighFrom 76 = .ok (.iload_n 3, 1) := by decide +kernel
theorem dX3_weighFrom_77 : decode cX3_weighFrom 77 = .ok (.iload 8, 2) := by decide +kernel
theorem dX3_weighFrom_79 : decode cX3_weighFrom 79 = .ok (.invokestatic 59, 3) := by decide +kernel
theorem dX3_weighFrom_82 : decode cX3_weighFrom 82 = .ok (.ifCond .eq 55, 3) := by decide +kernel
theorem dX3_weighFrom_85 : decode cX3_weighFrom 85 = .ok (.aload_n 1, 1) := by decide +kernel
theorem dX3_weighFrom_86 : decode cX3_weighFrom 86 = .ok (.getfield 63, 3) := by decide +kernel
theorem dX3_weighFrom_89 : decode cX3_weighFrom 89 = .ok (.iload_n 2, 1) := by decide +kernel
theorem dX3_weighFrom_90 : decode cX3_weighFrom 90 = .ok (.iload 8, 2) := by decide +kernel
theorem dX3_weighFrom_92 : decode cX3_weighFrom 92 = .ok (.iastore, 1) := by decide +kernel
theorem dX3_weighFrom_93 : decode cX3_weighFrom 93 = .ok (.iload 4, 2) := by decide +kernel
theorem dX3_weighFrom_95 : decode cX3_weighFrom 95 = .ok (.ifCond .eq 8, 3) := by decide +kernel
theorem dX3_weighFrom_98 : decode cX3_weighFrom 98 = .ok (.iload 5, 2) := by decide +kernel
theorem dX3_weighFrom_100 : decode cX3_weighFrom 100 = .ok (.ifCond .ne 16, 3) := by decide +kernel
theorem dX3_weighFrom_103 : decode cX3_weighFrom 103 = .ok (.aload_n 0, 1) := by decide +kernel
theorem dX3_weighFrom_104 : decode cX3_weighFrom 104 = .ok (.aload_n 1, 1) := by decide +kernel
theorem dX3_weighFrom_105 : decode cX3_weighFrom 105 = .ok (.iload_n 2, 1) := by decide +kernel
theorem dX3_weighFrom_106 : decode cX3_weighFrom 106 = .ok (.iconst 1, 1) := by decide +kernel
theorem dX3_weighFrom_107 : decode cX3_weighFrom 107 = .ok (.iadd, 1) := by decide +kernel
theorem dX3_weighFrom_108 : decode cX3_weighFrom 108 = .ok (.invokestatic 28, 3) := by decide +kernel
theorem dX3_weighFrom_111 : decode cX3_weighFrom 111 = .ok (.istore 7, 2) := by decide +kernel
theorem dX3_weighFrom_113 : decode cX3_weighFrom 113 = .ok (.iconst 1, 1) := by decide +kernel
theorem dX3_weighFrom_114 : decode cX3_weighFrom 114 = .ok (.istore 5, 2) := by decide +kernel
theorem dX3_weighFrom_116 : decode cX3_weighFrom 116 = .ok (.iload 7, 2) := by decide +kernel
theorem dX3_weighFrom_118 : decode cX3_weighFrom 118 = .ok (.ifCond .le 12, 3) := by decide +kernel
theorem dX3_weighFrom_121 : decode cX3_weighFrom 121 = .ok (.aload_n 0, 1) := by decide +kernel
theorem dX3_weighFrom_122 : decode cX3_weighFrom 122 = .ok (.iload_n 2, 1) := by decide +kernel
theorem dX3_weighFrom_123 : decode cX3_weighFrom 123 = .ok (.iload 8, 2) := by decide +kernel
theorem dX3_weighFrom_125 : decode cX3_weighFrom 125 = .ok (.iload 6, 2) := by decide +kernel
theorem dX3_weighFrom_127 : decode cX3_weighFrom 127 = .ok (.invokevirtual 66, 3) := by decide +kernel
theorem dX3_weighFrom_130 : decode cX3_weighFrom 130 = .ok (.iload 6, 2) := by decide +kernel
theorem dX3_weighFrom_132 : decode cX3_weighFrom 132 = .ok (.iload 7, 2) := by decide +kernel
theorem dX3_weighFrom_134 : decode cX3_weighFrom 134 = .ok (.iadd, 1) := by decide +kernel
theorem dX3_weighFrom_135 : decode cX3_weighFrom 135 = .ok (.istore 6, 2) := by decide +kernel
theorem dX3_weighFrom_137 : decode cX3_weighFrom 137 = .ok (.iinc 8 1, 3) := by decide +kernel
theorem dX3_weighFrom_140 : decode cX3_weighFrom 140 = .ok (.goto (-83), 3) := by decide +kernel
theorem dX3_weighFrom_143 : decode cX3_weighFrom 143 = .ok (.iload 6, 2) := by decide +kernel
theorem dX3_weighFrom_145 : decode cX3_weighFrom 145 = .ok (.ireturn, 1) := by decide +kernel
noncomputable def f_X3_weighFrom_b17 (rec : Nat → Nat → Int32 → Hp → Option (Int32 × Hp)) (x0 : Nat) (x2 : Int32) (σ : Hp) : Option (Int32 × Hp) := gO (chk shC x0 3) fun _ => bO (f_X3_settle x0 x2 σ) fun _ σ2 => some (1, σ2)
set_option maxRecDepth 100000 in
set_option maxHeartbeats 4000000 in
theorem t_X3_weighFrom_b17 {l : Launch} {γ : Gm} {ad : Nat → Nat} {K : Option Value → Hp → Prop} {n : Nat} (hc : Cx l γ (2 + n + 1) 9 ad shC RX3 cX3_weighFrom (some .int) K) {rec : Nat → Nat → Int32 → Hp → Option (Int32 × Hp)} (hrec : ∀ (x0 : Nat) (x1 : Nat) (x2 : Int32) (σ σ' : Hp) (r : Int32), rec x0 x1 x2 σ = some (r, σ') → Mt l yX3_weighFrom cX3_weighFrom 9 (some .int) (2 + n) shC (fun ad => [.ref (ad x0), .ref (ad x1), .int x2]) σ (fun ad => some (.int r)) σ') {x0 : Nat} {x2 : Int32} {σ : Hp} (h : wpO (f_X3_weighFrom_b17 rec x0 x2 σ) (KI K)) : WW l γ (2 + n + 1) 9 ad shC 17 [(0, .ref (ad x0)), (2, .int x2)] [] σ := by
  unfold f_X3_weighFrom_b17 at h
  refine r_aload_n hc 0 rfl rfl dX3_weighFrom_17 ?_
  refine r_iload_n hc 1 rfl rfl dX3_weighFrom_18 ?_
  obtain ⟨_, ek3, h⟩ := wp_g h
  obtain ⟨_, σ2, er1, h⟩ := wp_b h
  refine r_callV hc (k0 := x0) mv_X3_settle ml_X3_44 (c_X3_settle er1) (chk_of ek3) cls_3.1 rfl rfl rfl (by omega) rfl (Nat.le_of_ble_eq_true rfl) dX3_weighFrom_19 ?_
  refine r_iconst hc (v := 1) (by decide) dX3_weighFrom_22 ?_
  have h := wp_v h
  exact r_iret hc h dX3_weighFrom_23
noncomputable def f_X3_weighFrom_b137 (rec : Nat → Nat → Int32 → Hp → Option (Int32 × Hp)) (x0 : Nat) (x1 : Nat) (x2 : Int32) (x3 : Int32) (x4 : Int32) (x5 : Int32) (x6 : Int32) (x7 : Int32) (x8 : Int32) (σ : Hp) : Option (((Int32 × Int32 × Int32 × Int32) ⊕ (Int32)) × Hp) := some (Sum.inl (x5, x6, x7, (x8 + 1)), σ)
set_option maxRecDepth 100000 in
set_option maxHeartbeats 4000000 in
theorem t_X3_weighFrom_b137 {l : Launch} {γ : Gm} {ad : Nat → Nat} {K : Option Value → Hp → Prop} {n : Nat} (hc : Cx l γ (2 + n + 1) 9 ad shC RX3 cX3_weighFrom (some .int) K) {rec : Nat → Nat → Int32 → Hp → Option (Int32 × Hp)} (hrec : ∀ (x0 : Nat) (x1 : Nat) (x2 : Int32) (σ σ' : Hp) (r : Int32), rec x0 x1 x2 σ = some (r, σ') → Mt l yX3_weighFrom cX3_weighFrom 9 (some .int) (2 + n) shC (fun ad => [.ref (ad x0), .ref (ad x1), .int x2]) σ (fun ad => some (.int r)) σ') {x0 : Nat} {x1 : Nat} {x2 : Int32} {x3 : Int32} {x4 : Int32} {x5 : Int32} {x6 : Int32} {x7 : Int32} {x8 : Int32}  {σ : Hp} {KL : ((Int32 × Int32 × Int32 × Int32) ⊕ (Int32)) → Hp → Prop} (h : wpO (f_X3_weighFrom_b137 rec x0 x1 x2 x3 x4 x5 x6 x7 x8 σ) KL) (kn : ∀ (v : (Int32 × Int32 × Int32 × Int32)) (σ : Hp), KL (Sum.inl v) σ → WW l γ (2 + n + 1) 9 ad shC 57 [(0, .ref (ad x0)), (1, .ref (ad x1)), (2, .int x2), (3, .int x3), (4, .int x4), (5, .int v.1), (6, .int v.2.1), (7, .int v.2.2.1), (8, .int v.2.2.2)] [] σ) (kx143 : ∀ (v : Int32) (σ : Hp), KL (Sum.inr v) σ → WW l γ (2 + n + 1) 9 ad shC 143 [(6, .int v)] [] σ) : WW l γ (2 + n + 1) 9 ad shC 137 [(0, .ref (ad x0)), (1, .ref (ad x1)), (2, .int x2), (3, .int x3), (4, .int x4), (5, .int x5), (6, .int x6), (7, .int x7), (8, .int x8)] [] σ := by
  unfold f_X3_weighFrom_b137 at h
  refine r_iincE hc (j := 8) (w := 1) (lv' := [(8, .int (x8 + 1)), (0, .ref (ad x0)), (1, .ref (ad x1)), (2, .int x2), (3, .int x3), (4, .int x4), (5, .int x5), (6, .int x6), (7, .int x7)]) rfl (by decide) rfl (by decide) rfl dX3_weighFrom_137 ?_
  refine r_goto hc (tgt := 57) dX3_weighFrom_140 (by decide) ?_
  refine r_sub [1, 2, 3, 4, 5, 6, 7, 8, 0] (lv' := [(0, .ref (ad x0)), (1, .ref (ad x1)), (2, .int x2), (3, .int x3), (4, .int x4), (5, .int x5), (6, .int x6), (7, .int x7), (8, .int (x8 + 1))]) rfl ?_
  have h := wp_v h
  exact kn (x5, x6, x7, (x8 + 1)) _ h
noncomputable def f_X3_weighFrom_b130 (rec : Nat → Nat → Int32 → Hp → Option (Int32 × Hp)) (x0 : Nat) (x1 : Nat) (x2 : Int32) (x3 : Int32) (x4 : Int32) (x5 : Int32) (x6 : Int32) (x7 : Int32) (x8 : Int32) (σ : Hp) : Option (((Int32 × Int32 × Int32 × Int32) ⊕ (Int32)) × Hp) := f_X3_weighFrom_b137 rec x0 x1 x2 x3 x4 x5 (x6 + x7) x7 x8 σ
set_option maxRecDepth 100000 in
set_option maxHeartbeats 4000000 in
theorem t_X3_weighFrom_b130 {l : Launch} {γ : Gm} {ad : Nat → Nat} {K : Option Value → Hp → Prop} {n : Nat} (hc : Cx l γ (2 + n + 1) 9 ad shC RX3 cX3_weighFrom (some .int) K) {rec : Nat → Nat → Int32 → Hp → Option (Int32 × Hp)} (hrec : ∀ (x0 : Nat) (x1 : Nat) (x2 : Int32) (σ σ' : Hp) (r : Int32), rec x0 x1 x2 σ = some (r, σ') → Mt l yX3_weighFrom cX3_weighFrom 9 (some .int) (2 + n) shC (fun ad => [.ref (ad x0), .ref (ad x1), .int x2]) σ (fun ad => some (.int r)) σ') {x0 : Nat} {x1 : Nat} {x2 : Int32} {x3 : Int32} {x4 : Int32} {x5 : Int32} {x6 : Int32} {x7 : Int32} {x8 : Int32}  {σ : Hp} {KL : ((Int32 × Int32 × Int32 × Int32) ⊕ (Int32)) → Hp → Prop} (h : wpO (f_X3_weighFrom_b130 rec x0 x1 x2 x3 x4 x5 x6 x7 x8 σ) KL) (kn : ∀ (v : (Int32 × Int32 × Int32 × Int32)) (σ : Hp), KL (Sum.inl v) σ → WW l γ (2 + n + 1) 9 ad shC 57 [(0, .ref (ad x0)), (1, .ref (ad x1)), (2, .int x2), (3, .int x3), (4, .int x4), (5, .int v.1), (6, .int v.2.1), (7, .int v.2.2.1), (8, .int v.2.2.2)] [] σ) (kx143 : ∀ (v : Int32) (σ : Hp), KL (Sum.inr v) σ → WW l γ (2 + n + 1) 9 ad shC 143 [(6, .int v)] [] σ) : WW l γ (2 + n + 1) 9 ad shC 130 [(0, .ref (ad x0)), (1, .ref (ad x1)), (2, .int x2), (3, .int x3), (4, .int x4), (5, .int x5), (6, .int x6), (7, .int x7), (8, .int x8)] [] σ := by
  unfold f_X3_weighFrom_b130 at h
  refine r_iload hc 6 rfl dX3_weighFrom_130 ?_
  refine r_iload hc 7 rfl dX3_weighFrom_132 ?_
  refine r_iadd hc dX3_weighFrom_134 ?_
  refine r_istoreE hc (i := 6) (lv' := [(6, .int (x6 + x7)), (0, .ref (ad x0)), (1, .ref (ad x1)), (2, .int x2), (3, .int x3), (4, .int x4), (5, .int x5), (7, .int x7), (8, .int x8)]) rfl (by decide) rfl dX3_weighFrom_135 ?_
  refine r_sub [1, 2, 3, 4, 5, 6, 0, 7, 8] (lv' := [(0, .ref (ad x0)), (1, .ref (ad x1)), (2, .int x2), (3, .int x3), (4, .int x4), (5, .int x5), (6, .int (x6 + x7)), (7, .int x7), (8, .int x8)]) rfl ?_
  exact t_X3_weighFrom_b137 hc hrec h kn kx143
noncomputable def f_X3_weighFrom_b116 (rec : Nat → Nat → Int32 → Hp → Option (Int32 × Hp)) (x0 : Nat) (x1 : Nat) (x2 : Int32) (x3 : Int32) (x4 : Int32) (x5 : Int32) (x6 : Int32) (x7 : Int32) (x8 : Int32) (σ : Hp) : Option (((Int32 × Int32 × Int32 × Int32) ⊕ (Int32)) × Hp) := if x7 ≤ 0 then (f_X3_weighFrom_b130 rec x0 x1 x2 x3 x4 x5 x6 x7 x8 σ) else (gO (chk shC x0 3) fun _ => bO (f_X3_compare x0 x2 x8 x6 σ) fun _ σ2 => f_X3_weighFrom_b130 rec x0 x1 x2 x3 x4 x5 x6 x7 x8 σ2)
set_option maxRecDepth 100000 in
set_option maxHeartbeats 4000000 in
theorem t_X3_weighFrom_b116 {l : Launch} {γ : Gm} {ad : Nat → Nat} {K : Option Value → Hp → Prop} {n : Nat} (hc : Cx l γ (2 + n + 1) 9 ad shC RX3 cX3_weighFrom (some .int) K) {rec : Nat → Nat → Int32 → Hp → Option (Int32 × Hp)} (hrec : ∀ (x0 : Nat) (x1 : Nat) (x2 : Int32) (σ σ' : Hp) (r : Int32), rec x0 x1 x2 σ = some (r, σ') → Mt l yX3_weighFrom cX3_weighFrom 9 (some .int) (2 + n) shC (fun ad => [.ref (ad x0), .ref (ad x1), .int x2]) σ (fun ad => some (.int r)) σ') {x0 : Nat} {x1 : Nat} {x2 : Int32} {x3 : Int32} {x4 : Int32} {x5 : Int32} {x6 : Int32} {x7 : Int32} {x8 : Int32}  {σ : Hp} {KL : ((Int32 × Int32 × Int32 × Int32) ⊕ (Int32)) → Hp → Prop} (h : wpO (f_X3_weighFrom_b116 rec x0 x1 x2 x3 x4 x5 x6 x7 x8 σ) KL) (kn : ∀ (v : (Int32 × Int32 × Int32 × Int32)) (σ : Hp), KL (Sum.inl v) σ → WW l γ (2 + n + 1) 9 ad shC 57 [(0, .ref (ad x0)), (1, .ref (ad x1)), (2, .int x2), (3, .int x3), (4, .int x4), (5, .int v.1), (6, .int v.2.1), (7, .int v.2.2.1), (8, .int v.2.2.2)] [] σ) (kx143 : ∀ (v : Int32) (σ : Hp), KL (Sum.inr v) σ → WW l γ (2 + n + 1) 9 ad shC 143 [(6, .int v)] [] σ) : WW l γ (2 + n + 1) 9 ad shC 116 [(0, .ref (ad x0)), (1, .ref (ad x1)), (2, .int x2), (3, .int x3), (4, .int x4), (5, .int x5), (6, .int x6), (7, .int x7), (8, .int x8)] [] σ := by
  unfold f_X3_weighFrom_b116 at h
  refine r_iload hc 7 rfl dX3_weighFrom_116 ?_
  refine r_if_le hc (tgt := 130) dX3_weighFrom_118 (by decide) (fun c => ?_) (fun c => ?_)
  · have h := wp_t c h
    exact t_X3_weighFrom_b130 hc hrec h kn kx143
  · have h := wp_f c h
    refine r_aload_n hc 0 rfl rfl dX3_weighFrom_121 ?_
    refine r_iload_n hc 2 rfl rfl dX3_weighFrom_122 ?_
    refine r_iload hc 8 rfl dX3_weighFrom_123 ?_
    refine r_iload hc 6 rfl dX3_weighFrom_125 ?_
    obtain ⟨_, ek3, h⟩ := wp_g h
    obtain ⟨_, σ2, er1, h⟩ := wp_b h
    refine r_callV hc (k0 := x0) mv_X3_compare ml_X3_66 (c_X3_compare er1) (chk_of ek3) cls_3.1 rfl rfl rfl (by omega) rfl (Nat.le_of_ble_eq_true rfl) dX3_weighFrom_127 ?_
    exact t_X3_weighFrom_b130 hc hrec h kn kx143
noncomputable def f_X3_weighFrom_b103 (rec : Nat → Nat → Int32 → Hp → Option (Int32 × Hp)) (x0 : Nat) (x1 : Nat) (x2 : Int32) (x3 : Int32) (x4 : Int32) (x6 : Int32) (x8 : Int32) (σ : Hp) : Option (((Int32 × Int32 × Int32 × Int32) ⊕ (Int32)) × Hp) := bO (rec x0 x1 (x2 + 1) σ) fun r1 σ2 => f_X3_weighFrom_b116 rec x0 x1 x2 x3 x4 1 x6 r1 x8 σ2
set_option maxRecDepth 100000 in
set_option maxHeartbeats 4000000 in
theorem t_X3_weighFrom_b103 {l : Launch} {γ : Gm} {ad : Nat → Nat} {K : Option Value → Hp → Prop} {n : Nat} (hc : Cx l γ (2 + n + 1) 9 ad shC RX3 cX3_weighFrom (some .int) K) {rec : Nat → Nat → Int32 → Hp → Option (Int32 × Hp)} (hrec : ∀ (x0 : Nat) (x1 : Nat) (x2 : Int32) (σ σ' : Hp) (r : Int32), rec x0 x1 x2 σ = some (r, σ') → Mt l yX3_weighFrom cX3_weighFrom 9 (some .int) (2 + n) shC (fun ad => [.ref (ad x0), .ref (ad x1), .int x2]) σ (fun ad => some (.int r)) σ') {x0 : Nat} {x1 : Nat} {x2 : Int32} {x3 : Int32} {x4 : Int32} {x6 : Int32} {x8 : Int32}  {σ : Hp} {KL : ((Int32 × Int32 × Int32 × Int32) ⊕ (Int32)) → Hp → Prop} (h : wpO (f_X3_weighFrom_b103 rec x0 x1 x2 x3 x4 x6 x8 σ) KL) (kn : ∀ (v : (Int32 × Int32 × Int32 × Int32)) (σ : Hp), KL (Sum.inl v) σ → WW l γ (2 + n + 1) 9 ad shC 57 [(0, .ref (ad x0)), (1, .ref (ad x1)), (2, .int x2), (3, .int x3), (4, .int x4), (5, .int v.1), (6, .int v.2.1), (7, .int v.2.2.1), (8, .int v.2.2.2)] [] σ) (kx143 : ∀ (v : Int32) (σ : Hp), KL (Sum.inr v) σ → WW l γ (2 + n + 1) 9 ad shC 143 [(6, .int v)] [] σ) : WW l γ (2 + n + 1) 9 ad shC 103 [(0, .ref (ad x0)), (1, .ref (ad x1)), (2, .int x2), (3, .int x3), (4, .int x4), (6, .int x6), (8, .int x8)] [] σ := by
  unfold f_X3_weighFrom_b103 at h
  refine r_aload_n hc 0 rfl rfl dX3_weighFrom_103 ?_
  refine r_aload_n hc 1 rfl rfl dX3_weighFrom_104 ?_
  refine r_iload_n hc 2 rfl rfl dX3_weighFrom_105 ?_
  refine r_iconst hc (v := 1) (by decide) dX3_weighFrom_106 ?_
  refine r_iadd hc dX3_weighFrom_107 ?_
  obtain ⟨r1, σ2, er1, h⟩ := wp_b h
  refine r_callS hc ms_X3_weighFrom ml_X3_28 (hrec _ _ _ _ _ _ er1) rfl rfl (by omega) rfl (Nat.le_of_ble_eq_true rfl) dX3_weighFrom_108 ?_
  refine r_istoreE hc (i := 7) (lv' := [(7, .int r1), (0, .ref (ad x0)), (1, .ref (ad x1)), (2, .int x2), (3, .int x3), (4, .int x4), (6, .int x6), (8, .int x8)]) rfl (by decide) rfl dX3_weighFrom_111 ?_
  refine r_iconst hc (v := 1) (by decide) dX3_weighFrom_113 ?_
  refine r_istoreE hc (i := 5) (lv' := [(5, .int 1), (7, .int r1), (0, .ref (ad x0)), (1, .ref (ad x1)), (2, .int x2), (3, .int x3), (4, .int x4), (6, .int x6), (8, .int x8)]) rfl (by decide) rfl dX3_weighFrom_114 ?_
  refine r_sub [2, 3, 4, 5, 6, 0, 7, 1, 8] (lv' := [(0, .ref (ad x0)), (1, .ref (ad x1)), (2, .int x2), (3, .int x3), (4, .int x4), (5, .int 1), (6, .int x6), (7, .int r1), (8, .int x8)]) rfl ?_
  exact t_X3_weighFrom_b116 hc hrec h kn kx143
noncomputable def f_X3_weighFrom_L57 (rec : Nat → Nat → Int32 → Hp → Option (Int32 × Hp)) (x0 : Nat) (x1 : Nat) (x2 : Int32) (x3 : Int32) (x4 : Int32) (v : (Int32 × Int32 × Int32 × Int32)) (σ : Hp) : Option (((Int32 × Int32 × Int32 × Int32) ⊕ (Int32)) × Hp) := gO (getR shC 4 x1 1 σ) fun v1 => gO (getI shC 1 v1 0 σ) fun v2 => if v2 ≤ v.2.2.2 then (some (Sum.inr v.2.1, σ)) else (if 7 ≤ v.2.2.2 then (some (Sum.inr v.2.1, σ)) else (bO (f_X6_has x3 v.2.2.2 σ) fun r3 σ4 => if r3 = 0 then (f_X3_weighFrom_b137 rec x0 x1 x2 x3 x4 v.1 v.2.1 v.2.2.1 v.2.2.2 σ4) else (gO (getR shC 4 x1 3 σ4) fun v5 => gO (astI shC 0 v5 x2 v.2.2.2 σ4) fun σ6 => if x4 = 0 then (f_X3_weighFrom_b103 rec x0 x1 x2 x3 x4 v.2.1 v.2.2.2 σ6) else (if v.1 = 0 then (f_X3_weighFrom_b103 rec x0 x1 x2 x3 x4 v.2.1 v.2.2.2 σ6) else (f_X3_weighFrom_b116 rec x0 x1 x2 x3 x4 v.1 v.2.1 v.2.2.1 v.2.2.2 σ6)))))
set_option maxRecDepth 100000 in
set_option maxHeartbeats 4000000 in
theorem t_X3_weighFrom_L57 {l : Launch} {γ : Gm} {ad : Nat → Nat} {K : Option Value → Hp → Prop} {n : Nat} (hc : Cx l γ (2 + n + 1) 9 ad shC RX3 cX3_weighFrom (some .int) K) {rec : Nat → Nat → Int32 → Hp → Option (Int32 × Hp)} (hrec : ∀ (x0 : Nat) (x1 : Nat) (x2 : Int32) (σ σ' : Hp) (r : Int32), rec x0 x1 x2 σ = some (r, σ') → Mt l yX3_weighFrom cX3_weighFrom 9 (some .int) (2 + n) shC (fun ad => [.ref (ad x0), .ref (ad x1), .int x2]) σ (fun ad => some (.int r)) σ') {x0 : Nat} {x1 : Nat} {x2 : Int32} {x3 : Int32} {x4 : Int32} {v : (Int32 × Int32 × Int32 × Int32)} {σ : Hp} {KX : (Int32) → Hp → Prop} (h : wpO (wh (f_X3_weighFrom_L57 rec x0 x1 x2 x3 x4) v σ) KX) (kx143 : ∀ (v : Int32) (σ : Hp), KX v σ → WW l γ (2 + n + 1) 9 ad shC 143 [(6, .int v)] [] σ) : WW l γ (2 + n + 1) 9 ad shC 57 [(0, .ref (ad x0)), (1, .ref (ad x1)), (2, .int x2), (3, .int x3), (4, .int x4), (5, .int v.1), (6, .int v.2.1), (7, .int v.2.2.1), (8, .int v.2.2.2)] [] σ := by
  refine wh_W (P := fun v σ => WW l γ (2 + n + 1) 9 ad shC 57 [(0, .ref (ad x0)), (1, .ref (ad x1)), (2, .int x2), (3, .int x3), (4, .int x4), (5, .int v.1), (6, .int v.2.1), (7, .int v.2.2.1), (8, .int v.2.2.2)] [] σ) (fun v σ h => ?_) h
  have kn : ∀ (v : (Int32 × Int32 × Int32 × Int32)) (σ : Hp), WW l γ (2 + n + 1) 9 ad shC 57 [(0, .ref (ad x0)), (1, .ref (ad x1)), (2, .int x2), (3, .int x3), (4, .int x4), (5, .int v.1), (6, .int v.2.1), (7, .int v.2.2.1), (8, .int v.2.2.2)] [] σ → WW l γ (2 + n + 1) 9 ad shC 57 [(0, .ref (ad x0)), (1, .ref (ad x1)), (2, .int x2), (3, .int x3), (4, .int x4), (5, .int v.1), (6, .int v.2.1), (7, .int v.2.2.1), (8, .int v.2.2.2)] [] σ := fun _ _ h => h
  · unfold f_X3_weighFrom_L57 at h
    refine r_iload hc 8 rfl dX3_weighFrom_57 ?_
    refine r_aload_n hc 1 rfl rfl dX3_weighFrom_59 ?_
    obtain ⟨v1, ev1, h⟩ := wp_g h
    refine r_getR hc ev1 fl_X3_56 rfl dX3_weighFrom_60 ?_
    obtain ⟨v2, ev2, h⟩ := wp_g h
    refine r_getI hc ev2 fl_X3_38 rfl dX3_weighFrom_63 ?_
    refine r_icmp_ge hc (tgt := 143) dX3_weighFrom_66 (by decide) (fun c => ?_) (fun c => ?_)
    · have h := wp_t c h
      refine r_sub [6] (lv' := [(6, .int v.2.1)]) rfl ?_
      have h := wp_v h
      exact kx143 v.2.1 _ h
    · have h := wp_f c h
      refine r_iload hc 8 rfl dX3_weighFrom_69 ?_
      refine r_bipush hc (v := 7) (by decide) dX3_weighFrom_71 ?_
      refine r_icmp_ge hc (tgt := 143) dX3_weighFrom_73 (by decide) (fun c => ?_) (fun c => ?_)
      · have h := wp_t c h
        refine r_sub [6] (lv' := [(6, .int v.2.1)]) rfl ?_
        have h := wp_v h
        exact kx143 v.2.1 _ h
      · have h := wp_f c h
        refine r_iload_n hc 3 rfl rfl dX3_weighFrom_76 ?_
        refine r_iload hc 8 rfl dX3_weighFrom_77 ?_
        obtain ⟨r3, σ4, er3, h⟩ := wp_b h
        refine r_callSN hc ms_X6_has nl_X3_59 (c_X6_has er3) rfl rfl (by omega) rfl (Nat.le_of_ble_eq_true rfl) dX3_weighFrom_79 ?_
        refine r_if_eq hc (tgt := 137) dX3_weighFrom_82 (by decide) (fun c => ?_) (fun c => ?_)
        · have h := wp_t c h
          exact t_X3_weighFrom_b137 hc hrec h kn kx143
        · have h := wp_f c h
          refine r_aload_n hc 1 rfl rfl dX3_weighFrom_85 ?_
          obtain ⟨v5, ev5, h⟩ := wp_g h
          refine r_getR hc ev5 fl_X3_63 rfl dX3_weighFrom_86 ?_
          refine r_iload_n hc 2 rfl rfl dX3_weighFrom_89 ?_
          refine r_iload hc 8 rfl dX3_weighFrom_90 ?_
          obtain ⟨σ6, eσ6, h⟩ := wp_g h
          refine r_iast hc eσ6 dX3_weighFrom_92 ?_
          refine r_iload hc 4 rfl dX3_weighFrom_93 ?_
          refine r_if_eq hc (tgt := 103) dX3_weighFrom_95 (by decide) (fun c => ?_) (fun c => ?_)
          · have h := wp_t c h
            refine r_sub [0, 1, 2, 3, 4, 6, 8] (lv' := [(0, .ref (ad x0)), (1, .ref (ad x1)), (2, .int x2), (3, .int x3), (4, .int x4), (6, .int v.2.1), (8, .int v.2.2.2)]) rfl ?_
            exact t_X3_weighFrom_b103 hc hrec h kn kx143
          · have h := wp_f c h
            refine r_iload hc 5 rfl dX3_weighFrom_98 ?_
            refine r_if_ne hc (tgt := 116) dX3_weighFrom_100 (by decide) (fun c => ?_) (fun c => ?_)
            · have h := wp_f c h
              exact t_X3_weighFrom_b116 hc hrec h kn kx143
            · have h := wp_t c h
              refine r_sub [0, 1, 2, 3, 4, 6, 8] (lv' := [(0, .ref (ad x0)), (1, .ref (ad x1)), (2, .int x2), (3, .int x3), (4, .int x4), (6, .int v.2.1), (8, .int v.2.2.2)]) rfl ?_
              exact t_X3_weighFrom_b103 hc hrec h kn kx143
noncomputable def f_X3_weighFrom_b143 (rec : Nat → Nat → Int32 → Hp → Option (Int32 × Hp)) (x6 : Int32) (σ : Hp) : Option (Int32 × Hp) := some (x6, σ)
set_option maxRecDepth 100000 in
set_option maxHeartbeats 4000000 in
theorem t_X3_weighFrom_b143 {l : Launch} {γ : Gm} {ad : Nat → Nat} {K : Option Value → Hp → Prop} {n : Nat} (hc : Cx l γ (2 + n + 1) 9 ad shC RX3 cX3_weighFrom (some .int) K) {rec : Nat → Nat → Int32 → Hp → Option (Int32 × Hp)} (hrec : ∀ (x0 : Nat) (x1 : Nat) (x2 : Int32) (σ σ' : Hp) (r : Int32), rec x0 x1 x2 σ = some (r, σ') → Mt l yX3_weighFrom cX3_weighFrom 9 (some .int) (2 + n) shC (fun ad => [.ref (ad x0), .ref (ad x1), .int x2]) σ (fun ad => some (.int r)) σ') {x6 : Int32} {σ : Hp} (h : wpO (f_X3_weighFrom_b143 rec x6 σ) (KI K)) : WW l γ (2 + n + 1) 9 ad shC 143 [(6, .int x6)] [] σ := by
  unfold f_X3_weighFrom_b143 at h
  refine r_iload hc 0 rfl dX3_weighFrom_143 ?_
  have h := wp_v h
  exact r_iret hc h dX3_weighFrom_145
noncomputable def f_X3_weighFrom_body (rec : Nat → Nat → Int32 → Hp → Option (Int32 × Hp)) (x0 : Nat) (x1 : Nat) (x2 : Int32) (σ : Hp) : Option (Int32 × Hp) := gO (getR shC 4 x1 0 σ) fun v1 => gO (getI shC 1 v1 0 σ) fun v2 => if v2 ≤ x2 then (f_X3_weighFrom_b17 rec x0 x2 σ) else (if x2 < 7 then (gO (getR shC 3 x0 1 σ) fun v3 => gO (astI shC 0 v3 x2 0 σ) fun σ4 => gO (chk shC x1 4) fun _ => bO (f_X4_choices x1 x2 0 σ4) fun r5 σ6 => gO (chk shC x1 4) fun _ => bO (f_X4_isUnasked x1 x2 σ6) fun r8 σ9 => bO (wh (f_X3_weighFrom_L57 rec x0 x1 x2 r5 r8) (0, 0, 0, 0) σ9) fun y11 σ12 => (f_X3_weighFrom_b143 rec y11 σ12)) else (f_X3_weighFrom_b17 rec x0 x2 σ))
set_option maxRecDepth 100000 in
set_option maxHeartbeats 4000000 in
theorem t_X3_weighFrom {l : Launch} {γ : Gm} {ad : Nat → Nat} {K : Option Value → Hp → Prop} {n : Nat} (hc : Cx l γ (2 + n + 1) 9 ad shC RX3 cX3_weighFrom (some .int) K) {rec : Nat → Nat → Int32 → Hp → Option (Int32 × Hp)} (hrec : ∀ (x0 : Nat) (x1 : Nat) (x2 : Int32) (σ σ' : Hp) (r : Int32), rec x0 x1 x2 σ = some (r, σ') → Mt l yX3_weighFrom cX3_weighFrom 9 (some .int) (2 + n) shC (fun ad => [.ref (ad x0), .ref (ad x1), .int x2]) σ (fun ad => some (.int r)) σ') {x0 : Nat} {x1 : Nat} {x2 : Int32} {σ : Hp} (h : wpO (f_X3_weighFrom_body rec x0 x1 x2 σ) (KI K)) : WW l γ (2 + n + 1) 9 ad shC 0 [(0, .ref (ad x0)), (1, .ref (ad x1)), (2, .int x2)] [] σ := by
  unfold f_X3_weighFrom_body at h
  refine r_iload_n hc 2 rfl rfl dX3_weighFrom_0 ?_
  refine r_aload_n hc 1 rfl rfl dX3_weighFrom_1 ?_
  obtain ⟨v1, ev1, h⟩ := wp_g h
  refine r_getR hc ev1 fl_X3_32 rfl dX3_weighFrom_2 ?_
  obtain ⟨v2, ev2, h⟩ := wp_g h
  refine r_getI hc ev2 fl_X3_38 rfl dX3_weighFrom_5 ?_
  refine r_icmp_ge hc (tgt := 17) dX3_weighFrom_8 (by decide) (fun c => ?_) (fun c => ?_)
  · have h := wp_t c h
    refine r_sub [0, 2] (lv' := [(0, .ref (ad x0)), (2, .int x2)]) rfl ?_
    exact t_X3_weighFrom_b17 hc hrec h
  · have h := wp_f c h
    refine r_iload_n hc 2 rfl rfl dX3_weighFrom_11 ?_
    refine r_bipush hc (v := 7) (by decide) dX3_weighFrom_12 ?_
    refine r_icmp_lt hc (tgt := 24) dX3_weighFrom_14 (by decide) (fun c => ?_) (fun c => ?_)
    · have h := wp_t c h
      refine r_aload_n hc 0 rfl rfl dX3_weighFrom_24 ?_
      obtain ⟨v3, ev3, h⟩ := wp_g h
      refine r_getR hc ev3 fl_X3_15 rfl dX3_weighFrom_25 ?_
      refine r_iload_n hc 2 rfl rfl dX3_weighFrom_28 ?_
      refine r_iconst hc (v := 0) (by decide) dX3_weighFrom_29 ?_
      obtain ⟨σ4, eσ4, h⟩ := wp_g h
      refine r_iast hc eσ4 dX3_weighFrom_30 ?_
      refine r_aload_n hc 1 rfl rfl dX3_weighFrom_31 ?_
      refine r_iload_n hc 2 rfl rfl dX3_weighFrom_32 ?_
      refine r_iconst hc (v := 0) (by decide) dX3_weighFrom_33 ?_
      obtain ⟨_, ek7, h⟩ := wp_g h
      obtain ⟨r5, σ6, er5, h⟩ := wp_b h
      refine r_callV hc (k0 := x1) mv_X4_choices ml_X3_48 (c_X4_choices er5) (chk_of ek7) cls_4.1 rfl rfl rfl (by omega) rfl (Nat.le_of_ble_eq_true rfl) dX3_weighFrom_34 ?_
      refine r_istore_nE hc (i := 3) (lv' := [(3, .int r5), (0, .ref (ad x0)), (1, .ref (ad x1)), (2, .int x2)]) rfl rfl (by decide) rfl dX3_weighFrom_37 ?_
      refine r_aload_n hc 2 rfl rfl dX3_weighFrom_38 ?_
      refine r_iload_n hc 3 rfl rfl dX3_weighFrom_39 ?_
      obtain ⟨_, ek10, h⟩ := wp_g h
      obtain ⟨r8, σ9, er8, h⟩ := wp_b h
      refine r_callV hc (k0 := x1) mv_X4_isUnasked ml_X3_52 (c_X4_isUnasked er8) (chk_of ek10) cls_4.1 rfl rfl rfl (by omega) rfl (Nat.le_of_ble_eq_true rfl) dX3_weighFrom_40 ?_
      refine r_istoreE hc (i := 4) (lv' := [(4, .int r8), (3, .int r5), (0, .ref (ad x0)), (1, .ref (ad x1)), (2, .int x2)]) rfl (by decide) rfl dX3_weighFrom_43 ?_
      refine r_iconst hc (v := 0) (by decide) dX3_weighFrom_45 ?_
      refine r_istoreE hc (i := 5) (lv' := [(5, .int 0), (4, .int r8), (3, .int r5), (0, .ref (ad x0)), (1, .ref (ad x1)), (2, .int x2)]) rfl (by decide) rfl dX3_weighFrom_46 ?_
      refine r_iconst hc (v := 0) (by decide) dX3_weighFrom_48 ?_
      refine r_istoreE hc (i := 6) (lv' := [(6, .int 0), (5, .int 0), (4, .int r8), (3, .int r5), (0, .ref (ad x0)), (1, .ref (ad x1)), (2, .int x2)]) rfl (by decide) rfl dX3_weighFrom_49 ?_
      refine r_iconst hc (v := 0) (by decide) dX3_weighFrom_51 ?_
      refine r_istoreE hc (i := 7) (lv' := [(7, .int 0), (6, .int 0), (5, .int 0), (4, .int r8), (3, .int r5), (0, .ref (ad x0)), (1, .ref (ad x1)), (2, .int x2)]) rfl (by decide) rfl dX3_weighFrom_52 ?_
      refine r_iconst hc (v := 0) (by decide) dX3_weighFrom_54 ?_
      refine r_istoreE hc (i := 8) (lv' := [(8, .int 0), (7, .int 0), (6, .int 0), (5, .int 0), (4, .int r8), (3, .int r5), (0, .ref (ad x0)), (1, .ref (ad x1)), (2, .int x2)]) rfl (by decide) rfl dX3_weighFrom_55 ?_
      refine r_sub [6, 7, 8, 5, 4, 3, 2, 1, 0] (lv' := [(0, .ref (ad x0)), (1, .ref (ad x1)), (2, .int x2), (3, .int r5), (4, .int r8), (5, .int 0), (6, .int 0), (7, .int 0), (8, .int 0)]) rfl ?_
      refine t_X3_weighFrom_L57 hc hrec (wp_bb h) ?_
      · intro y11 σ12 h
        exact t_X3_weighFrom_b143 hc hrec h
    · have h := wp_f c h
      refine r_sub [0, 2] (lv' := [(0, .ref (ad x0)), (2, .int x2)]) rfl ?_
      exact t_X3_weighFrom_b17 hc hrec h
noncomputable def f_X3_weighFrom : Nat → Nat → Nat → Int32 → Hp → Option (Int32 × Hp)
  | 0 => fun _ _ _ _ => none
  | n + 1 => f_X3_weighFrom_body (f_X3_weighFrom n)
theorem cn_X3_weighFrom {l : Launch} : ∀ (n : Nat) (x0 : Nat) (x1 : Nat) (x2 : Int32) (σ σ' : Hp) (r : Int32), f_X3_weighFrom n x0 x1 x2 σ = some (r, σ') → Mt l yX3_weighFrom cX3_weighFrom 9 (some .int) (2 + n) shC (fun ad => [.ref (ad x0), .ref (ad x1), .int x2]) σ (fun ad => some (.int r)) σ' := by
  intro n
  induction n with
  | zero => intro x0 x1 x2 σ σ' r h; cases h
  | succ n ih => intro x0 x1 x2 σ σ' r h; exact mt_i (own := RX3) (by decide) rfl (fun _ => Nat.le_of_ble_eq_true rfl) (fun γ ad K hc hk => t_X3_weighFrom (n := n) hc ih ⟨_, _, h, hk⟩)
theorem c_X3_weighFrom {l : Launch} {x0 : Nat} {x1 : Nat} {x2 : Int32} {σ σ' : Hp} {r : Int32} (h : f_X3_weighFrom 30 x0 x1 x2 σ = some (r, σ')) : Mt l yX3_weighFrom cX3_weighFrom 9 (some .int) 32 shC (fun ad => [.ref (ad x0), .ref (ad x1), .int x2]) σ (fun ad => some (.int r)) σ' := cn_X3_weighFrom 30 x0 x1 x2 σ σ' r h

-- NetMaps$Scale.weighAll(LNetMaps$Search;[IZ)I
theorem dX3_weighAll_0 : decode cX3_weighAll 0 = .ok (.iconst 0, 1) := by decide +kernel
theorem dX3_weighAll_1 : decode cX3_weighAll 1 = .ok (.istore 4, 2) := by decide +kernel
theorem dX3_weighAll_3 : decode cX3_weighAll 3 = .ok (.iload 4, 2) := by decide +kernel
theorem dX3_weighAll_5 : decode cX3_weighAll 5 = .ok (.bipush 7, 2) := by decide +kernel
theorem dX3_weighAll_7 : decode cX3_weighAll 7 = .ok (.if_icmp .ge 27, 3) := by decide +kernel
theorem dX3_weighAll_10 : decode cX3_weighAll 10 = .ok (.iload 4, 2) := by decide +kernel
theorem dX3_weighAll_12 : decode cX3_weighAll 12 = .ok (.aload_n 2, 1) := by decide +kernel
theorem dX3_weighAll_13 : decode cX3_weighAll 13 = .ok (.arraylength, 1) := by decide +kernel
theorem dX3_weighAll_14 : decode cX3_weighAll 14 = .ok (.if_icmp .ge 20, 3) := by decide +kernel
theorem dX3_weighAll_17 : decode cX3_weighAll 17 = .ok (.aload_n 0, 1) := by decide +kernel
theorem dX3_weighAll_18 : decode cX3_weighAll 18 = .ok (.getfield 21, 3) := by decide +kernel
theorem dX3_weighAll_21 : decode cX3_weighAll 21 = .ok (.iload 4, 2) := by decide +kernel
theorem dX3_weighAll_23 : decode cX3_weighAll 23 = .ok (.aload_n 2, 1) := by decide +kernel
theorem dX3_weighAll_24 : decode cX3_weighAll 24 = .ok (.iload 4, 2) := by decide +kernel
theorem dX3_weighAll_26 : decode cX3_weighAll 26 = .ok (.iaload, 1) := by decide +kernel
theorem dX3_weighAll_27 : decode cX3_weighAll 27 = .ok (.iastore, 1) := by decide +kernel
theorem dX3_weighAll_28 : decode cX3_weighAll 28 = .ok (.iinc 4 1, 3) := by decide +kernel
theorem dX3_weighAll_31 : decode cX3_weighAll 31 = .ok (.goto (-28), 3) := by decide +kernel
theorem dX3_weighAll_34 : decode cX3_weighAll 34 = .ok (.aload_n 0, 1) := by decide +kernel
theorem dX3_weighAll_35 : decode cX3_weighAll 35 = .ok (.iload_n 3, 1) := by decide +kernel
theorem dX3_weighAll_36 : decode cX3_weighAll 36 = .ok (.putfield 24, 3) := by decide +kernel
theorem dX3_weighAll_39 : decode cX3_weighAll 39 = .ok (.aload_n 0, 1) := by decide +kernel
theorem dX3_weighAll_40 : decode cX3_weighAll 40 = .ok (.aload_n 1, 1) := by decide +kernel
theorem dX3_weighAll_41 : decode cX3_weighAll 41 = .ok (.iconst 0, 1) := by decide +kernel
theorem dX3_weighAll_42 : decode cX3_weighAll 42 = .ok (.invokestatic 28, 3) := by decide +kernel
theorem dX3_weighAll_45 : decode cX3_weighAll 45 = .ok (.ireturn, 1) := by decide +kernel
noncomputable def f_X3_weighAll_L3 (x0 : Nat) (x1 : Nat) (x2 : Nat) (x3 : Int32) (v : (Int32)) (σ : Hp) : Option (((Int32) ⊕ (Unit)) × Hp) := if 7 ≤ v then (some (Sum.inr (), σ)) else (gO (alen shC 0 x2) fun v1 => if v1 ≤ v then (some (Sum.inr (), σ)) else (gO (getR shC 3 x0 3 σ) fun v2 => gO (aldI shC 0 x2 v σ) fun v3 => gO (astI shC 0 v2 v v3 σ) fun σ4 => some (Sum.inl (v + 1), σ4)))
set_option maxRecDepth 100000 in
set_option maxHeartbeats 4000000 in
theorem t_X3_weighAll_L3 {l : Launch} {γ : Gm} {ad : Nat → Nat} {K : Option Value → Hp → Prop}  (hc : Cx l γ 34 5 ad shC RX3 cX3_weighAll (some .int) K) {x0 : Nat} {x1 : Nat} {x2 : Nat} {x3 : Int32} {v : (Int32)} {σ : Hp} {KX : (Unit) → Hp → Prop} (h : wpO (wh (f_X3_weighAll_L3 x0 x1 x2 x3) v σ) KX) (kx34 : ∀ (v : Unit) (σ : Hp), KX v σ → WW l γ 34 5 ad shC 34 [(0, .ref (ad x0)), (1, .ref (ad x1)), (3, .int x3)] [] σ) : WW l γ 34 5 ad shC 3 [(0, .ref (ad x0)), (1, .ref (ad x1)), (2, .ref (ad x2)), (3, .int x3), (4, .int v)] [] σ := by
  refine wh_W (P := fun v σ => WW l γ 34 5 ad shC 3 [(0, .ref (ad x0)), (1, .ref (ad x1)), (2, .ref (ad x2)), (3, .int x3), (4, .int v)] [] σ) (fun v σ h => ?_) h
  have kn : ∀ (v : (Int32)) (σ : Hp), WW l γ 34 5 ad shC 3 [(0, .ref (ad x0)), (1, .ref (ad x1)), (2, .ref (ad x2)), (3, .int x3), (4, .int v)] [] σ → WW l γ 34 5 ad shC 3 [(0, .ref (ad x0)), (1, .ref (ad x1)), (2, .ref (ad x2)), (3, .int x3), (4, .int v)] [] σ := fun _ _ h => h
  · unfold f_X3_weighAll_L3 at h
    refine r_iload hc 4 rfl dX3_weighAll_3 ?_
    refine r_bipush hc (v := 7) (by decide) dX3_weighAll_5 ?_
    refine r_icmp_ge hc (tgt := 34) dX3_weighAll_7 (by decide) (fun c => ?_) (fun c => ?_)
    · have h := wp_t c h
      refine r_sub [0, 1, 3] (lv' := [(0, .ref (ad x0)), (1, .ref (ad x1)), (3, .int x3)]) rfl ?_
      have h := wp_v h
      exact kx34 () _ h
    · have h := wp_f c h
      refine r_iload hc 4 rfl dX3_weighAll_10 ?_
      refine r_aload_n hc 2 rfl rfl dX3_weighAll_12 ?_
      obtain ⟨v1, ev1, h⟩ := wp_g h
      refine r_alen hc ev1 dX3_weighAll_13 ?_
      refine r_icmp_ge hc (tgt := 34) dX3_weighAll_14 (by decide) (fun c => ?_) (fun c => ?_)
      · have h := wp_t c h
        refine r_sub [0, 1, 3] (lv' := [(0, .ref (ad x0)), (1, .ref (ad x1)), (3, .int x3)]) rfl ?_
        have h := wp_v h
        exact kx34 () _ h
      · have h := wp_f c h
        refine r_aload_n hc 0 rfl rfl dX3_weighAll_17 ?_
        obtain ⟨v2, ev2, h⟩ := wp_g h
        refine r_getR hc ev2 fl_X3_21 rfl dX3_weighAll_18 ?_
        refine r_iload hc 4 rfl dX3_weighAll_21 ?_
        refine r_aload_n hc 2 rfl rfl dX3_weighAll_23 ?_
        refine r_iload hc 4 rfl dX3_weighAll_24 ?_
        obtain ⟨v3, ev3, h⟩ := wp_g h
        refine r_iald hc ev3 dX3_weighAll_26 ?_
        obtain ⟨σ4, eσ4, h⟩ := wp_g h
        refine r_iast hc eσ4 dX3_weighAll_27 ?_
        refine r_iincE hc (j := 4) (w := 1) (lv' := [(4, .int (v + 1)), (0, .ref (ad x0)), (1, .ref (ad x1)), (2, .ref (ad x2)), (3, .int x3)]) rfl (by decide) rfl (by decide) rfl dX3_weighAll_28 ?_
        refine r_goto hc (tgt := 3) dX3_weighAll_31 (by decide) ?_
        refine r_sub [1, 2, 3, 4, 0] (lv' := [(0, .ref (ad x0)), (1, .ref (ad x1)), (2, .ref (ad x2)), (3, .int x3), (4, .int (v + 1))]) rfl ?_
        have h := wp_v h
        exact kn (v + 1) _ h
noncomputable def f_X3_weighAll_b34 (x0 : Nat) (x1 : Nat) (x3 : Int32) (σ : Hp) : Option (Int32 × Hp) := gO (putZ shC 3 x0 4 x3 σ) fun σ1 => bO (f_X3_weighFrom 30 x0 x1 0 σ1) fun r2 σ3 => some (r2, σ3)
set_option maxRecDepth 100000 in
set_option maxHeartbeats 4000000 in
theorem t_X3_weighAll_b34 {l : Launch} {γ : Gm} {ad : Nat → Nat} {K : Option Value → Hp → Prop} (hc : Cx l γ 34 5 ad shC RX3 cX3_weighAll (some .int) K) {x0 : Nat} {x1 : Nat} {x3 : Int32} {σ : Hp} (h : wpO (f_X3_weighAll_b34 x0 x1 x3 σ) (KI K)) : WW l γ 34 5 ad shC 34 [(0, .ref (ad x0)), (1, .ref (ad x1)), (3, .int x3)] [] σ := by
  unfold f_X3_weighAll_b34 at h
  refine r_aload_n hc 0 rfl rfl dX3_weighAll_34 ?_
  refine r_iload_n hc 2 rfl rfl dX3_weighAll_35 ?_
  obtain ⟨σ1, eσ1, h⟩ := wp_g h
  refine r_putZ hc eσ1 fp_X3_24 rfl dX3_weighAll_36 ?_
  refine r_aload_n hc 0 rfl rfl dX3_weighAll_39 ?_
  refine r_aload_n hc 1 rfl rfl dX3_weighAll_40 ?_
  refine r_iconst hc (v := 0) (by decide) dX3_weighAll_41 ?_
  obtain ⟨r2, σ3, er2, h⟩ := wp_b h
  refine r_callS hc ms_X3_weighFrom ml_X3_28 (c_X3_weighFrom er2) rfl rfl (by decide) rfl (Nat.le_of_ble_eq_true rfl) dX3_weighAll_42 ?_
  have h := wp_v h
  exact r_iret hc h dX3_weighAll_45
noncomputable def f_X3_weighAll (x0 : Nat) (x1 : Nat) (x2 : Nat) (x3 : Int32) (σ : Hp) : Option (Int32 × Hp) := bO (wh (f_X3_weighAll_L3 x0 x1 x2 x3) 0 σ) fun y1 σ2 => (f_X3_weighAll_b34 x0 x1 x3 σ2)
set_option maxRecDepth 100000 in
set_option maxHeartbeats 4000000 in
theorem t_X3_weighAll {l : Launch} {γ : Gm} {ad : Nat → Nat} {K : Option Value → Hp → Prop} (hc : Cx l γ 34 5 ad shC RX3 cX3_weighAll (some .int) K) {x0 : Nat} {x1 : Nat} {x2 : Nat} {x3 : Int32} {σ : Hp} (h : wpO (f_X3_weighAll x0 x1 x2 x3 σ) (KI K)) : WW l γ 34 5 ad shC 0 [(0, .ref (ad x0)), (1, .ref (ad x1)), (2, .ref (ad x2)), (3, .int x3)] [] σ := by
  unfold f_X3_weighAll at h
  refine r_iconst hc (v := 0) (by decide) dX3_weighAll_0 ?_
  refine r_istoreE hc (i := 4) (lv' := [(4, .int 0), (0, .ref (ad x0)), (1, .ref (ad x1)), (2, .ref (ad x2)), (3, .int x3)]) rfl (by decide) rfl dX3_weighAll_1 ?_
  refine r_sub [1, 2, 3, 4, 0] (lv' := [(0, .ref (ad x0)), (1, .ref (ad x1)), (2, .ref (ad x2)), (3, .int x3), (4, .int 0)]) rfl ?_
  refine t_X3_weighAll_L3 hc (wp_bb h) ?_
  · intro y1 σ2 h
    exact t_X3_weighAll_b34 hc h
theorem c_X3_weighAll {l : Launch} {x0 : Nat} {x1 : Nat} {x2 : Nat} {x3 : Int32} {σ σ' : Hp} {r : Int32} (h : f_X3_weighAll x0 x1 x2 x3 σ = some (r, σ')) : Mt l yX3_weighAll cX3_weighAll 5 (some .int) 34 shC (fun ad => [.ref (ad x0), .ref (ad x1), .ref (ad x2), .int x3]) σ (fun ad => some (.int r)) σ' := mt_i (own := RX3) (by decide) rfl (fun _ => Nat.le_of_ble_eq_true rfl) (fun γ ad K hc hk => t_X3_weighAll hc ⟨_, _, h, hk⟩)

-- NetMaps.cheapest(IIZI)I
theorem dX6_cheapest_0 : decode cX6_cheapest 0 = .ok (.iload_n 1, 1) := by decide +kernel
theorem dX6_cheapest_1 : decode cX6_cheapest 1 = .ok (.invokestatic 76, 3) := by decide +kernel
theorem dX6_cheapest_4 : decode cX6_cheapest 4 = .ok (.ifCond .ne 21, 3) := by decide +kernel
theorem dX6_cheapest_7 : decode cX6_cheapest 7 = .ok (.iload_n 2, 1) := by decide +kernel
theorem dX6_cheapest_8 : decode cX6_cheapest 8 = .ok (.invokestatic 76, 3) := by decide +kernel
theorem dX6_cheapest_11 : decode cX6_cheapest 11 = .ok (.ifCond .ne 14, 3) := by decide +kernel
theorem dX6_cheapest_14 : decode cX6_cheapest 14 = .ok (.iload 4, 2) := by decide +kernel
theorem dX6_cheapest_16 : decode cX6_cheapest 16 = .ok (.ifCond .lt 9, 3) := by decide +kernel
theorem dX6_cheapest_19 : decode cX6_cheapest 19 = .ok (.iload 4, 2) := by decide +kernel
theorem dX6_cheapest_21 : decode cX6_cheapest 21 = .ok (.iconst 2, 1) := by decide +kernel
theorem dX6_cheapest_22 : decode cX6_cheapest 22 = .ok (.if_icmp .le 5, 3) := by decide +kernel
theorem dX6_cheapest_25 : decode cX6_cheapest 25 = .ok (.iconst (-1), 1) := by decide +kernel
theorem dX6_cheapest_26 : decode cX6_cheapest 26 = .ok (.ireturn, 1) := by decide +kernel
theorem dX6_cheapest_27 : decode cX6_cheapest 27 = .ok (.aload_n 0, 1) := by decide +kernel
theorem dX6_cheapest_28 : decode cX6_cheapest 28 = .ok (.iload_n 1, 1) := by decide +kernel
theorem dX6_cheapest_29 : decode cX6_cheapest 29 = .ok (.invokevirtual 91, 3) := by decide +kernel
theorem dX6_cheapest_32 : decode cX6_cheapest 32 = .ok (.invokevirtual 109, 3) := by decide +kernel
theorem dX6_cheapest_35 : decode cX6_cheapest 35 = .ok (.ifCond .ne 14, 3) := by decide +kernel
theorem dX6_cheapest_38 : decode cX6_cheapest 38 = .ok (.aload_n 0, 1) := by decide +kernel
theorem dX6_cheapest_39 : decode cX6_cheapest 39 = .ok (.iload_n 2, 1) := by decide +kernel
theorem dX6_cheapest_40 : decode cX6_cheapest 40 = .ok (.invokevirtual 91, 3) := by decide +kernel
theorem dX6_cheapest_43 : decode cX6_cheapest 43 = .ok (.invokevirtual 109, 3) := by decide +kernel
theorem dX6_cheapest_46 : decode cX6_cheapest 46 = .ok (.ifCond .eq 6, 3) := by decide +kernel
theorem dX6_cheapest_49 : decode cX6_cheapest 49 = .ok (.bipush (-2), 2) := by decide +kernel
theorem dX6_cheapest_51 : decode cX6_cheapest 51 = .ok (.ireturn, 1) := by decide +kernel
theorem dX6_cheapest_52 : decode cX6_cheapest 52 = .ok (.aload_n 0, 1) := by decide +kernel
theorem dX6_cheapest_53 : decode cX6_cheapest 53 = .ok (.getfield 41, 3) := by decide +kernel
theorem dX6_cheapest_56 : decode cX6_cheapest 56 = .ok (.aload_n 0, 1) := by decide +kernel
theorem dX6_cheapest_57 : decode cX6_cheapest 57 = .ok (.iload_n 1, 1) := by decide +kernel
theorem dX6_cheapest_58 : decode cX6_cheapest 58 = .ok (.invokevirtual 91, 3) := by decide +kernel
theorem dX6_cheapest_61 : decode cX6_cheapest 61 = .ok (.aload_n 0, 1) := by decide +kernel
theorem dX6_cheapest_62 : decode cX6_cheapest 62 = .ok (.iload_n 2, 1) := by decide +kernel
theorem dX6_cheapest_63 : decode cX6_cheapest 63 = .ok (.invokevirtual 91, 3) := by decide +kernel
theorem dX6_cheapest_66 : decode cX6_cheapest 66 = .ok (.aload_n 0, 1) := by decide +kernel
theorem dX6_cheapest_67 : decode cX6_cheapest 67 = .ok (.getfield 10, 3) := by decide +kernel
theorem dX6_cheapest_70 : decode cX6_cheapest 70 = .ok (.getfield 213, 3) := by decide +kernel
theorem dX6_cheapest_73 : decode cX6_cheapest 73 = .ok (.invokevirtual 220, 3) := by decide +kernel
theorem dX6_cheapest_76 : decode cX6_cheapest 76 = .ok (.aload_n 0, 1) := by decide +kernel
theorem dX6_cheapest_77 : decode cX6_cheapest 77 = .ok (.getfield 48, 3) := by decide +kernel
theorem dX6_cheapest_80 : decode cX6_cheapest 80 = .ok (.aload_n 0, 1) := by decide +kernel
theorem dX6_cheapest_81 : decode cX6_cheapest 81 = .ok (.getfield 41, 3) := by decide +kernel
theorem dX6_cheapest_84 : decode cX6_cheapest 84 = .ok (.aload_n 0, 1) := by decide +kernel
theorem dX6_cheapest_85 : decode cX6_cheapest 85 = .ok (.getfield 10, 3) := by decide +kernel
theorem dX6_cheapest_88 : decode cX6_cheapest 88 = .ok (.getfield 266, 3) := by decide +kernel
theorem dX6_cheapest_91 : decode cX6_cheapest 91 = .ok (.iload_n 3, 1) := by decide +kernel
theorem dX6_cheapest_92 : decode cX6_cheapest 92 = .ok (.invokevirtual 269, 3) := by decide +kernel
theorem dX6_cheapest_95 : decode cX6_cheapest 95 = .ok (.ifCond .ne 6, 3) := by decide +kernel
theorem dX6_cheapest_98 : decode cX6_cheapest 98 = .ok (.bipush (-4), 2) := by decide +kernel
theorem dX6_cheapest_100 : decode cX6_cheapest 100 = .ok (.ireturn, 1) := by decide +kernel
theorem dX6_cheapest_101 : decode cX6_cheapest 101 = .ok (.iload 4, 2) := by decide +kernel
theorem dX6_cheapest_103 : decode cX6_cheapest 103 = .ok (.lookupswitch 45 #[(0, 25), (1, 35)], 25) := by decide +kernel
theorem dX6_cheapest_128 : decode cX6_cheapest 128 = .ok (.aload_n 0, 1) := by decide +kernel
theorem dX6_cheapest_129 : decode cX6_cheapest 129 = .ok (.getfield 48, 3) := by decide +kernel
theorem dX6_cheapest_132 : decode cX6_cheapest 132 = .ok (.getfield 273, 3) := by decide +kernel
theorem dX6_cheapest_135 : decode cX6_cheapest 135 = .ok (.iconst 0, 1) := by decide +kernel
theorem dX6_cheapest_136 : decode cX6_cheapest 136 = .ok (.iaload, 1) := by decide +kernel
theorem dX6_cheapest_137 : decode cX6_cheapest 137 = .ok (.ireturn, 1) := by decide +kernel
theorem dX6_cheapest_138 : decode cX6_cheapest 138 = .ok (.aload_n 0, 1) := by decide +kernel
theorem dX6_cheapest_139 : decode cX6_cheapest 139 = .ok (.getfield 48, 3) := by decide +kernel
theorem dX6_cheapest_142 : decode cX6_cheapest 142 = .ok (.getfield 276, 3) := by decide +kernel
theorem dX6_cheapest_145 : decode cX6_cheapest 145 = .ok (.iconst 0, 1) := by decide +kernel
theorem dX6_cheapest_146 : decode cX6_cheapest 146 = .ok (.iaload, 1) := by decide +kernel
theorem dX6_cheapest_147 : decode cX6_cheapest 147 = .ok (.ireturn, 1) := by decide +kernel
theorem dX6_cheapest_148 : decode cX6_cheapest 148 = .ok (.aload_n 0, 1) := by decide +kernel
theorem dX6_cheapest_149 : decode cX6_cheapest 149 = .ok (.getfield 48, 3) := by decide +kernel
theorem dX6_cheapest_152 : decode cX6_cheapest 152 = .ok (.getfield 279, 3) := by decide +kernel
theorem dX6_cheapest_155 : decode cX6_cheapest 155 = .ok (.iconst 0, 1) := by decide +kernel
theorem dX6_cheapest_156 : decode cX6_cheapest 156 = .ok (.iaload, 1) := by decide +kernel
theorem dX6_cheapest_157 : decode cX6_cheapest 157 = .ok (.ireturn, 1) := by decide +kernel
noncomputable def f_X6_cheapest_b25  (σ : Hp) : Option (Int32 × Hp) := some ((-1), σ)
set_option maxRecDepth 100000 in
set_option maxHeartbeats 4000000 in
theorem t_X6_cheapest_b25 {l : Launch} {γ : Gm} {ad : Nat → Nat} {K : Option Value → Hp → Prop} (hc : Cx l γ 35 5 ad shC RX6 cX6_cheapest (some .int) K)  {σ : Hp} (h : wpO (f_X6_cheapest_b25  σ) (KI K)) : WW l γ 35 5 ad shC 25 [] [] σ := by
  unfold f_X6_cheapest_b25 at h
  refine r_iconst hc (v := (-1)) (by decide) dX6_cheapest_25 ?_
  have h := wp_v h
  exact r_iret hc h dX6_cheapest_26
noncomputable def f_X6_cheapest_b49  (σ : Hp) : Option (Int32 × Hp) := some ((-2), σ)
set_option maxRecDepth 100000 in
set_option maxHeartbeats 4000000 in
theorem t_X6_cheapest_b49 {l : Launch} {γ : Gm} {ad : Nat → Nat} {K : Option Value → Hp → Prop} (hc : Cx l γ 35 5 ad shC RX6 cX6_cheapest (some .int) K)  {σ : Hp} (h : wpO (f_X6_cheapest_b49  σ) (KI K)) : WW l γ 35 5 ad shC 49 [] [] σ := by
  unfold f_X6_cheapest_b49 at h
  refine r_bipush hc (v := (-2)) (by decide) dX6_cheapest_49 ?_
  have h := wp_v h
  exact r_iret hc h dX6_cheapest_51
noncomputable def f_X6_cheapest (x0 : Nat) (x1 : Int32) (x2 : Int32) (x3 : Int32) (x4 : Int32) (σ : Hp) : Option (Int32 × Hp) := bO (f_X6_noDrawer x1 σ) fun r1 σ2 => if r1 = 0 then (bO (f_X6_noDrawer x2 σ2) fun r3 σ4 => if r3 = 0 then (if x4 < 0 then (f_X6_cheapest_b25  σ4) else (if x4 ≤ 2 then (gO (chk shC x0 6) fun _ => bO (f_X6_in x0 x1 σ4) fun r5 σ6 => gO (chk shC r5 1) fun _ => bO (f_X1_isEmpty r5 σ6) fun r8 σ9 => if r8 = 0 then (gO (chk shC x0 6) fun _ => bO (f_X6_in x0 x2 σ9) fun r11 σ12 => gO (chk shC r11 1) fun _ => bO (f_X1_isEmpty r11 σ12) fun r14 σ15 => if r14 = 0 then (gO (getR shC 6 x0 7 σ15) fun v17 => gO (chk shC x0 6) fun _ => bO (f_X6_in x0 x1 σ15) fun r18 σ19 => gO (chk shC x0 6) fun _ => bO (f_X6_in x0 x2 σ19) fun r21 σ22 => gO (getR shC 6 x0 0 σ22) fun v24 => gO (getR shC 5 v24 1 σ22) fun v25 => gO (chk shC v17 4) fun _ => bO (f_X4_byLists v17 r18 r21 v25 σ22) fun _ σ27 => gO (getR shC 6 x0 8 σ27) fun v29 => gO (getR shC 6 x0 7 σ27) fun v30 => gO (getR shC 6 x0 0 σ27) fun v31 => gO (getR shC 5 v31 2 σ27) fun v32 => gO (chk shC v29 3) fun _ => bO (f_X3_weighAll v29 v30 v32 x3 σ27) fun r33 σ34 => if r33 = 0 then (some ((-4), σ34)) else (if x4 = 0 then (gO (getR shC 6 x0 8 σ34) fun v36 => gO (getR shC 3 v36 0 σ34) fun v37 => gO (aldI shC 0 v37 0 σ34) fun v38 => some (v38, σ34)) else (if x4 = 1 then (gO (getR shC 6 x0 8 σ34) fun v39 => gO (getR shC 3 v39 1 σ34) fun v40 => gO (aldI shC 0 v40 0 σ34) fun v41 => some (v41, σ34)) else (gO (getR shC 6 x0 8 σ34) fun v42 => gO (getR shC 3 v42 2 σ34) fun v43 => gO (aldI shC 0 v43 0 σ34) fun v44 => some (v44, σ34))))) else (f_X6_cheapest_b49  σ15)) else (f_X6_cheapest_b49  σ9)) else (f_X6_cheapest_b25  σ4))) else (f_X6_cheapest_b25  σ4)) else (f_X6_cheapest_b25  σ2)
set_option maxRecDepth 100000 in
set_option maxHeartbeats 4000000 in
theorem t_X6_cheapest {l : Launch} {γ : Gm} {ad : Nat → Nat} {K : Option Value → Hp → Prop} (hc : Cx l γ 35 5 ad shC RX6 cX6_cheapest (some .int) K) {x0 : Nat} {x1 : Int32} {x2 : Int32} {x3 : Int32} {x4 : Int32} {σ : Hp} (h : wpO (f_X6_cheapest x0 x1 x2 x3 x4 σ) (KI K)) : WW l γ 35 5 ad shC 0 [(0, .ref (ad x0)), (1, .int x1), (2, .int x2), (3, .int x3), (4, .int x4)] [] σ := by
  unfold f_X6_cheapest at h
  refine r_iload_n hc 1 rfl rfl dX6_cheapest_0 ?_
  obtain ⟨r1, σ2, er1, h⟩ := wp_b h
  refine r_callS hc ms_X6_noDrawer ml_X6_76 (c_X6_noDrawer er1) rfl rfl (by decide) rfl (Nat.le_of_ble_eq_true rfl) dX6_cheapest_1 ?_
  refine r_if_ne hc (tgt := 25) dX6_cheapest_4 (by decide) (fun c => ?_) (fun c => ?_)
  · have h := wp_f c h
    refine r_sub [] (lv' := []) rfl ?_
    exact t_X6_cheapest_b25 hc h
  · have h := wp_t c h
    refine r_iload_n hc 2 rfl rfl dX6_cheapest_7 ?_
    obtain ⟨r3, σ4, er3, h⟩ := wp_b h
    refine r_callS hc ms_X6_noDrawer ml_X6_76 (c_X6_noDrawer er3) rfl rfl (by decide) rfl (Nat.le_of_ble_eq_true rfl) dX6_cheapest_8 ?_
    refine r_if_ne hc (tgt := 25) dX6_cheapest_11 (by decide) (fun c => ?_) (fun c => ?_)
    · have h := wp_f c h
      refine r_sub [] (lv' := []) rfl ?_
      exact t_X6_cheapest_b25 hc h
    · have h := wp_t c h
      refine r_iload hc 4 rfl dX6_cheapest_14 ?_
      refine r_if_lt hc (tgt := 25) dX6_cheapest_16 (by decide) (fun c => ?_) (fun c => ?_)
      · have h := wp_t c h
        refine r_sub [] (lv' := []) rfl ?_
        exact t_X6_cheapest_b25 hc h
      · have h := wp_f c h
        refine r_iload hc 4 rfl dX6_cheapest_19 ?_
        refine r_iconst hc (v := 2) (by decide) dX6_cheapest_21 ?_
        refine r_icmp_le hc (tgt := 27) dX6_cheapest_22 (by decide) (fun c => ?_) (fun c => ?_)
        · have h := wp_t c h
          refine r_aload_n hc 0 rfl rfl dX6_cheapest_27 ?_
          refine r_iload_n hc 1 rfl rfl dX6_cheapest_28 ?_
          obtain ⟨_, ek7, h⟩ := wp_g h
          obtain ⟨r5, σ6, er5, h⟩ := wp_b h
          refine r_callV hc (k0 := x0) mv_X6_in ml_X6_91 (c_X6_in er5) (chk_of ek7) cls_6.1 rfl rfl rfl (by decide) rfl (Nat.le_of_ble_eq_true rfl) dX6_cheapest_29 ?_
          obtain ⟨_, ek10, h⟩ := wp_g h
          obtain ⟨r8, σ9, er8, h⟩ := wp_b h
          refine r_callV hc (k0 := r5) mv_X1_isEmpty ml_X6_109 (c_X1_isEmpty er8) (chk_of ek10) cls_1.1 rfl rfl rfl (by decide) rfl (Nat.le_of_ble_eq_true rfl) dX6_cheapest_32 ?_
          refine r_if_ne hc (tgt := 49) dX6_cheapest_35 (by decide) (fun c => ?_) (fun c => ?_)
          · have h := wp_f c h
            refine r_sub [] (lv' := []) rfl ?_
            exact t_X6_cheapest_b49 hc h
          · have h := wp_t c h
            refine r_aload_n hc 0 rfl rfl dX6_cheapest_38 ?_
            refine r_iload_n hc 2 rfl rfl dX6_cheapest_39 ?_
            obtain ⟨_, ek13, h⟩ := wp_g h
            obtain ⟨r11, σ12, er11, h⟩ := wp_b h
            refine r_callV hc (k0 := x0) mv_X6_in ml_X6_91 (c_X6_in er11) (chk_of ek13) cls_6.1 rfl rfl rfl (by decide) rfl (Nat.le_of_ble_eq_true rfl) dX6_cheapest_40 ?_
            obtain ⟨_, ek16, h⟩ := wp_g h
            obtain ⟨r14, σ15, er14, h⟩ := wp_b h
            refine r_callV hc (k0 := r11) mv_X1_isEmpty ml_X6_109 (c_X1_isEmpty er14) (chk_of ek16) cls_1.1 rfl rfl rfl (by decide) rfl (Nat.le_of_ble_eq_true rfl) dX6_cheapest_43 ?_
            refine r_if_eq hc (tgt := 52) dX6_cheapest_46 (by decide) (fun c => ?_) (fun c => ?_)
            · have h := wp_t c h
              refine r_aload_n hc 0 rfl rfl dX6_cheapest_52 ?_
              obtain ⟨v17, ev17, h⟩ := wp_g h
              refine r_getR hc ev17 fl_X6_41 rfl dX6_cheapest_53 ?_
              refine r_aload_n hc 0 rfl rfl dX6_cheapest_56 ?_
              refine r_iload_n hc 1 rfl rfl dX6_cheapest_57 ?_
              obtain ⟨_, ek20, h⟩ := wp_g h
              obtain ⟨r18, σ19, er18, h⟩ := wp_b h
              refine r_callV hc (k0 := x0) mv_X6_in ml_X6_91 (c_X6_in er18) (chk_of ek20) cls_6.1 rfl rfl rfl (by decide) rfl (Nat.le_of_ble_eq_true rfl) dX6_cheapest_58 ?_
              refine r_aload_n hc 0 rfl rfl dX6_cheapest_61 ?_
              refine r_iload_n hc 2 rfl rfl dX6_cheapest_62 ?_
              obtain ⟨_, ek23, h⟩ := wp_g h
              obtain ⟨r21, σ22, er21, h⟩ := wp_b h
              refine r_callV hc (k0 := x0) mv_X6_in ml_X6_91 (c_X6_in er21) (chk_of ek23) cls_6.1 rfl rfl rfl (by decide) rfl (Nat.le_of_ble_eq_true rfl) dX6_cheapest_63 ?_
              refine r_aload_n hc 0 rfl rfl dX6_cheapest_66 ?_
              obtain ⟨v24, ev24, h⟩ := wp_g h
              refine r_getR hc ev24 fl_X6_10 rfl dX6_cheapest_67 ?_
              obtain ⟨v25, ev25, h⟩ := wp_g h
              refine r_getR hc ev25 fl_X6_213 rfl dX6_cheapest_70 ?_
              obtain ⟨_, ek28, h⟩ := wp_g h
              obtain ⟨_, σ27, er26, h⟩ := wp_b h
              refine r_callV hc (k0 := v17) mv_X4_byLists ml_X6_220 (c_X4_byLists er26) (chk_of ek28) cls_4.1 rfl rfl rfl (by decide) rfl (Nat.le_of_ble_eq_true rfl) dX6_cheapest_73 ?_
              refine r_aload_n hc 0 rfl rfl dX6_cheapest_76 ?_
              obtain ⟨v29, ev29, h⟩ := wp_g h
              refine r_getR hc ev29 fl_X6_48 rfl dX6_cheapest_77 ?_
              refine r_aload_n hc 0 rfl rfl dX6_cheapest_80 ?_
              obtain ⟨v30, ev30, h⟩ := wp_g h
              refine r_getR hc ev30 fl_X6_41 rfl dX6_cheapest_81 ?_
              refine r_aload_n hc 0 rfl rfl dX6_cheapest_84 ?_
              obtain ⟨v31, ev31, h⟩ := wp_g h
              refine r_getR hc ev31 fl_X6_10 rfl dX6_cheapest_85 ?_
              obtain ⟨v32, ev32, h⟩ := wp_g h
              refine r_getR hc ev32 fl_X6_266 rfl dX6_cheapest_88 ?_
              refine r_iload_n hc 3 rfl rfl dX6_cheapest_91 ?_
              obtain ⟨_, ek35, h⟩ := wp_g h
              obtain ⟨r33, σ34, er33, h⟩ := wp_b h
              refine r_callV hc (k0 := v29) mv_X3_weighAll ml_X6_269 (c_X3_weighAll er33) (chk_of ek35) cls_3.1 rfl rfl rfl (by decide) rfl (Nat.le_of_ble_eq_true rfl) dX6_cheapest_92 ?_
              refine r_if_ne hc (tgt := 101) dX6_cheapest_95 (by decide) (fun c => ?_) (fun c => ?_)
              · have h := wp_f c h
                refine r_iload hc 4 rfl dX6_cheapest_101 ?_
                by_cases c0 : x4 = 0
                · have h := wp_t c0 h
                  refine r_lookup hc (off := 25) (tgt := 128) dX6_cheapest_103 (by decide) (by rw [c0]; decide) (by decide) ?_
                  refine r_aload_n hc 0 rfl rfl dX6_cheapest_128 ?_
                  obtain ⟨v36, ev36, h⟩ := wp_g h
                  refine r_getR hc ev36 fl_X6_48 rfl dX6_cheapest_129 ?_
                  obtain ⟨v37, ev37, h⟩ := wp_g h
                  refine r_getR hc ev37 fl_X6_273 rfl dX6_cheapest_132 ?_
                  refine r_iconst hc (v := 0) (by decide) dX6_cheapest_135 ?_
                  obtain ⟨v38, ev38, h⟩ := wp_g h
                  refine r_iald hc ev38 dX6_cheapest_136 ?_
                  have h := wp_v h
                  exact r_iret hc h dX6_cheapest_137
                have h := wp_f c0 h
                by_cases c1 : x4 = 1
                · have h := wp_t c1 h
                  refine r_lookup hc (off := 35) (tgt := 138) dX6_cheapest_103 (by decide) (by rw [c1]; decide) (by decide) ?_
                  refine r_aload_n hc 0 rfl rfl dX6_cheapest_138 ?_
                  obtain ⟨v39, ev39, h⟩ := wp_g h
                  refine r_getR hc ev39 fl_X6_48 rfl dX6_cheapest_139 ?_
                  obtain ⟨v40, ev40, h⟩ := wp_g h
                  refine r_getR hc ev40 fl_X6_276 rfl dX6_cheapest_142 ?_
                  refine r_iconst hc (v := 0) (by decide) dX6_cheapest_145 ?_
                  obtain ⟨v41, ev41, h⟩ := wp_g h
                  refine r_iald hc ev41 dX6_cheapest_146 ?_
                  have h := wp_v h
                  exact r_iret hc h dX6_cheapest_147
                have h := wp_f c1 h
                refine r_lookup hc (off := 45) (tgt := 148) dX6_cheapest_103 (by decide) (lk_out2 c0 c1) (by decide) ?_
                refine r_aload_n hc 0 rfl rfl dX6_cheapest_148 ?_
                obtain ⟨v42, ev42, h⟩ := wp_g h
                refine r_getR hc ev42 fl_X6_48 rfl dX6_cheapest_149 ?_
                obtain ⟨v43, ev43, h⟩ := wp_g h
                refine r_getR hc ev43 fl_X6_279 rfl dX6_cheapest_152 ?_
                refine r_iconst hc (v := 0) (by decide) dX6_cheapest_155 ?_
                obtain ⟨v44, ev44, h⟩ := wp_g h
                refine r_iald hc ev44 dX6_cheapest_156 ?_
                have h := wp_v h
                exact r_iret hc h dX6_cheapest_157
              · have h := wp_t c h
                refine r_bipush hc (v := (-4)) (by decide) dX6_cheapest_98 ?_
                have h := wp_v h
                exact r_iret hc h dX6_cheapest_100
            · have h := wp_f c h
              refine r_sub [] (lv' := []) rfl ?_
              exact t_X6_cheapest_b49 hc h
        · have h := wp_f c h
          refine r_sub [] (lv' := []) rfl ?_
          exact t_X6_cheapest_b25 hc h
theorem c_X6_cheapest {l : Launch} {x0 : Nat} {x1 : Int32} {x2 : Int32} {x3 : Int32} {x4 : Int32} {σ σ' : Hp} {r : Int32} (h : f_X6_cheapest x0 x1 x2 x3 x4 σ = some (r, σ')) : Mt l yX6_cheapest cX6_cheapest 5 (some .int) 35 shC (fun ad => [.ref (ad x0), .int x1, .int x2, .int x3, .int x4]) σ (fun ad => some (.int r)) σ' := mt_i (own := RX6) (by decide) rfl (fun _ => Nat.le_of_ble_eq_true rfl) (fun γ ad K hc hk => t_X6_cheapest hc ⟨_, _, h, hk⟩)

-- NetMaps.behind(IIIII)I
theorem dX6_behind_0 : decode cX6_behind 0 = .ok (.iload_n 1, 1) := by decide +kernel
theorem dX6_behind_1 : decode cX6_behind 1 = .ok (.invokestatic 76, 3) := by decide +kernel
theorem dX6_behind_4 : decode cX6_behind 4 = .ok (.ifCond .ne 27, 3) := by decide +kernel
theorem dX6_behind_7 : decode cX6_behind 7 = .ok (.iload_n 2, 1) := by decide +kernel
theorem dX6_behind_8 : decode cX6_behind 8 = .ok (.invokestatic 76, 3) := by decide +kernel
theorem dX6_behind_11 : decode cX6_behind 11 = .ok (.ifCond .ne 20, 3) := by decide +kernel
theorem dX6_behind_14 : decode cX6_behind 14 = .ok (.iload_n 3, 1) := by decide +kernel
theorem dX6_behind_15 : decode cX6_behind 15 = .ok (.invokestatic 76, 3) := by decide +kernel
theorem dX6_behind_18 : decode cX6_behind 18 = .ok (.ifCond .ne 13, 3) := by decide +kernel
theorem dX6_behind_21 : decode cX6_behind 21 = .ok (.iload 4, 2) := by decide +kernel
theorem dX6_behind_23 : decode cX6_behind 23 = .ok (.ifCond .lt 8, 3) := by decide +kernel
theorem dX6_behind_26 : decode cX6_behind 26 = .ok (.iload 5, 2) := by decide +kernel
theorem dX6_behind_28 : decode cX6_behind 28 = .ok (.ifCond .ge 5, 3) := by decide +kernel
theorem dX6_behind_31 : decode cX6_behind 31 = .ok (.iconst (-1), 1) := by decide +kernel
theorem dX6_behind_32 : decode cX6_behind 32 = .ok (.ireturn, 1) := by decide +kernel
theorem dX6_behind_33 : decode cX6_behind 33 = .ok (.aload_n 0, 1) := by decide +kernel
theorem dX6_behind_34 : decode cX6_behind 34 = .ok (.iload_n 1, 1) := by decide +kernel
theorem dX6_behind_35 : decode cX6_behind 35 = .ok (.invokevirtual 91, 3) := by decide +kernel
theorem dX6_behind_38 : decode cX6_behind 38 = .ok (.invokevirtual 109, 3) := by decide +kernel
theorem dX6_behind_41 : decode cX6_behind 41 = .ok (.ifCond .ne 25, 3) := by decide +kernel
theorem dX6_behind_44 : decode cX6_behind 44 = .ok (.aload_n 0, 1) := by decide +kernel
theorem dX6_behind_45 : decode cX6_behind 45 = .ok (.iload_n 2, 1) := by decide +kernel
theorem dX6_behind_46 : decode cX6_behind 46 = .ok (.invokevirtual 91, 3) := by decide +kernel
theorem dX6_behind_49 : decode cX6_behind 49 = .ok (.invokevirtual 109, 3) := by decide +kernel
theorem dX6_behind_52 : decode cX6_behind 52 = .ok (.ifCond .ne 14, 3) := by decide +kernel
theorem dX6_behind_55 : decode cX6_behind 55 = .ok (.aload_n 0, 1) := by decide +kernel
theorem dX6_behind_56 : decode cX6_behind 56 = .ok (.iload_n 3, 1) := by decide +kernel
theorem dX6_behind_57 : decode cX6_behind 57 = .ok (.invokevirtual 91, 3) := by decide +kernel
theorem dX6_behind_60 : decode cX6_behind 60 = .ok (.invokevirtual 109, 3) := by decide +kernel
theorem dX6_behind_63 : decode cX6_behind 63 = .ok (.ifCond .eq 6, 3) := by decide +kernel
theorem dX6_behind_66 : decode cX6_behind 66 = .ok (.bipush (-2), 2) := by decide +kernel
theorem dX6_behind_68 : decode cX6_behind 68 = .ok (.ireturn, 1) := by decide +kernel
theorem dX6_behind_69 : decode cX6_behind 69 = .ok (.aload_n 0, 1) := by decide +kernel
theorem dX6_behind_70 : decode cX6_behind 70 = .ok (.getfield 41, 3) := by decide +kernel
theorem dX6_behind_73 : decode cX6_behind 73 = .ok (.aload_n 0, 1) := by decide +kernel
theorem dX6_behind_74 : decode cX6_behind 74 = .ok (.iload_n 1, 1) := by decide +kernel
theorem dX6_behind_75 : decode cX6_behind 75 = .ok (.invokevirtual 91, 3) := by decide +kernel
theorem dX6_behind_78 : decode cX6_behind 78 = .ok (.aload_n 0, 1) := by decide +kernel
theorem dX6_behind_79 : decode cX6_behind 79 = .ok (.iload_n 2, 1) := by decide +kernel
theorem dX6_behind_80 : decode cX6_behind 80 = .ok (.invokevirtual 91, 3) := by decide +kernel
theorem dX6_behind_83 : decode cX6_behind 83 = .ok (.invokevirtual 216, 3) := by decide +kernel
theorem dX6_behind_86 : decode cX6_behind 86 = .ok (.aload_n 0, 1) := by decide +kernel
theorem dX6_behind_87 : decode cX6_behind 87 = .ok (.getfield 41, 3) := by decide +kernel
theorem dX6_behind_90 : decode cX6_behind 90 = .ok (.iload 4, 2) := by decide +kernel
theorem dX6_behind_92 : decode cX6_behind 92 = .ok (.invokevirtual 233, 3) := by decide +kernel
theorem dX6_behind_95 : decode cX6_behind 95 = .ok (.ifCond .ne 6, 3) := by decide +kernel
theorem dX6_behind_98 : decode cX6_behind 98 = .ok (.bipush (-3), 2) := by decide +kernel
theorem dX6_behind_100 : decode cX6_behind 100 = .ok (.ireturn, 1) := by decide +kernel
theorem dX6_behind_101 : decode cX6_behind 101 = .ok (.aload_n 0, 1) := by decide +kernel
theorem dX6_behind_102 : decode cX6_behind 102 = .ok (.aload_n 0, 1) := by decide +kernel
theorem dX6_behind_103 : decode cX6_behind 103 = .ok (.getfield 59, 3) := by decide +kernel
theorem dX6_behind_106 : decode cX6_behind 106 = .ok (.invokevirtual 258, 3) := by decide +kernel
theorem dX6_behind_109 : decode cX6_behind 109 = .ok (.aload_n 0, 1) := by decide +kernel
theorem dX6_behind_110 : decode cX6_behind 110 = .ok (.getfield 41, 3) := by decide +kernel
theorem dX6_behind_113 : decode cX6_behind 113 = .ok (.aload_n 0, 1) := by decide +kernel
theorem dX6_behind_114 : decode cX6_behind 114 = .ok (.iload_n 2, 1) := by decide +kernel
theorem dX6_behind_115 : decode cX6_behind 115 = .ok (.invokevirtual 91, 3) := by decide +kernel
theorem dX6_behind_118 : decode cX6_behind 118 = .ok (.aload_n 0, 1) := by decide +kernel
theorem dX6_behind_119 : decode cX6_behind 119 = .ok (.iload_n 3, 1) := by decide +kernel
theorem dX6_behind_120 : decode cX6_behind 120 = .ok (.invokevirtual 91, 3) := by decide +kernel
theorem dX6_behind_123 : decode cX6_behind 123 = .ok (.invokevirtual 216, 3) := by decide +kernel
theorem dX6_behind_126 : decode cX6_behind 126 = .ok (.aload_n 0, 1) := by decide +kernel
theorem dX6_behind_127 : decode cX6_behind 127 = .ok (.getfield 41, 3) := by decide +kernel
theorem dX6_behind_130 : decode cX6_behind 130 = .ok (.iload 5, 2) := by decide +kernel
theorem dX6_behind_132 : decode cX6_behind 132 = .ok (.invokevirtual 233, 3) := by decide +kernel
theorem dX6_behind_135 : decode cX6_behind 135 = .ok (.ifCond .ne 6, 3) := by decide +kernel
theorem dX6_behind_138 : decode cX6_behind 138 = .ok (.bipush (-3), 2) := by decide +kernel
theorem dX6_behind_140 : decode cX6_behind 140 = .ok (.ireturn, 1) := by decide +kernel
theorem dX6_behind_141 : decode cX6_behind 141 = .ok (.iconst 0, 1) := by decide +kernel
theorem dX6_behind_142 : decode cX6_behind 142 = .ok (.istore 6, 2) := by decide +kernel
theorem dX6_behind_144 : decode cX6_behind 144 = .ok (.iload 6, 2) := by decide +kernel
theorem dX6_behind_146 : decode cX6_behind 146 = .ok (.aload_n 0, 1) := by decide +kernel
theorem dX6_behind_147 : decode cX6_behind 147 = .ok (.iload_n 1, 1) := by decide +kernel
theorem dX6_behind_148 : decode cX6_behind 148 = .ok (.invokevirtual 91, 3) := by decide +kernel
theorem dX6_behind_151 : decode cX6_behind 151 = .ok (.getfield 126, 3) := by decide +kernel
theorem dX6_behind_154 : decode cX6_behind 154 = .ok (.if_icmp .ge 31, 3) := by decide +kernel
theorem dX6_behind_157 : decode cX6_behind 157 = .ok (.aload_n 0, 1) := by decide +kernel
theorem dX6_behind_158 : decode cX6_behind 158 = .ok (.getfield 59, 3) := by decide +kernel
theorem dX6_behind_161 : decode cX6_behind 161 = .ok (.iload 6, 2) := by decide +kernel
theorem dX6_behind_163 : decode cX6_behind 163 = .ok (.aload_n 0, 1) := by decide +kernel
theorem dX6_behind_164 : decode cX6_behind 164 = .ok (.getfield 41, 3) := by decide +kernel
theorem dX6_behind_167 : decode cX6_behind 167 = .ok (.getfield 236, 3) := by decide +kernel
theorem dX6_behind_170 : decode cX6_behind 170 = .ok (.aload_n 0, 1) := by decide +kernel
theorem dX6_behind_171 : decode cX6_behind 171 = .ok (.getfield 59, 3) := by decide +kernel
theorem dX6_behind_174 : decode cX6_behind 174 = .ok (.iload 6, 2) := by decide +kernel
theorem dX6_behind_176 : decode cX6_behind 176 = .ok (.iaload, 1) := by decide +kernel
theorem dX6_behind_177 : decode cX6_behind 177 = .ok (.iaload, 1) := by decide +kernel
theorem dX6_behind_178 : decode cX6_behind 178 = .ok (.iastore, 1) := by decide +kernel
theorem dX6_behind_179 : decode cX6_behind 179 = .ok (.iinc 6 1, 3) := by decide +kernel
theorem dX6_behind_182 : decode cX6_behind 182 = .ok (.goto (-38), 3) := by decide +kernel
theorem dX6_behind_185 : decode cX6_behind 185 = .ok (.aload_n 0, 1) := by decide +kernel
theorem dX6_behind_186 : decode cX6_behind 186 = .ok (.getfield 41, 3) := by decide +kernel
theorem dX6_behind_189 : decode cX6_behind 189 = .ok (.aload_n 0, 1) := by decide +kernel
theorem dX6_behind_190 : decode cX6_behind 190 = .ok (.iload_n 1, 1) := by decide +kernel
theorem dX6_behind_191 : decode cX6_behind 191 = .ok (.invokevirtual 91, 3) := by decide +kernel
theorem dX6_behind_194 : decode cX6_behind 194 = .ok (.aload_n 0, 1) := by decide +kernel
theorem dX6_behind_195 : decode cX6_behind 195 = .ok (.iload_n 3, 1) := by decide +kernel
theorem dX6_behind_196 : decode cX6_behind 196 = .ok (.invokevirtual 91, 3) := by decide +kernel
theorem dX6_behind_199 : decode cX6_behind 199 = .ok (.invokevirtual 216, 3) := by decide +kernel
theorem dX6_behind_202 : decode cX6_behind 202 = .ok (.aload_n 0, 1) := by decide +kernel
theorem dX6_behind_203 : decode cX6_behind 203 = .ok (.getfield 41, 3) := by decide +kernel
theorem dX6_behind_206 : decode cX6_behind 206 = .ok (.aload_n 0, 1) := by decide +kernel
theorem dX6_behind_207 : decode cX6_behind 207 = .ok (.getfield 59, 3) := by decide +kernel
theorem dX6_behind_210 : decode cX6_behind 210 = .ok (.invokevirtual 262, 3) := by decide +kernel
theorem dX6_behind_213 : decode cX6_behind 213 = .ok (.ireturn, 1) := by decide +kernel
noncomputable def f_X6_behind_b31  (σ : Hp) : Option (Int32 × Hp) := some ((-1), σ)
set_option maxRecDepth 100000 in
set_option maxHeartbeats 4000000 in
theorem t_X6_behind_b31 {l : Launch} {γ : Gm} {ad : Nat → Nat} {K : Option Value → Hp → Prop} (hc : Cx l γ 35 7 ad shC RX6 cX6_behind (some .int) K)  {σ : Hp} (h : wpO (f_X6_behind_b31  σ) (KI K)) : WW l γ 35 7 ad shC 31 [] [] σ := by
  unfold f_X6_behind_b31 at h
  refine r_iconst hc (v := (-1)) (by decide) dX6_behind_31 ?_
  have h := wp_v h
  exact r_iret hc h dX6_behind_32
noncomputable def f_X6_behind_b66  (σ : Hp) : Option (Int32 × Hp) := some ((-2), σ)
set_option maxRecDepth 100000 in
set_option maxHeartbeats 4000000 in
theorem t_X6_behind_b66 {l : Launch} {γ : Gm} {ad : Nat → Nat} {K : Option Value → Hp → Prop} (hc : Cx l γ 35 7 ad shC RX6 cX6_behind (some .int) K)  {σ : Hp} (h : wpO (f_X6_behind_b66  σ) (KI K)) : WW l γ 35 7 ad shC 66 [] [] σ := by
  unfold f_X6_behind_b66 at h
  refine r_bipush hc (v := (-2)) (by decide) dX6_behind_66 ?_
  have h := wp_v h
  exact r_iret hc h dX6_behind_68
noncomputable def f_X6_behind_L144 (x0 : Nat) (x1 : Int32) (x3 : Int32) (v : (Int32)) (σ : Hp) : Option (((Int32) ⊕ (Unit)) × Hp) := gO (chk shC x0 6) fun _ => bO (f_X6_in x0 x1 σ) fun r1 σ2 => gO (getI shC 1 r1 0 σ2) fun v4 => if v4 ≤ v then (some (Sum.inr (), σ2)) else (gO (getR shC 6 x0 10 σ2) fun v5 => gO (getR shC 6 x0 7 σ2) fun v6 => gO (getR shC 4 v6 3 σ2) fun v7 => gO (getR shC 6 x0 10 σ2) fun v8 => gO (aldI shC 0 v8 v σ2) fun v9 => gO (aldI shC 0 v7 v9 σ2) fun v10 => gO (astI shC 0 v5 v v10 σ2) fun σ11 => some (Sum.inl (v + 1), σ11))
set_option maxRecDepth 100000 in
set_option maxHeartbeats 4000000 in
theorem t_X6_behind_L144 {l : Launch} {γ : Gm} {ad : Nat → Nat} {K : Option Value → Hp → Prop}  (hc : Cx l γ 35 7 ad shC RX6 cX6_behind (some .int) K) {x0 : Nat} {x1 : Int32} {x3 : Int32} {v : (Int32)} {σ : Hp} {KX : (Unit) → Hp → Prop} (h : wpO (wh (f_X6_behind_L144 x0 x1 x3) v σ) KX) (kx185 : ∀ (v : Unit) (σ : Hp), KX v σ → WW l γ 35 7 ad shC 185 [(0, .ref (ad x0)), (1, .int x1), (3, .int x3)] [] σ) : WW l γ 35 7 ad shC 144 [(0, .ref (ad x0)), (1, .int x1), (3, .int x3), (6, .int v)] [] σ := by
  refine wh_W (P := fun v σ => WW l γ 35 7 ad shC 144 [(0, .ref (ad x0)), (1, .int x1), (3, .int x3), (6, .int v)] [] σ) (fun v σ h => ?_) h
  have kn : ∀ (v : (Int32)) (σ : Hp), WW l γ 35 7 ad shC 144 [(0, .ref (ad x0)), (1, .int x1), (3, .int x3), (6, .int v)] [] σ → WW l γ 35 7 ad shC 144 [(0, .ref (ad x0)), (1, .int x1), (3, .int x3), (6, .int v)] [] σ := fun _ _ h => h
  · unfold f_X6_behind_L144 at h
    refine r_iload hc 3 rfl dX6_behind_144 ?_
    refine r_aload_n hc 0 rfl rfl dX6_behind_146 ?_
    refine r_iload_n hc 1 rfl rfl dX6_behind_147 ?_
    obtain ⟨_, ek3, h⟩ := wp_g h
    obtain ⟨r1, σ2, er1, h⟩ := wp_b h
    refine r_callV hc (k0 := x0) mv_X6_in ml_X6_91 (c_X6_in er1) (chk_of ek3) cls_6.1 rfl rfl rfl (by decide) rfl (Nat.le_of_ble_eq_true rfl) dX6_behind_148 ?_
    obtain ⟨v4, ev4, h⟩ := wp_g h
    refine r_getI hc ev4 fl_X6_126 rfl dX6_behind_151 ?_
    refine r_icmp_ge hc (tgt := 185) dX6_behind_154 (by decide) (fun c => ?_) (fun c => ?_)
    · have h := wp_t c h
      refine r_sub [0, 1, 2] (lv' := [(0, .ref (ad x0)), (1, .int x1), (3, .int x3)]) rfl ?_
      have h := wp_v h
      exact kx185 () _ h
    · have h := wp_f c h
      refine r_aload_n hc 0 rfl rfl dX6_behind_157 ?_
      obtain ⟨v5, ev5, h⟩ := wp_g h
      refine r_getR hc ev5 fl_X6_59 rfl dX6_behind_158 ?_
      refine r_iload hc 3 rfl dX6_behind_161 ?_
      refine r_aload_n hc 0 rfl rfl dX6_behind_163 ?_
      obtain ⟨v6, ev6, h⟩ := wp_g h
      refine r_getR hc ev6 fl_X6_41 rfl dX6_behind_164 ?_
      obtain ⟨v7, ev7, h⟩ := wp_g h
      refine r_getR hc ev7 fl_X6_236 rfl dX6_behind_167 ?_
      refine r_aload_n hc 0 rfl rfl dX6_behind_170 ?_
      obtain ⟨v8, ev8, h⟩ := wp_g h
      refine r_getR hc ev8 fl_X6_59 rfl dX6_behind_171 ?_
      refine r_iload hc 3 rfl dX6_behind_174 ?_
      obtain ⟨v9, ev9, h⟩ := wp_g h
      refine r_iald hc ev9 dX6_behind_176 ?_
      obtain ⟨v10, ev10, h⟩ := wp_g h
      refine r_iald hc ev10 dX6_behind_177 ?_
      obtain ⟨σ11, eσ11, h⟩ := wp_g h
      refine r_iast hc eσ11 dX6_behind_178 ?_
      refine r_iincE hc (j := 3) (w := 1) (lv' := [(6, .int (v + 1)), (0, .ref (ad x0)), (1, .int x1), (3, .int x3)]) rfl (by decide) rfl (by decide) rfl dX6_behind_179 ?_
      refine r_goto hc (tgt := 144) dX6_behind_182 (by decide) ?_
      refine r_sub [1, 2, 3, 0] (lv' := [(0, .ref (ad x0)), (1, .int x1), (3, .int x3), (6, .int (v + 1))]) rfl ?_
      have h := wp_v h
      exact kn (v + 1) _ h
noncomputable def f_X6_behind (x0 : Nat) (x1 : Int32) (x2 : Int32) (x3 : Int32) (x4 : Int32) (x5 : Int32) (σ : Hp) : Option (Int32 × Hp) := bO (f_X6_noDrawer x1 σ) fun r1 σ2 => if r1 = 0 then (bO (f_X6_noDrawer x2 σ2) fun r3 σ4 => if r3 = 0 then (bO (f_X6_noDrawer x3 σ4) fun r5 σ6 => if r5 = 0 then (if x4 < 0 then (f_X6_behind_b31  σ6) else (if 0 ≤ x5 then (gO (chk shC x0 6) fun _ => bO (f_X6_in x0 x1 σ6) fun r7 σ8 => gO (chk shC r7 1) fun _ => bO (f_X1_isEmpty r7 σ8) fun r10 σ11 => if r10 = 0 then (gO (chk shC x0 6) fun _ => bO (f_X6_in x0 x2 σ11) fun r13 σ14 => gO (chk shC r13 1) fun _ => bO (f_X1_isEmpty r13 σ14) fun r16 σ17 => if r16 = 0 then (gO (chk shC x0 6) fun _ => bO (f_X6_in x0 x3 σ17) fun r19 σ20 => gO (chk shC r19 1) fun _ => bO (f_X1_isEmpty r19 σ20) fun r22 σ23 => if r22 = 0 then (gO (getR shC 6 x0 7 σ23) fun v25 => gO (chk shC x0 6) fun _ => bO (f_X6_in x0 x1 σ23) fun r26 σ27 => gO (chk shC x0 6) fun _ => bO (f_X6_in x0 x2 σ27) fun r29 σ30 => gO (chk shC v25 4) fun _ => bO (f_X4_freely v25 r26 r29 σ30) fun _ σ33 => gO (getR shC 6 x0 7 σ33) fun v35 => gO (chk shC v35 4) fun _ => bO (f_X4_pick v35 x4 σ33) fun r36 σ37 => if r36 = 0 then (some ((-3), σ37)) else (gO (getR shC 6 x0 10 σ37) fun v39 => gO (chk shC x0 6) fun _ => bO (f_X6_copyImage x0 v39 σ37) fun _ σ41 => gO (getR shC 6 x0 7 σ41) fun v43 => gO (chk shC x0 6) fun _ => bO (f_X6_in x0 x2 σ41) fun r44 σ45 => gO (chk shC x0 6) fun _ => bO (f_X6_in x0 x3 σ45) fun r47 σ48 => gO (chk shC v43 4) fun _ => bO (f_X4_freely v43 r44 r47 σ48) fun _ σ51 => gO (getR shC 6 x0 7 σ51) fun v53 => gO (chk shC v53 4) fun _ => bO (f_X4_pick v53 x5 σ51) fun r54 σ55 => if r54 = 0 then (some ((-3), σ55)) else (bO (wh (f_X6_behind_L144 x0 x1 x3) 0 σ55) fun y57 σ58 => (gO (getR shC 6 x0 7 σ58) fun v59 => gO (chk shC x0 6) fun _ => bO (f_X6_in x0 x1 σ58) fun r60 σ61 => gO (chk shC x0 6) fun _ => bO (f_X6_in x0 x3 σ61) fun r63 σ64 => gO (chk shC v59 4) fun _ => bO (f_X4_freely v59 r60 r63 σ64) fun _ σ67 => gO (getR shC 6 x0 7 σ67) fun v69 => gO (getR shC 6 x0 10 σ67) fun v70 => gO (chk shC v69 4) fun _ => bO (f_X4_numberOf v69 v70 σ67) fun r71 σ72 => some (r71, σ72))))) else (f_X6_behind_b66  σ23)) else (f_X6_behind_b66  σ17)) else (f_X6_behind_b66  σ11)) else (f_X6_behind_b31  σ6))) else (f_X6_behind_b31  σ6)) else (f_X6_behind_b31  σ4)) else (f_X6_behind_b31  σ2)
set_option maxRecDepth 100000 in
set_option maxHeartbeats 4000000 in
theorem t_X6_behind {l : Launch} {γ : Gm} {ad : Nat → Nat} {K : Option Value → Hp → Prop} (hc : Cx l γ 35 7 ad shC RX6 cX6_behind (some .int) K) {x0 : Nat} {x1 : Int32} {x2 : Int32} {x3 : Int32} {x4 : Int32} {x5 : Int32} {σ : Hp} (h : wpO (f_X6_behind x0 x1 x2 x3 x4 x5 σ) (KI K)) : WW l γ 35 7 ad shC 0 [(0, .ref (ad x0)), (1, .int x1), (2, .int x2), (3, .int x3), (4, .int x4), (5, .int x5)] [] σ := by
  unfold f_X6_behind at h
  refine r_iload_n hc 1 rfl rfl dX6_behind_0 ?_
  obtain ⟨r1, σ2, er1, h⟩ := wp_b h
  refine r_callS hc ms_X6_noDrawer ml_X6_76 (c_X6_noDrawer er1) rfl rfl (by decide) rfl (Nat.le_of_ble_eq_true rfl) dX6_behind_1 ?_
  refine r_if_ne hc (tgt := 31) dX6_behind_4 (by decide) (fun c => ?_) (fun c => ?_)
  · have h := wp_f c h
    refine r_sub [] (lv' := []) rfl ?_
    exact t_X6_behind_b31 hc h
  · have h := wp_t c h
    refine r_iload_n hc 2 rfl rfl dX6_behind_7 ?_
    obtain ⟨r3, σ4, er3, h⟩ := wp_b h
    refine r_callS hc ms_X6_noDrawer ml_X6_76 (c_X6_noDrawer er3) rfl rfl (by decide) rfl (Nat.le_of_ble_eq_true rfl) dX6_behind_8 ?_
    refine r_if_ne hc (tgt := 31) dX6_behind_11 (by decide) (fun c => ?_) (fun c => ?_)
    · have h := wp_f c h
      refine r_sub [] (lv' := []) rfl ?_
      exact t_X6_behind_b31 hc h
    · have h := wp_t c h
      refine r_iload_n hc 3 rfl rfl dX6_behind_14 ?_
      obtain ⟨r5, σ6, er5, h⟩ := wp_b h
      refine r_callS hc ms_X6_noDrawer ml_X6_76 (c_X6_noDrawer er5) rfl rfl (by decide) rfl (Nat.le_of_ble_eq_true rfl) dX6_behind_15 ?_
      refine r_if_ne hc (tgt := 31) dX6_behind_18 (by decide) (fun c => ?_) (fun c => ?_)
      · have h := wp_f c h
        refine r_sub [] (lv' := []) rfl ?_
        exact t_X6_behind_b31 hc h
      · have h := wp_t c h
        refine r_iload hc 4 rfl dX6_behind_21 ?_
        refine r_if_lt hc (tgt := 31) dX6_behind_23 (by decide) (fun c => ?_) (fun c => ?_)
        · have h := wp_t c h
          refine r_sub [] (lv' := []) rfl ?_
          exact t_X6_behind_b31 hc h
        · have h := wp_f c h
          refine r_iload hc 5 rfl dX6_behind_26 ?_
          refine r_if_ge hc (tgt := 33) dX6_behind_28 (by decide) (fun c => ?_) (fun c => ?_)
          · have h := wp_t c h
            refine r_aload_n hc 0 rfl rfl dX6_behind_33 ?_
            refine r_iload_n hc 1 rfl rfl dX6_behind_34 ?_
            obtain ⟨_, ek9, h⟩ := wp_g h
            obtain ⟨r7, σ8, er7, h⟩ := wp_b h
            refine r_callV hc (k0 := x0) mv_X6_in ml_X6_91 (c_X6_in er7) (chk_of ek9) cls_6.1 rfl rfl rfl (by decide) rfl (Nat.le_of_ble_eq_true rfl) dX6_behind_35 ?_
            obtain ⟨_, ek12, h⟩ := wp_g h
            obtain ⟨r10, σ11, er10, h⟩ := wp_b h
            refine r_callV hc (k0 := r7) mv_X1_isEmpty ml_X6_109 (c_X1_isEmpty er10) (chk_of ek12) cls_1.1 rfl rfl rfl (by decide) rfl (Nat.le_of_ble_eq_true rfl) dX6_behind_38 ?_
            refine r_if_ne hc (tgt := 66) dX6_behind_41 (by decide) (fun c => ?_) (fun c => ?_)
            · have h := wp_f c h
              refine r_sub [] (lv' := []) rfl ?_
              exact t_X6_behind_b66 hc h
            · have h := wp_t c h
              refine r_aload_n hc 0 rfl rfl dX6_behind_44 ?_
              refine r_iload_n hc 2 rfl rfl dX6_behind_45 ?_
              obtain ⟨_, ek15, h⟩ := wp_g h
              obtain ⟨r13, σ14, er13, h⟩ := wp_b h
              refine r_callV hc (k0 := x0) mv_X6_in ml_X6_91 (c_X6_in er13) (chk_of ek15) cls_6.1 rfl rfl rfl (by decide) rfl (Nat.le_of_ble_eq_true rfl) dX6_behind_46 ?_
              obtain ⟨_, ek18, h⟩ := wp_g h
              obtain ⟨r16, σ17, er16, h⟩ := wp_b h
              refine r_callV hc (k0 := r13) mv_X1_isEmpty ml_X6_109 (c_X1_isEmpty er16) (chk_of ek18) cls_1.1 rfl rfl rfl (by decide) rfl (Nat.le_of_ble_eq_true rfl) dX6_behind_49 ?_
              refine r_if_ne hc (tgt := 66) dX6_behind_52 (by decide) (fun c => ?_) (fun c => ?_)
              · have h := wp_f c h
                refine r_sub [] (lv' := []) rfl ?_
                exact t_X6_behind_b66 hc h
              · have h := wp_t c h
                refine r_aload_n hc 0 rfl rfl dX6_behind_55 ?_
                refine r_iload_n hc 3 rfl rfl dX6_behind_56 ?_
                obtain ⟨_, ek21, h⟩ := wp_g h
                obtain ⟨r19, σ20, er19, h⟩ := wp_b h
                refine r_callV hc (k0 := x0) mv_X6_in ml_X6_91 (c_X6_in er19) (chk_of ek21) cls_6.1 rfl rfl rfl (by decide) rfl (Nat.le_of_ble_eq_true rfl) dX6_behind_57 ?_
                obtain ⟨_, ek24, h⟩ := wp_g h
                obtain ⟨r22, σ23, er22, h⟩ := wp_b h
                refine r_callV hc (k0 := r19) mv_X1_isEmpty ml_X6_109 (c_X1_isEmpty er22) (chk_of ek24) cls_1.1 rfl rfl rfl (by decide) rfl (Nat.le_of_ble_eq_true rfl) dX6_behind_60 ?_
                refine r_if_eq hc (tgt := 69) dX6_behind_63 (by decide) (fun c => ?_) (fun c => ?_)
                · have h := wp_t c h
                  refine r_aload_n hc 0 rfl rfl dX6_behind_69 ?_
                  obtain ⟨v25, ev25, h⟩ := wp_g h
                  refine r_getR hc ev25 fl_X6_41 rfl dX6_behind_70 ?_
                  refine r_aload_n hc 0 rfl rfl dX6_behind_73 ?_
                  refine r_iload_n hc 1 rfl rfl dX6_behind_74 ?_
                  obtain ⟨_, ek28, h⟩ := wp_g h
                  obtain ⟨r26, σ27, er26, h⟩ := wp_b h
                  refine r_callV hc (k0 := x0) mv_X6_in ml_X6_91 (c_X6_in er26) (chk_of ek28) cls_6.1 rfl rfl rfl (by decide) rfl (Nat.le_of_ble_eq_true rfl) dX6_behind_75 ?_
                  refine r_aload_n hc 0 rfl rfl dX6_behind_78 ?_
                  refine r_iload_n hc 2 rfl rfl dX6_behind_79 ?_
                  obtain ⟨_, ek31, h⟩ := wp_g h
                  obtain ⟨r29, σ30, er29, h⟩ := wp_b h
                  refine r_callV hc (k0 := x0) mv_X6_in ml_X6_91 (c_X6_in er29) (chk_of ek31) cls_6.1 rfl rfl rfl (by decide) rfl (Nat.le_of_ble_eq_true rfl) dX6_behind_80 ?_
                  obtain ⟨_, ek34, h⟩ := wp_g h
                  obtain ⟨_, σ33, er32, h⟩ := wp_b h
                  refine r_callV hc (k0 := v25) mv_X4_freely ml_X6_216 (c_X4_freely er32) (chk_of ek34) cls_4.1 rfl rfl rfl (by decide) rfl (Nat.le_of_ble_eq_true rfl) dX6_behind_83 ?_
                  refine r_aload_n hc 0 rfl rfl dX6_behind_86 ?_
                  obtain ⟨v35, ev35, h⟩ := wp_g h
                  refine r_getR hc ev35 fl_X6_41 rfl dX6_behind_87 ?_
                  refine r_iload hc 4 rfl dX6_behind_90 ?_
                  obtain ⟨_, ek38, h⟩ := wp_g h
                  obtain ⟨r36, σ37, er36, h⟩ := wp_b h
                  refine r_callV hc (k0 := v35) mv_X4_pick ml_X6_233 (c_X4_pick er36) (chk_of ek38) cls_4.1 rfl rfl rfl (by decide) rfl (Nat.le_of_ble_eq_true rfl) dX6_behind_92 ?_
                  refine r_if_ne hc (tgt := 101) dX6_behind_95 (by decide) (fun c => ?_) (fun c => ?_)
                  · have h := wp_f c h
                    refine r_aload_n hc 0 rfl rfl dX6_behind_101 ?_
                    refine r_aload_n hc 0 rfl rfl dX6_behind_102 ?_
                    obtain ⟨v39, ev39, h⟩ := wp_g h
                    refine r_getR hc ev39 fl_X6_59 rfl dX6_behind_103 ?_
                    obtain ⟨_, ek42, h⟩ := wp_g h
                    obtain ⟨_, σ41, er40, h⟩ := wp_b h
                    refine r_callV hc (k0 := x0) mv_X6_copyImage ml_X6_258 (c_X6_copyImage er40) (chk_of ek42) cls_6.1 rfl rfl rfl (by decide) rfl (Nat.le_of_ble_eq_true rfl) dX6_behind_106 ?_
                    refine r_aload_n hc 0 rfl rfl dX6_behind_109 ?_
                    obtain ⟨v43, ev43, h⟩ := wp_g h
                    refine r_getR hc ev43 fl_X6_41 rfl dX6_behind_110 ?_
                    refine r_aload_n hc 0 rfl rfl dX6_behind_113 ?_
                    refine r_iload_n hc 2 rfl rfl dX6_behind_114 ?_
                    obtain ⟨_, ek46, h⟩ := wp_g h
                    obtain ⟨r44, σ45, er44, h⟩ := wp_b h
                    refine r_callV hc (k0 := x0) mv_X6_in ml_X6_91 (c_X6_in er44) (chk_of ek46) cls_6.1 rfl rfl rfl (by decide) rfl (Nat.le_of_ble_eq_true rfl) dX6_behind_115 ?_
                    refine r_aload_n hc 0 rfl rfl dX6_behind_118 ?_
                    refine r_iload_n hc 3 rfl rfl dX6_behind_119 ?_
                    obtain ⟨_, ek49, h⟩ := wp_g h
                    obtain ⟨r47, σ48, er47, h⟩ := wp_b h
                    refine r_callV hc (k0 := x0) mv_X6_in ml_X6_91 (c_X6_in er47) (chk_of ek49) cls_6.1 rfl rfl rfl (by decide) rfl (Nat.le_of_ble_eq_true rfl) dX6_behind_120 ?_
                    obtain ⟨_, ek52, h⟩ := wp_g h
                    obtain ⟨_, σ51, er50, h⟩ := wp_b h
                    refine r_callV hc (k0 := v43) mv_X4_freely ml_X6_216 (c_X4_freely er50) (chk_of ek52) cls_4.1 rfl rfl rfl (by decide) rfl (Nat.le_of_ble_eq_true rfl) dX6_behind_123 ?_
                    refine r_aload_n hc 0 rfl rfl dX6_behind_126 ?_
                    obtain ⟨v53, ev53, h⟩ := wp_g h
                    refine r_getR hc ev53 fl_X6_41 rfl dX6_behind_127 ?_
                    refine r_iload hc 5 rfl dX6_behind_130 ?_
                    obtain ⟨_, ek56, h⟩ := wp_g h
                    obtain ⟨r54, σ55, er54, h⟩ := wp_b h
                    refine r_callV hc (k0 := v53) mv_X4_pick ml_X6_233 (c_X4_pick er54) (chk_of ek56) cls_4.1 rfl rfl rfl (by decide) rfl (Nat.le_of_ble_eq_true rfl) dX6_behind_132 ?_
                    refine r_if_ne hc (tgt := 141) dX6_behind_135 (by decide) (fun c => ?_) (fun c => ?_)
                    · have h := wp_f c h
                      refine r_iconst hc (v := 0) (by decide) dX6_behind_141 ?_
                      refine r_istoreE hc (i := 6) (lv' := [(6, .int 0), (0, .ref (ad x0)), (1, .int x1), (2, .int x2), (3, .int x3), (4, .int x4), (5, .int x5)]) rfl (by decide) rfl dX6_behind_142 ?_
                      refine r_sub [1, 2, 4, 0] (lv' := [(0, .ref (ad x0)), (1, .int x1), (3, .int x3), (6, .int 0)]) rfl ?_
                      refine t_X6_behind_L144 hc (wp_bb h) ?_
                      · intro y57 σ58 h
                        refine r_aload_n hc 0 rfl rfl dX6_behind_185 ?_
                        obtain ⟨v59, ev59, h⟩ := wp_g h
                        refine r_getR hc ev59 fl_X6_41 rfl dX6_behind_186 ?_
                        refine r_aload_n hc 0 rfl rfl dX6_behind_189 ?_
                        refine r_iload_n hc 1 rfl rfl dX6_behind_190 ?_
                        obtain ⟨_, ek62, h⟩ := wp_g h
                        obtain ⟨r60, σ61, er60, h⟩ := wp_b h
                        refine r_callV hc (k0 := x0) mv_X6_in ml_X6_91 (c_X6_in er60) (chk_of ek62) cls_6.1 rfl rfl rfl (by decide) rfl (Nat.le_of_ble_eq_true rfl) dX6_behind_191 ?_
                        refine r_aload_n hc 0 rfl rfl dX6_behind_194 ?_
                        refine r_iload_n hc 2 rfl rfl dX6_behind_195 ?_
                        obtain ⟨_, ek65, h⟩ := wp_g h
                        obtain ⟨r63, σ64, er63, h⟩ := wp_b h
                        refine r_callV hc (k0 := x0) mv_X6_in ml_X6_91 (c_X6_in er63) (chk_of ek65) cls_6.1 rfl rfl rfl (by decide) rfl (Nat.le_of_ble_eq_true rfl) dX6_behind_196 ?_
                        obtain ⟨_, ek68, h⟩ := wp_g h
                        obtain ⟨_, σ67, er66, h⟩ := wp_b h
                        refine r_callV hc (k0 := v59) mv_X4_freely ml_X6_216 (c_X4_freely er66) (chk_of ek68) cls_4.1 rfl rfl rfl (by decide) rfl (Nat.le_of_ble_eq_true rfl) dX6_behind_199 ?_
                        refine r_aload_n hc 0 rfl rfl dX6_behind_202 ?_
                        obtain ⟨v69, ev69, h⟩ := wp_g h
                        refine r_getR hc ev69 fl_X6_41 rfl dX6_behind_203 ?_
                        refine r_aload_n hc 0 rfl rfl dX6_behind_206 ?_
                        obtain ⟨v70, ev70, h⟩ := wp_g h
                        refine r_getR hc ev70 fl_X6_59 rfl dX6_behind_207 ?_
                        obtain ⟨_, ek73, h⟩ := wp_g h
                        obtain ⟨r71, σ72, er71, h⟩ := wp_b h
                        refine r_callV hc (k0 := v69) mv_X4_numberOf ml_X6_262 (c_X4_numberOf er71) (chk_of ek73) cls_4.1 rfl rfl rfl (by decide) rfl (Nat.le_of_ble_eq_true rfl) dX6_behind_210 ?_
                        have h := wp_v h
                        exact r_iret hc h dX6_behind_213
                    · have h := wp_t c h
                      refine r_bipush hc (v := (-3)) (by decide) dX6_behind_138 ?_
                      have h := wp_v h
                      exact r_iret hc h dX6_behind_140
                  · have h := wp_t c h
                    refine r_bipush hc (v := (-3)) (by decide) dX6_behind_98 ?_
                    have h := wp_v h
                    exact r_iret hc h dX6_behind_100
                · have h := wp_f c h
                  refine r_sub [] (lv' := []) rfl ?_
                  exact t_X6_behind_b66 hc h
          · have h := wp_f c h
            refine r_sub [] (lv' := []) rfl ?_
            exact t_X6_behind_b31 hc h
theorem c_X6_behind {l : Launch} {x0 : Nat} {x1 : Int32} {x2 : Int32} {x3 : Int32} {x4 : Int32} {x5 : Int32} {σ σ' : Hp} {r : Int32} (h : f_X6_behind x0 x1 x2 x3 x4 x5 σ = some (r, σ')) : Mt l yX6_behind cX6_behind 7 (some .int) 35 shC (fun ad => [.ref (ad x0), .int x1, .int x2, .int x3, .int x4, .int x5]) σ (fun ad => some (.int r)) σ' := mt_i (own := RX6) (by decide) rfl (fun _ => Nat.le_of_ble_eq_true rfl) (fun γ ad K hc hk => t_X6_behind hc ⟨_, _, h, hk⟩)

-- NetMaps.retracts(LNetMaps$Net;)I
theorem dX6_retracts_0 : decode cX6_retracts 0 = .ok (.iconst 0, 1) := by decide +kernel
theorem dX6_retracts_1 : decode cX6_retracts 1 = .ok (.istore_n 2, 1) := by decide +kernel
theorem dX6_retracts_2 : decode cX6_retracts 2 = .ok (.iconst 1, 1) := by decide +kernel
theorem dX6_retracts_3 : decode cX6_retracts 3 = .ok (.istore_n 3, 1) := by decide +kernel
theorem dX6_retracts_4 : decode cX6_retracts 4 = .ok (.iload_n 3, 1) := by decide +kernel
theorem dX6_retracts_5 : decode cX6_retracts 5 = .ok (.aload_n 1, 1) := by decide +kernel
theorem dX6_retracts_6 : decode cX6_retracts 6 = .ok (.invokevirtual 206, 3) := by decide +kernel
theorem dX6_retracts_9 : decode cX6_retracts 9 = .ok (.if_icmp .gt 21, 3) := by decide +kernel
theorem dX6_retracts_12 : decode cX6_retracts 12 = .ok (.aload_n 0, 1) := by decide +kernel
theorem dX6_retracts_13 : decode cX6_retracts 13 = .ok (.aload_n 1, 1) := by decide +kernel
theorem dX6_retracts_14 : decode cX6_retracts 14 = .ok (.iload_n 3, 1) := by decide +kernel
theorem dX6_retracts_15 : decode cX6_retracts 15 = .ok (.invokevirtual 288, 3) := by decide +kernel
theorem dX6_retracts_18 : decode cX6_retracts 18 = .ok (.ifCond .eq 6, 3) := by decide +kernel
theorem dX6_retracts_21 : decode cX6_retracts 21 = .ok (.iinc 2 1, 3) := by decide +kernel
theorem dX6_retracts_24 : decode cX6_retracts 24 = .ok (.iinc 3 1, 3) := by decide +kernel
theorem dX6_retracts_27 : decode cX6_retracts 27 = .ok (.goto (-23), 3) := by decide +kernel
theorem dX6_retracts_30 : decode cX6_retracts 30 = .ok (.iload_n 2, 1) := by decide +kernel
theorem dX6_retracts_31 : decode cX6_retracts 31 = .ok (.ireturn, 1) := by decide +kernel
noncomputable def f_X6_retracts_b24 (x0 : Nat) (x1 : Nat) (x2 : Int32) (x3 : Int32) (σ : Hp) : Option (((Int32 × Int32) ⊕ (Int32)) × Hp) := some (Sum.inl (x2, (x3 + 1)), σ)
set_option maxRecDepth 100000 in
set_option maxHeartbeats 4000000 in
theorem t_X6_retracts_b24 {l : Launch} {γ : Gm} {ad : Nat → Nat} {K : Option Value → Hp → Prop} (hc : Cx l γ 36 4 ad shC RX6 cX6_retracts (some .int) K) {x0 : Nat} {x1 : Nat} {x2 : Int32} {x3 : Int32}  {σ : Hp} {KL : ((Int32 × Int32) ⊕ (Int32)) → Hp → Prop} (h : wpO (f_X6_retracts_b24 x0 x1 x2 x3 σ) KL) (kn : ∀ (v : (Int32 × Int32)) (σ : Hp), KL (Sum.inl v) σ → WW l γ 36 4 ad shC 4 [(0, .ref (ad x0)), (1, .ref (ad x1)), (2, .int v.1), (3, .int v.2)] [] σ) (kx30 : ∀ (v : Int32) (σ : Hp), KL (Sum.inr v) σ → WW l γ 36 4 ad shC 30 [(2, .int v)] [] σ) : WW l γ 36 4 ad shC 24 [(0, .ref (ad x0)), (1, .ref (ad x1)), (2, .int x2), (3, .int x3)] [] σ := by
  unfold f_X6_retracts_b24 at h
  refine r_iincE hc (j := 3) (w := 1) (lv' := [(3, .int (x3 + 1)), (0, .ref (ad x0)), (1, .ref (ad x1)), (2, .int x2)]) rfl (by decide) rfl (by decide) rfl dX6_retracts_24 ?_
  refine r_goto hc (tgt := 4) dX6_retracts_27 (by decide) ?_
  refine r_sub [1, 2, 3, 0] (lv' := [(0, .ref (ad x0)), (1, .ref (ad x1)), (2, .int x2), (3, .int (x3 + 1))]) rfl ?_
  have h := wp_v h
  exact kn (x2, (x3 + 1)) _ h
noncomputable def f_X6_retracts_L4 (x0 : Nat) (x1 : Nat) (v : (Int32 × Int32)) (σ : Hp) : Option (((Int32 × Int32) ⊕ (Int32)) × Hp) := gO (chk shC x1 1) fun _ => bO (f_X1_all x1 σ) fun r1 σ2 => if r1 < v.2 then (some (Sum.inr v.1, σ2)) else (gO (chk shC x0 6) fun _ => bO (f_X6_retractsOnto x0 x1 v.2 σ2) fun r4 σ5 => if r4 = 0 then (f_X6_retracts_b24 x0 x1 v.1 v.2 σ5) else (f_X6_retracts_b24 x0 x1 (v.1 + 1) v.2 σ5))
set_option maxRecDepth 100000 in
set_option maxHeartbeats 4000000 in
theorem t_X6_retracts_L4 {l : Launch} {γ : Gm} {ad : Nat → Nat} {K : Option Value → Hp → Prop}  (hc : Cx l γ 36 4 ad shC RX6 cX6_retracts (some .int) K) {x0 : Nat} {x1 : Nat} {v : (Int32 × Int32)} {σ : Hp} {KX : (Int32) → Hp → Prop} (h : wpO (wh (f_X6_retracts_L4 x0 x1) v σ) KX) (kx30 : ∀ (v : Int32) (σ : Hp), KX v σ → WW l γ 36 4 ad shC 30 [(2, .int v)] [] σ) : WW l γ 36 4 ad shC 4 [(0, .ref (ad x0)), (1, .ref (ad x1)), (2, .int v.1), (3, .int v.2)] [] σ := by
  refine wh_W (P := fun v σ => WW l γ 36 4 ad shC 4 [(0, .ref (ad x0)), (1, .ref (ad x1)), (2, .int v.1), (3, .int v.2)] [] σ) (fun v σ h => ?_) h
  have kn : ∀ (v : (Int32 × Int32)) (σ : Hp), WW l γ 36 4 ad shC 4 [(0, .ref (ad x0)), (1, .ref (ad x1)), (2, .int v.1), (3, .int v.2)] [] σ → WW l γ 36 4 ad shC 4 [(0, .ref (ad x0)), (1, .ref (ad x1)), (2, .int v.1), (3, .int v.2)] [] σ := fun _ _ h => h
  · unfold f_X6_retracts_L4 at h
    refine r_iload_n hc 3 rfl rfl dX6_retracts_4 ?_
    refine r_aload_n hc 1 rfl rfl dX6_retracts_5 ?_
    obtain ⟨_, ek3, h⟩ := wp_g h
    obtain ⟨r1, σ2, er1, h⟩ := wp_b h
    refine r_callV hc (k0 := x1) mv_X1_all ml_X6_206 (c_X1_all er1) (chk_of ek3) cls_1.1 rfl rfl rfl (by decide) rfl (Nat.le_of_ble_eq_true rfl) dX6_retracts_6 ?_
    refine r_icmp_gt hc (tgt := 30) dX6_retracts_9 (by decide) (fun c => ?_) (fun c => ?_)
    · have h := wp_t c h
      refine r_sub [2] (lv' := [(2, .int v.1)]) rfl ?_
      have h := wp_v h
      exact kx30 v.1 _ h
    · have h := wp_f c h
      refine r_aload_n hc 0 rfl rfl dX6_retracts_12 ?_
      refine r_aload_n hc 1 rfl rfl dX6_retracts_13 ?_
      refine r_iload_n hc 3 rfl rfl dX6_retracts_14 ?_
      obtain ⟨_, ek6, h⟩ := wp_g h
      obtain ⟨r4, σ5, er4, h⟩ := wp_b h
      refine r_callV hc (k0 := x0) mv_X6_retractsOnto ml_X6_288 (c_X6_retractsOnto er4) (chk_of ek6) cls_6.1 rfl rfl rfl (by decide) rfl (Nat.le_of_ble_eq_true rfl) dX6_retracts_15 ?_
      refine r_if_eq hc (tgt := 24) dX6_retracts_18 (by decide) (fun c => ?_) (fun c => ?_)
      · have h := wp_t c h
        exact t_X6_retracts_b24 hc h kn kx30
      · have h := wp_f c h
        refine r_iincE hc (j := 2) (w := 1) (lv' := [(2, .int (v.1 + 1)), (0, .ref (ad x0)), (1, .ref (ad x1)), (3, .int v.2)]) rfl (by decide) rfl (by decide) rfl dX6_retracts_21 ?_
        refine r_sub [1, 2, 0, 3] (lv' := [(0, .ref (ad x0)), (1, .ref (ad x1)), (2, .int (v.1 + 1)), (3, .int v.2)]) rfl ?_
        exact t_X6_retracts_b24 hc h kn kx30
noncomputable def f_X6_retracts (x0 : Nat) (x1 : Nat) (σ : Hp) : Option (Int32 × Hp) := bO (wh (f_X6_retracts_L4 x0 x1) (0, 1) σ) fun y1 σ2 => (some (y1, σ2))
set_option maxRecDepth 100000 in
set_option maxHeartbeats 4000000 in
theorem t_X6_retracts {l : Launch} {γ : Gm} {ad : Nat → Nat} {K : Option Value → Hp → Prop} (hc : Cx l γ 36 4 ad shC RX6 cX6_retracts (some .int) K) {x0 : Nat} {x1 : Nat} {σ : Hp} (h : wpO (f_X6_retracts x0 x1 σ) (KI K)) : WW l γ 36 4 ad shC 0 [(0, .ref (ad x0)), (1, .ref (ad x1))] [] σ := by
  unfold f_X6_retracts at h
  refine r_iconst hc (v := 0) (by decide) dX6_retracts_0 ?_
  refine r_istore_nE hc (i := 2) (lv' := [(2, .int 0), (0, .ref (ad x0)), (1, .ref (ad x1))]) rfl rfl (by decide) rfl dX6_retracts_1 ?_
  refine r_iconst hc (v := 1) (by decide) dX6_retracts_2 ?_
  refine r_istore_nE hc (i := 3) (lv' := [(3, .int 1), (2, .int 0), (0, .ref (ad x0)), (1, .ref (ad x1))]) rfl rfl (by decide) rfl dX6_retracts_3 ?_
  refine r_sub [2, 3, 1, 0] (lv' := [(0, .ref (ad x0)), (1, .ref (ad x1)), (2, .int 0), (3, .int 1)]) rfl ?_
  refine t_X6_retracts_L4 hc (wp_bb h) ?_
  · intro y1 σ2 h
    refine r_iload_n hc 0 rfl rfl dX6_retracts_30 ?_
    have h := wp_v h
    exact r_iret hc h dX6_retracts_31
theorem c_X6_retracts {l : Launch} {x0 : Nat} {x1 : Nat} {σ σ' : Hp} {r : Int32} (h : f_X6_retracts x0 x1 σ = some (r, σ')) : Mt l yX6_retracts cX6_retracts 4 (some .int) 36 shC (fun ad => [.ref (ad x0), .ref (ad x1)]) σ (fun ad => some (.int r)) σ' := mt_i (own := RX6) (by decide) rfl (fun _ => Nat.le_of_ble_eq_true rfl) (fun γ ad K hc hk => t_X6_retracts hc ⟨_, _, h, hk⟩)

-- NetMaps$Search.byRetraction(LNetMaps$Net;)V
theorem dX4_byRetraction_0 : decode cX4_byRetraction 0 = .ok (.aload_n 0, 1) := by decide +kernel
theorem dX4_byRetraction_1 : decode cX4_byRetraction 1 = .ok (.aload_n 1, 1) := by decide +kernel
theorem dX4_byRetraction_2 : decode cX4_byRetraction 2 = .ok (.aload_n 1, 1) := by decide +kernel
theorem dX4_byRetraction_3 : decode cX4_byRetraction 3 = .ok (.invokevirtual 51, 3) := by decide +kernel
theorem dX4_byRetraction_6 : decode cX4_byRetraction 6 = .ok (.aload_n 0, 1) := by decide +kernel
theorem dX4_byRetraction_7 : decode cX4_byRetraction 7 = .ok (.iconst 1, 1) := by decide +kernel
theorem dX4_byRetraction_8 : decode cX4_byRetraction 8 = .ok (.putfield 28, 3) := by decide +kernel
theorem dX4_byRetraction_11 : decode cX4_byRetraction 11 = .ok (.return_, 1) := by decide +kernel
noncomputable def f_X4_byRetraction (x0 : Nat) (x1 : Nat) (σ : Hp) : Option (Unit × Hp) := gO (chk shC x0 4) fun _ => bO (f_X4_freely x0 x1 x1 σ) fun _ σ2 => gO (putZ shC 4 x0 8 1 σ2) fun σ4 => some ((), σ4)
set_option maxRecDepth 100000 in
set_option maxHeartbeats 4000000 in
theorem t_X4_byRetraction {l : Launch} {γ : Gm} {ad : Nat → Nat} {K : Option Value → Hp → Prop} (hc : Cx l γ 4 2 ad shC RX4 cX4_byRetraction none K) {x0 : Nat} {x1 : Nat} {σ : Hp} (h : wpO (f_X4_byRetraction x0 x1 σ) (KU K)) : WW l γ 4 2 ad shC 0 [(0, .ref (ad x0)), (1, .ref (ad x1))] [] σ := by
  unfold f_X4_byRetraction at h
  refine r_aload_n hc 0 rfl rfl dX4_byRetraction_0 ?_
  refine r_aload_n hc 1 rfl rfl dX4_byRetraction_1 ?_
  refine r_aload_n hc 1 rfl rfl dX4_byRetraction_2 ?_
  obtain ⟨_, ek3, h⟩ := wp_g h
  obtain ⟨_, σ2, er1, h⟩ := wp_b h
  refine r_callV hc (k0 := x0) mv_X4_freely ml_X4_51 (c_X4_freely er1) (chk_of ek3) cls_4.1 rfl rfl rfl (by decide) rfl (Nat.le_of_ble_eq_true rfl) dX4_byRetraction_3 ?_
  refine r_aload_n hc 0 rfl rfl dX4_byRetraction_6 ?_
  refine r_iconst hc (v := 1) (by decide) dX4_byRetraction_7 ?_
  obtain ⟨σ4, eσ4, h⟩ := wp_g h
  refine r_putZ hc eσ4 fp_X4_28 rfl dX4_byRetraction_8 ?_
  have h := wp_v h
  exact r_vret hc h dX4_byRetraction_11
theorem c_X4_byRetraction {l : Launch} {x0 : Nat} {x1 : Nat} {σ σ' : Hp} {r : Unit} (h : f_X4_byRetraction x0 x1 σ = some (r, σ')) : Mt l yX4_byRetraction cX4_byRetraction 2 none 4 shC (fun ad => [.ref (ad x0), .ref (ad x1)]) σ (fun ad => none) σ' := mt_i (own := RX4) (by decide) rfl (fun _ => Nat.le_of_ble_eq_true rfl) (fun γ ad K hc hk => t_X4_byRetraction hc ⟨_, _, h, hk⟩)
