-- NetMapsModel.colours(II)I
theorem dX7_colours_0 : decode cX7_colours 0 = .ok (.iload_n 1, 1) := by decide +kernel
theorem dX7_colours_1 : decode cX7_colours 1 = .ok (.invokestatic 132, 3) := by decide +kernel
theorem dX7_colours_4 : decode cX7_colours 4 = .ok (.ifCond .eq 13, 3) := by decide +kernel
theorem dX7_colours_7 : decode cX7_colours 7 = .ok (.iload_n 2, 1) := by decide +kernel
theorem dX7_colours_8 : decode cX7_colours 8 = .ok (.iconst 1, 1) := by decide +kernel
theorem dX7_colours_9 : decode cX7_colours 9 = .ok (.bipush 7, 2) := by decide +kernel
theorem dX7_colours_11 : decode cX7_colours 11 = .ok (.invokestatic 81, 3) := by decide +kernel
theorem dX7_colours_14 : decode cX7_colours 14 = .ok (.ifCond .ne 5, 3) := by decide +kernel
theorem dX7_colours_17 : decode cX7_colours 17 = .ok (.iconst (-1), 1) := by decide +kernel
theorem dX7_colours_18 : decode cX7_colours 18 = .ok (.ireturn, 1) := by decide +kernel
theorem dX7_colours_19 : decode cX7_colours 19 = .ok (.aload_n 0, 1) := by decide +kernel
theorem dX7_colours_20 : decode cX7_colours 20 = .ok (.iload_n 1, 1) := by decide +kernel
theorem dX7_colours_21 : decode cX7_colours 21 = .ok (.invokevirtual 85, 3) := by decide +kernel
theorem dX7_colours_24 : decode cX7_colours 24 = .ok (.ifCond .eq 6, 3) := by decide +kernel
theorem dX7_colours_27 : decode cX7_colours 27 = .ok (.bipush (-2), 2) := by decide +kernel
theorem dX7_colours_29 : decode cX7_colours 29 = .ok (.ireturn, 1) := by decide +kernel
theorem dX7_colours_30 : decode cX7_colours 30 = .ok (.aload_n 0, 1) := by decide +kernel
theorem dX7_colours_31 : decode cX7_colours 31 = .ok (.bipush 6, 2) := by decide +kernel
theorem dX7_colours_33 : decode cX7_colours 33 = .ok (.iload_n 2, 1) := by decide +kernel
theorem dX7_colours_34 : decode cX7_colours 34 = .ok (.invokevirtual 121, 3) := by decide +kernel
theorem dX7_colours_37 : decode cX7_colours 37 = .ok (.iconst 0, 1) := by decide +kernel
theorem dX7_colours_38 : decode cX7_colours 38 = .ok (.istore_n 3, 1) := by decide +kernel
theorem dX7_colours_39 : decode cX7_colours 39 = .ok (.iload_n 3, 1) := by decide +kernel
theorem dX7_colours_40 : decode cX7_colours 40 = .ok (.iload_n 2, 1) := by decide +kernel
theorem dX7_colours_41 : decode cX7_colours 41 = .ok (.if_icmp .ge 40, 3) := by decide +kernel
theorem dX7_colours_44 : decode cX7_colours 44 = .ok (.iconst 0, 1) := by decide +kernel
theorem dX7_colours_45 : decode cX7_colours 45 = .ok (.istore 4, 2) := by decide +kernel
theorem dX7_colours_47 : decode cX7_colours 47 = .ok (.iload 4, 2) := by decide +kernel
theorem dX7_colours_49 : decode cX7_colours 49 = .ok (.iload_n 2, 1) := by decide +kernel
theorem dX7_colours_50 : decode cX7_colours 50 = .ok (.if_icmp .ge 25, 3) := by decide +kernel
theorem dX7_colours_53 : decode cX7_colours 53 = .ok (.iload_n 3, 1) := by decide +kernel
theorem dX7_colours_54 : decode cX7_colours 54 = .ok (.iload 4, 2) := by decide +kernel
theorem dX7_colours_56 : decode cX7_colours 56 = .ok (.if_icmp .eq 13, 3) := by decide +kernel
theorem dX7_colours_59 : decode cX7_colours 59 = .ok (.aload_n 0, 1) := by decide +kernel
theorem dX7_colours_60 : decode cX7_colours 60 = .ok (.bipush 6, 2) := by decide +kernel
theorem dX7_colours_62 : decode cX7_colours 62 = .ok (.iload_n 3, 1) := by decide +kernel
theorem dX7_colours_63 : decode cX7_colours 63 = .ok (.iload 4, 2) := by decide +kernel
theorem dX7_colours_65 : decode cX7_colours 65 = .ok (.iconst 1, 1) := by decide +kernel
theorem dX7_colours_66 : decode cX7_colours 66 = .ok (.invokevirtual 128, 3) := by decide +kernel
theorem dX7_colours_69 : decode cX7_colours 69 = .ok (.iinc 4 1, 3) := by decide +kernel
theorem dX7_colours_72 : decode cX7_colours 72 = .ok (.goto (-25), 3) := by decide +kernel
theorem dX7_colours_75 : decode cX7_colours 75 = .ok (.iinc 3 1, 3) := by decide +kernel
theorem dX7_colours_78 : decode cX7_colours 78 = .ok (.goto (-39), 3) := by decide +kernel
theorem dX7_colours_81 : decode cX7_colours 81 = .ok (.aload_n 0, 1) := by decide +kernel
theorem dX7_colours_82 : decode cX7_colours 82 = .ok (.iload_n 1, 1) := by decide +kernel
theorem dX7_colours_83 : decode cX7_colours 83 = .ok (.bipush 6, 2) := by decide +kernel
theorem dX7_colours_85 : decode cX7_colours 85 = .ok (.iconst 0, 1) := by decide +kernel
theorem dX7_colours_86 : decode cX7_colours 86 = .ok (.invokevirtual 327, 3) := by decide +kernel
theorem dX7_colours_89 : decode cX7_colours 89 = .ok (.ireturn, 1) := by decide +kernel
noncomputable def f_X7_colours_b17  (σ : Hp) : Option (Int32 × Hp) := some ((-1), σ)
set_option maxRecDepth 100000 in
set_option maxHeartbeats 4000000 in
theorem t_X7_colours_b17 {l : Launch} {γ : Gm} {ad : Nat → Nat} {K : Option Value → Hp → Prop} (hc : Cx l γ 6 5 ad shM RX7 cX7_colours (some .int) K)  {σ : Hp} (h : wpO (f_X7_colours_b17  σ) (KI K)) : WW l γ 6 5 ad shM 17 [] [] σ := by
  unfold f_X7_colours_b17 at h
  refine r_iconst hc (v := (-1)) (by decide) dX7_colours_17 ?_
  have h := wp_v h
  exact r_iret hc h dX7_colours_18
noncomputable def f_X7_colours_b69 (x0 : Nat) (x1 : Int32) (x2 : Int32) (x3 : Int32) (x4 : Int32) (σ : Hp) : Option (((Int32) ⊕ (Unit)) × Hp) := some (Sum.inl (x4 + 1), σ)
set_option maxRecDepth 100000 in
set_option maxHeartbeats 4000000 in
theorem t_X7_colours_b69 {l : Launch} {γ : Gm} {ad : Nat → Nat} {K : Option Value → Hp → Prop} (hc : Cx l γ 6 5 ad shM RX7 cX7_colours (some .int) K) {x0 : Nat} {x1 : Int32} {x2 : Int32} {x3 : Int32} {x4 : Int32}  {σ : Hp} {KL : ((Int32) ⊕ (Unit)) → Hp → Prop} (h : wpO (f_X7_colours_b69 x0 x1 x2 x3 x4 σ) KL) (kn : ∀ (v : (Int32)) (σ : Hp), KL (Sum.inl v) σ → WW l γ 6 5 ad shM 47 [(0, .ref (ad x0)), (1, .int x1), (2, .int x2), (3, .int x3), (4, .int v)] [] σ) (kx75 : ∀ (v : Unit) (σ : Hp), KL (Sum.inr v) σ → WW l γ 6 5 ad shM 75 [(0, .ref (ad x0)), (1, .int x1), (2, .int x2), (3, .int x3)] [] σ) : WW l γ 6 5 ad shM 69 [(0, .ref (ad x0)), (1, .int x1), (2, .int x2), (3, .int x3), (4, .int x4)] [] σ := by
  unfold f_X7_colours_b69 at h
  refine r_iincE hc (j := 4) (w := 1) (lv' := [(4, .int (x4 + 1)), (0, .ref (ad x0)), (1, .int x1), (2, .int x2), (3, .int x3)]) rfl (by decide) rfl (by decide) rfl dX7_colours_69 ?_
  refine r_goto hc (tgt := 47) dX7_colours_72 (by decide) ?_
  refine r_sub [1, 2, 3, 4, 0] (lv' := [(0, .ref (ad x0)), (1, .int x1), (2, .int x2), (3, .int x3), (4, .int (x4 + 1))]) rfl ?_
  have h := wp_v h
  exact kn (x4 + 1) _ h
noncomputable def f_X7_colours_L47 (x0 : Nat) (x1 : Int32) (x2 : Int32) (x3 : Int32) (v : (Int32)) (σ : Hp) : Option (((Int32) ⊕ (Unit)) × Hp) := if x2 ≤ v then (some (Sum.inr (), σ)) else (if x3 = v then (f_X7_colours_b69 x0 x1 x2 x3 v σ) else (gO (chk shM x0 7) fun _ => bO (f_X7_sets x0 6 x3 v 1 σ) fun _ σ2 => f_X7_colours_b69 x0 x1 x2 x3 v σ2))
set_option maxRecDepth 100000 in
set_option maxHeartbeats 4000000 in
theorem t_X7_colours_L47 {l : Launch} {γ : Gm} {ad : Nat → Nat} {K : Option Value → Hp → Prop}  (hc : Cx l γ 6 5 ad shM RX7 cX7_colours (some .int) K) {x0 : Nat} {x1 : Int32} {x2 : Int32} {x3 : Int32} {v : (Int32)} {σ : Hp} {KX : (Unit) → Hp → Prop} (h : wpO (wh (f_X7_colours_L47 x0 x1 x2 x3) v σ) KX) (kx75 : ∀ (v : Unit) (σ : Hp), KX v σ → WW l γ 6 5 ad shM 75 [(0, .ref (ad x0)), (1, .int x1), (2, .int x2), (3, .int x3)] [] σ) : WW l γ 6 5 ad shM 47 [(0, .ref (ad x0)), (1, .int x1), (2, .int x2), (3, .int x3), (4, .int v)] [] σ := by
  refine wh_W (P := fun v σ => WW l γ 6 5 ad shM 47 [(0, .ref (ad x0)), (1, .int x1), (2, .int x2), (3, .int x3), (4, .int v)] [] σ) (fun v σ h => ?_) h
  have kn : ∀ (v : (Int32)) (σ : Hp), WW l γ 6 5 ad shM 47 [(0, .ref (ad x0)), (1, .int x1), (2, .int x2), (3, .int x3), (4, .int v)] [] σ → WW l γ 6 5 ad shM 47 [(0, .ref (ad x0)), (1, .int x1), (2, .int x2), (3, .int x3), (4, .int v)] [] σ := fun _ _ h => h
  · unfold f_X7_colours_L47 at h
    refine r_iload hc 4 rfl dX7_colours_47 ?_
    refine r_iload_n hc 2 rfl rfl dX7_colours_49 ?_
    refine r_icmp_ge hc (tgt := 75) dX7_colours_50 (by decide) (fun c => ?_) (fun c => ?_)
    · have h := wp_t c h
      refine r_sub [0, 1, 2, 3] (lv' := [(0, .ref (ad x0)), (1, .int x1), (2, .int x2), (3, .int x3)]) rfl ?_
      have h := wp_v h
      exact kx75 () _ h
    · have h := wp_f c h
      refine r_iload_n hc 3 rfl rfl dX7_colours_53 ?_
      refine r_iload hc 4 rfl dX7_colours_54 ?_
      refine r_icmp_eq hc (tgt := 69) dX7_colours_56 (by decide) (fun c => ?_) (fun c => ?_)
      · have h := wp_t c h
        exact t_X7_colours_b69 hc h kn kx75
      · have h := wp_f c h
        refine r_aload_n hc 0 rfl rfl dX7_colours_59 ?_
        refine r_bipush hc (v := 6) (by decide) dX7_colours_60 ?_
        refine r_iload_n hc 3 rfl rfl dX7_colours_62 ?_
        refine r_iload hc 4 rfl dX7_colours_63 ?_
        refine r_iconst hc (v := 1) (by decide) dX7_colours_65 ?_
        obtain ⟨_, ek3, h⟩ := wp_g h
        obtain ⟨_, σ2, er1, h⟩ := wp_b h
        refine r_callV hc (k0 := x0) mv_X7_sets ml_X7_128 (c_X7_sets er1) (chk_of ek3) cls_7.1 rfl rfl rfl (by decide) rfl (Nat.le_of_ble_eq_true rfl) dX7_colours_66 ?_
        exact t_X7_colours_b69 hc h kn kx75
noncomputable def f_X7_colours_L39 (x0 : Nat) (x1 : Int32) (x2 : Int32) (v : (Int32)) (σ : Hp) : Option (((Int32) ⊕ (Unit)) × Hp) := if x2 ≤ v then (some (Sum.inr (), σ)) else (bO (wh (f_X7_colours_L47 x0 x1 x2 v) 0 σ) fun y1 σ2 => (some (Sum.inl (v + 1), σ2)))
set_option maxRecDepth 100000 in
set_option maxHeartbeats 4000000 in
theorem t_X7_colours_L39 {l : Launch} {γ : Gm} {ad : Nat → Nat} {K : Option Value → Hp → Prop}  (hc : Cx l γ 6 5 ad shM RX7 cX7_colours (some .int) K) {x0 : Nat} {x1 : Int32} {x2 : Int32} {v : (Int32)} {σ : Hp} {KX : (Unit) → Hp → Prop} (h : wpO (wh (f_X7_colours_L39 x0 x1 x2) v σ) KX) (kx81 : ∀ (v : Unit) (σ : Hp), KX v σ → WW l γ 6 5 ad shM 81 [(0, .ref (ad x0)), (1, .int x1)] [] σ) : WW l γ 6 5 ad shM 39 [(0, .ref (ad x0)), (1, .int x1), (2, .int x2), (3, .int v)] [] σ := by
  refine wh_W (P := fun v σ => WW l γ 6 5 ad shM 39 [(0, .ref (ad x0)), (1, .int x1), (2, .int x2), (3, .int v)] [] σ) (fun v σ h => ?_) h
  have kn : ∀ (v : (Int32)) (σ : Hp), WW l γ 6 5 ad shM 39 [(0, .ref (ad x0)), (1, .int x1), (2, .int x2), (3, .int v)] [] σ → WW l γ 6 5 ad shM 39 [(0, .ref (ad x0)), (1, .int x1), (2, .int x2), (3, .int v)] [] σ := fun _ _ h => h
  · unfold f_X7_colours_L39 at h
    refine r_iload_n hc 3 rfl rfl dX7_colours_39 ?_
    refine r_iload_n hc 2 rfl rfl dX7_colours_40 ?_
    refine r_icmp_ge hc (tgt := 81) dX7_colours_41 (by decide) (fun c => ?_) (fun c => ?_)
    · have h := wp_t c h
      refine r_sub [0, 1] (lv' := [(0, .ref (ad x0)), (1, .int x1)]) rfl ?_
      have h := wp_v h
      exact kx81 () _ h
    · have h := wp_f c h
      refine r_iconst hc (v := 0) (by decide) dX7_colours_44 ?_
      refine r_istoreE hc (i := 4) (lv' := [(4, .int 0), (0, .ref (ad x0)), (1, .int x1), (2, .int x2), (3, .int v)]) rfl (by decide) rfl dX7_colours_45 ?_
      refine r_sub [1, 2, 3, 4, 0] (lv' := [(0, .ref (ad x0)), (1, .int x1), (2, .int x2), (3, .int v), (4, .int 0)]) rfl ?_
      refine t_X7_colours_L47 hc (wp_bb h) ?_
      · intro y1 σ2 h
        refine r_iincE hc (j := 3) (w := 1) (lv' := [(3, .int (v + 1)), (0, .ref (ad x0)), (1, .int x1), (2, .int x2)]) rfl (by decide) rfl (by decide) rfl dX7_colours_75 ?_
        refine r_goto hc (tgt := 39) dX7_colours_78 (by decide) ?_
        refine r_sub [1, 2, 3, 0] (lv' := [(0, .ref (ad x0)), (1, .int x1), (2, .int x2), (3, .int (v + 1))]) rfl ?_
        have h := wp_v h
        exact kn (v + 1) _ h
noncomputable def f_X7_colours (x0 : Nat) (x1 : Int32) (x2 : Int32) (σ : Hp) : Option (Int32 × Hp) := bO (f_X7_isDrawer x1 σ) fun r1 σ2 => if r1 = 0 then (f_X7_colours_b17  σ2) else (bO (f_X7_in x2 1 7 σ2) fun r3 σ4 => if r3 = 0 then (f_X7_colours_b17  σ4) else (gO (chk shM x0 7) fun _ => bO (f_X7_isEmpty x0 x1 σ4) fun r5 σ6 => if r5 = 0 then (gO (chk shM x0 7) fun _ => bO (f_X7_begins x0 6 x2 σ6) fun _ σ9 => bO (wh (f_X7_colours_L39 x0 x1 x2) 0 σ9) fun y11 σ12 => (gO (chk shM x0 7) fun _ => bO (f_X7_mapsOf x0 x1 6 0 σ12) fun r13 σ14 => some (r13, σ14))) else (some ((-2), σ6))))
set_option maxRecDepth 100000 in
set_option maxHeartbeats 4000000 in
theorem t_X7_colours {l : Launch} {γ : Gm} {ad : Nat → Nat} {K : Option Value → Hp → Prop} (hc : Cx l γ 6 5 ad shM RX7 cX7_colours (some .int) K) {x0 : Nat} {x1 : Int32} {x2 : Int32} {σ : Hp} (h : wpO (f_X7_colours x0 x1 x2 σ) (KI K)) : WW l γ 6 5 ad shM 0 [(0, .ref (ad x0)), (1, .int x1), (2, .int x2)] [] σ := by
  unfold f_X7_colours at h
  refine r_iload_n hc 1 rfl rfl dX7_colours_0 ?_
  obtain ⟨r1, σ2, er1, h⟩ := wp_b h
  refine r_callS hc ms_X7_isDrawer ml_X7_132 (c_X7_isDrawer er1) rfl rfl (by decide) rfl (Nat.le_of_ble_eq_true rfl) dX7_colours_1 ?_
  refine r_if_eq hc (tgt := 17) dX7_colours_4 (by decide) (fun c => ?_) (fun c => ?_)
  · have h := wp_t c h
    refine r_sub [] (lv' := []) rfl ?_
    exact t_X7_colours_b17 hc h
  · have h := wp_f c h
    refine r_iload_n hc 2 rfl rfl dX7_colours_7 ?_
    refine r_iconst hc (v := 1) (by decide) dX7_colours_8 ?_
    refine r_bipush hc (v := 7) (by decide) dX7_colours_9 ?_
    obtain ⟨r3, σ4, er3, h⟩ := wp_b h
    refine r_callS hc ms_X7_in ml_X7_81 (c_X7_in er3) rfl rfl (by decide) rfl (Nat.le_of_ble_eq_true rfl) dX7_colours_11 ?_
    refine r_if_ne hc (tgt := 19) dX7_colours_14 (by decide) (fun c => ?_) (fun c => ?_)
    · have h := wp_f c h
      refine r_aload_n hc 0 rfl rfl dX7_colours_19 ?_
      refine r_iload_n hc 1 rfl rfl dX7_colours_20 ?_
      obtain ⟨_, ek7, h⟩ := wp_g h
      obtain ⟨r5, σ6, er5, h⟩ := wp_b h
      refine r_callV hc (k0 := x0) mv_X7_isEmpty ml_X7_85 (c_X7_isEmpty er5) (chk_of ek7) cls_7.1 rfl rfl rfl (by decide) rfl (Nat.le_of_ble_eq_true rfl) dX7_colours_21 ?_
      refine r_if_eq hc (tgt := 30) dX7_colours_24 (by decide) (fun c => ?_) (fun c => ?_)
      · have h := wp_t c h
        refine r_aload_n hc 0 rfl rfl dX7_colours_30 ?_
        refine r_bipush hc (v := 6) (by decide) dX7_colours_31 ?_
        refine r_iload_n hc 2 rfl rfl dX7_colours_33 ?_
        obtain ⟨_, ek10, h⟩ := wp_g h
        obtain ⟨_, σ9, er8, h⟩ := wp_b h
        refine r_callV hc (k0 := x0) mv_X7_begins ml_X7_121 (c_X7_begins er8) (chk_of ek10) cls_7.1 rfl rfl rfl (by decide) rfl (Nat.le_of_ble_eq_true rfl) dX7_colours_34 ?_
        refine r_iconst hc (v := 0) (by decide) dX7_colours_37 ?_
        refine r_istore_nE hc (i := 3) (lv' := [(3, .int 0), (0, .ref (ad x0)), (1, .int x1), (2, .int x2)]) rfl rfl (by decide) rfl dX7_colours_38 ?_
        refine r_sub [1, 2, 3, 0] (lv' := [(0, .ref (ad x0)), (1, .int x1), (2, .int x2), (3, .int 0)]) rfl ?_
        refine t_X7_colours_L39 hc (wp_bb h) ?_
        · intro y11 σ12 h
          refine r_aload_n hc 0 rfl rfl dX7_colours_81 ?_
          refine r_iload_n hc 1 rfl rfl dX7_colours_82 ?_
          refine r_bipush hc (v := 6) (by decide) dX7_colours_83 ?_
          refine r_iconst hc (v := 0) (by decide) dX7_colours_85 ?_
          obtain ⟨_, ek15, h⟩ := wp_g h
          obtain ⟨r13, σ14, er13, h⟩ := wp_b h
          refine r_callV hc (k0 := x0) mv_X7_mapsOf ml_X7_327 (c_X7_mapsOf er13) (chk_of ek15) cls_7.1 rfl rfl rfl (by decide) rfl (Nat.le_of_ble_eq_true rfl) dX7_colours_86 ?_
          have h := wp_v h
          exact r_iret hc h dX7_colours_89
      · have h := wp_f c h
        refine r_bipush hc (v := (-2)) (by decide) dX7_colours_27 ?_
        have h := wp_v h
        exact r_iret hc h dX7_colours_29
    · have h := wp_t c h
      refine r_sub [] (lv' := []) rfl ?_
      exact t_X7_colours_b17 hc h
theorem c_X7_colours {l : Launch} {x0 : Nat} {x1 : Int32} {x2 : Int32} {σ σ' : Hp} {r : Int32} (h : f_X7_colours x0 x1 x2 σ = some (r, σ')) : Mt l yX7_colours cX7_colours 5 (some .int) 6 shM (fun ad => [.ref (ad x0), .int x1, .int x2]) σ (fun ad => some (.int r)) σ' := mt_i (own := RX7) (by decide) rfl (fun _ => Nat.le_of_ble_eq_true rfl) (fun γ ad K hc hk => t_X7_colours hc ⟨_, _, h, hk⟩)

-- NetMapsModel.levels(I)I
theorem dX7_levels_0 : decode cX7_levels 0 = .ok (.iload_n 1, 1) := by decide +kernel
theorem dX7_levels_1 : decode cX7_levels 1 = .ok (.invokestatic 132, 3) := by decide +kernel
theorem dX7_levels_4 : decode cX7_levels 4 = .ok (.ifCond .ne 5, 3) := by decide +kernel
theorem dX7_levels_7 : decode cX7_levels 7 = .ok (.iconst (-1), 1) := by decide +kernel
theorem dX7_levels_8 : decode cX7_levels 8 = .ok (.ireturn, 1) := by decide +kernel
theorem dX7_levels_9 : decode cX7_levels 9 = .ok (.aload_n 0, 1) := by decide +kernel
theorem dX7_levels_10 : decode cX7_levels 10 = .ok (.iload_n 1, 1) := by decide +kernel
theorem dX7_levels_11 : decode cX7_levels 11 = .ok (.invokevirtual 85, 3) := by decide +kernel
theorem dX7_levels_14 : decode cX7_levels 14 = .ok (.ifCond .eq 6, 3) := by decide +kernel
theorem dX7_levels_17 : decode cX7_levels 17 = .ok (.bipush (-2), 2) := by decide +kernel
theorem dX7_levels_19 : decode cX7_levels 19 = .ok (.ireturn, 1) := by decide +kernel
theorem dX7_levels_20 : decode cX7_levels 20 = .ok (.iconst 0, 1) := by decide +kernel
theorem dX7_levels_21 : decode cX7_levels 21 = .ok (.istore_n 2, 1) := by decide +kernel
theorem dX7_levels_22 : decode cX7_levels 22 = .ok (.iload_n 2, 1) := by decide +kernel
theorem dX7_levels_23 : decode cX7_levels 23 = .ok (.bipush 7, 2) := by decide +kernel
theorem dX7_levels_25 : decode cX7_levels 25 = .ok (.if_icmp .ge 54, 3) := by decide +kernel
theorem dX7_levels_28 : decode cX7_levels 28 = .ok (.aload_n 0, 1) := by decide +kernel
theorem dX7_levels_29 : decode cX7_levels 29 = .ok (.bipush 6, 2) := by decide +kernel
theorem dX7_levels_31 : decode cX7_levels 31 = .ok (.iload_n 2, 1) := by decide +kernel
theorem dX7_levels_32 : decode cX7_levels 32 = .ok (.iconst 1, 1) := by decide +kernel
theorem dX7_levels_33 : decode cX7_levels 33 = .ok (.iadd, 1) := by decide +kernel
theorem dX7_levels_34 : decode cX7_levels 34 = .ok (.invokevirtual 121, 3) := by decide +kernel
theorem dX7_levels_37 : decode cX7_levels 37 = .ok (.iconst 0, 1) := by decide +kernel
theorem dX7_levels_38 : decode cX7_levels 38 = .ok (.istore_n 3, 1) := by decide +kernel
theorem dX7_levels_39 : decode cX7_levels 39 = .ok (.iload_n 3, 1) := by decide +kernel
theorem dX7_levels_40 : decode cX7_levels 40 = .ok (.iload_n 2, 1) := by decide +kernel
theorem dX7_levels_41 : decode cX7_levels 41 = .ok (.if_icmp .ge 20, 3) := by decide +kernel
theorem dX7_levels_44 : decode cX7_levels 44 = .ok (.aload_n 0, 1) := by decide +kernel
theorem dX7_levels_45 : decode cX7_levels 45 = .ok (.bipush 6, 2) := by decide +kernel
theorem dX7_levels_47 : decode cX7_levels 47 = .ok (.iload_n 3, 1) := by decide +kernel
theorem dX7_levels_48 : decode cX7_levels 48 = .ok (.iload_n 3, 1) := by decide +kernel
theorem dX7_levels_49 : decode cX7_levels 49 = .ok (.iconst 1, 1) := by decide +kernel
theorem dX7_levels_50 : decode cX7_levels 50 = .ok (.iadd, 1) := by decide +kernel
theorem dX7_levels_51 : decode cX7_levels 51 = .ok (.iconst 1, 1) := by decide +kernel
theorem dX7_levels_52 : decode cX7_levels 52 = .ok (.invokevirtual 128, 3) := by decide +kernel
theorem dX7_levels_55 : decode cX7_levels 55 = .ok (.iinc 3 1, 3) := by decide +kernel
theorem dX7_levels_58 : decode cX7_levels 58 = .ok (.goto (-19), 3) := by decide +kernel
theorem dX7_levels_61 : decode cX7_levels 61 = .ok (.aload_n 0, 1) := by decide +kernel
theorem dX7_levels_62 : decode cX7_levels 62 = .ok (.iload_n 1, 1) := by decide +kernel
theorem dX7_levels_63 : decode cX7_levels 63 = .ok (.bipush 6, 2) := by decide +kernel
theorem dX7_levels_65 : decode cX7_levels 65 = .ok (.invokevirtual 263, 3) := by decide +kernel
theorem dX7_levels_68 : decode cX7_levels 68 = .ok (.ifCond .eq 5, 3) := by decide +kernel
theorem dX7_levels_71 : decode cX7_levels 71 = .ok (.iload_n 2, 1) := by decide +kernel
theorem dX7_levels_72 : decode cX7_levels 72 = .ok (.ireturn, 1) := by decide +kernel
theorem dX7_levels_73 : decode cX7_levels 73 = .ok (.iinc 2 1, 3) := by decide +kernel
theorem dX7_levels_76 : decode cX7_levels 76 = .ok (.goto (-54), 3) := by decide +kernel
theorem dX7_levels_79 : decode cX7_levels 79 = .ok (.bipush (-4), 2) := by decide +kernel
theorem dX7_levels_81 : decode cX7_levels 81 = .ok (.ireturn, 1) := by decide +kernel
noncomputable def f_X7_levels_L39 (x0 : Nat) (x1 : Int32) (x2 : Int32) (v : (Int32)) (σ : Hp) : Option (((Int32) ⊕ (Unit)) × Hp) := if x2 ≤ v then (some (Sum.inr (), σ)) else (gO (chk shM x0 7) fun _ => bO (f_X7_sets x0 6 v (v + 1) 1 σ) fun _ σ2 => some (Sum.inl (v + 1), σ2))
set_option maxRecDepth 100000 in
set_option maxHeartbeats 4000000 in
theorem t_X7_levels_L39 {l : Launch} {γ : Gm} {ad : Nat → Nat} {K : Option Value → Hp → Prop}  (hc : Cx l γ 6 4 ad shM RX7 cX7_levels (some .int) K) {x0 : Nat} {x1 : Int32} {x2 : Int32} {v : (Int32)} {σ : Hp} {KX : (Unit) → Hp → Prop} (h : wpO (wh (f_X7_levels_L39 x0 x1 x2) v σ) KX) (kx61 : ∀ (v : Unit) (σ : Hp), KX v σ → WW l γ 6 4 ad shM 61 [(0, .ref (ad x0)), (1, .int x1), (2, .int x2)] [] σ) : WW l γ 6 4 ad shM 39 [(0, .ref (ad x0)), (1, .int x1), (2, .int x2), (3, .int v)] [] σ := by
  refine wh_W (P := fun v σ => WW l γ 6 4 ad shM 39 [(0, .ref (ad x0)), (1, .int x1), (2, .int x2), (3, .int v)] [] σ) (fun v σ h => ?_) h
  have kn : ∀ (v : (Int32)) (σ : Hp), WW l γ 6 4 ad shM 39 [(0, .ref (ad x0)), (1, .int x1), (2, .int x2), (3, .int v)] [] σ → WW l γ 6 4 ad shM 39 [(0, .ref (ad x0)), (1, .int x1), (2, .int x2), (3, .int v)] [] σ := fun _ _ h => h
  · unfold f_X7_levels_L39 at h
    refine r_iload_n hc 3 rfl rfl dX7_levels_39 ?_
    refine r_iload_n hc 2 rfl rfl dX7_levels_40 ?_
    refine r_icmp_ge hc (tgt := 61) dX7_levels_41 (by decide) (fun c => ?_) (fun c => ?_)
    · have h := wp_t c h
      refine r_sub [0, 1, 2] (lv' := [(0, .ref (ad x0)), (1, .int x1), (2, .int x2)]) rfl ?_
      have h := wp_v h
      exact kx61 () _ h
    · have h := wp_f c h
      refine r_aload_n hc 0 rfl rfl dX7_levels_44 ?_
      refine r_bipush hc (v := 6) (by decide) dX7_levels_45 ?_
      refine r_iload_n hc 3 rfl rfl dX7_levels_47 ?_
      refine r_iload_n hc 3 rfl rfl dX7_levels_48 ?_
      refine r_iconst hc (v := 1) (by decide) dX7_levels_49 ?_
      refine r_iadd hc dX7_levels_50 ?_
      refine r_iconst hc (v := 1) (by decide) dX7_levels_51 ?_
      obtain ⟨_, ek3, h⟩ := wp_g h
      obtain ⟨_, σ2, er1, h⟩ := wp_b h
      refine r_callV hc (k0 := x0) mv_X7_sets ml_X7_128 (c_X7_sets er1) (chk_of ek3) cls_7.1 rfl rfl rfl (by decide) rfl (Nat.le_of_ble_eq_true rfl) dX7_levels_52 ?_
      refine r_iincE hc (j := 3) (w := 1) (lv' := [(3, .int (v + 1)), (0, .ref (ad x0)), (1, .int x1), (2, .int x2)]) rfl (by decide) rfl (by decide) rfl dX7_levels_55 ?_
      refine r_goto hc (tgt := 39) dX7_levels_58 (by decide) ?_
      refine r_sub [1, 2, 3, 0] (lv' := [(0, .ref (ad x0)), (1, .int x1), (2, .int x2), (3, .int (v + 1))]) rfl ?_
      have h := wp_v h
      exact kn (v + 1) _ h
noncomputable def f_X7_levels_L22 (x0 : Nat) (x1 : Int32) (v : (Int32)) (σ : Hp) : Option (((Int32) ⊕ ((Int32) ⊕ (Unit))) × Hp) := if 7 ≤ v then (some (Sum.inr (Sum.inr ()), σ)) else (gO (chk shM x0 7) fun _ => bO (f_X7_begins x0 6 (v + 1) σ) fun _ σ2 => bO (wh (f_X7_levels_L39 x0 x1 v) 0 σ2) fun y4 σ5 => (gO (chk shM x0 7) fun _ => bO (f_X7_doesFit x0 x1 6 σ5) fun r6 σ7 => if r6 = 0 then (some (Sum.inl (v + 1), σ7)) else (some (Sum.inr (Sum.inl v), σ7))))
set_option maxRecDepth 100000 in
set_option maxHeartbeats 4000000 in
theorem t_X7_levels_L22 {l : Launch} {γ : Gm} {ad : Nat → Nat} {K : Option Value → Hp → Prop}  (hc : Cx l γ 6 4 ad shM RX7 cX7_levels (some .int) K) {x0 : Nat} {x1 : Int32} {v : (Int32)} {σ : Hp} {KX : ((Int32) ⊕ (Unit)) → Hp → Prop} (h : wpO (wh (f_X7_levels_L22 x0 x1) v σ) KX) (kx71 : ∀ (v : Int32) (σ : Hp), KX (Sum.inl v) σ → WW l γ 6 4 ad shM 71 [(2, .int v)] [] σ) (kx79 : ∀ (v : Unit) (σ : Hp), KX (Sum.inr v) σ → WW l γ 6 4 ad shM 79 [] [] σ) : WW l γ 6 4 ad shM 22 [(0, .ref (ad x0)), (1, .int x1), (2, .int v)] [] σ := by
  refine wh_W (P := fun v σ => WW l γ 6 4 ad shM 22 [(0, .ref (ad x0)), (1, .int x1), (2, .int v)] [] σ) (fun v σ h => ?_) h
  have kn : ∀ (v : (Int32)) (σ : Hp), WW l γ 6 4 ad shM 22 [(0, .ref (ad x0)), (1, .int x1), (2, .int v)] [] σ → WW l γ 6 4 ad shM 22 [(0, .ref (ad x0)), (1, .int x1), (2, .int v)] [] σ := fun _ _ h => h
  · unfold f_X7_levels_L22 at h
    refine r_iload_n hc 2 rfl rfl dX7_levels_22 ?_
    refine r_bipush hc (v := 7) (by decide) dX7_levels_23 ?_
    refine r_icmp_ge hc (tgt := 79) dX7_levels_25 (by decide) (fun c => ?_) (fun c => ?_)
    · have h := wp_t c h
      refine r_sub [] (lv' := []) rfl ?_
      have h := wp_v h
      exact kx79 () _ h
    · have h := wp_f c h
      refine r_aload_n hc 0 rfl rfl dX7_levels_28 ?_
      refine r_bipush hc (v := 6) (by decide) dX7_levels_29 ?_
      refine r_iload_n hc 2 rfl rfl dX7_levels_31 ?_
      refine r_iconst hc (v := 1) (by decide) dX7_levels_32 ?_
      refine r_iadd hc dX7_levels_33 ?_
      obtain ⟨_, ek3, h⟩ := wp_g h
      obtain ⟨_, σ2, er1, h⟩ := wp_b h
      refine r_callV hc (k0 := x0) mv_X7_begins ml_X7_121 (c_X7_begins er1) (chk_of ek3) cls_7.1 rfl rfl rfl (by decide) rfl (Nat.le_of_ble_eq_true rfl) dX7_levels_34 ?_
      refine r_iconst hc (v := 0) (by decide) dX7_levels_37 ?_
      refine r_istore_nE hc (i := 3) (lv' := [(3, .int 0), (0, .ref (ad x0)), (1, .int x1), (2, .int v)]) rfl rfl (by decide) rfl dX7_levels_38 ?_
      refine r_sub [1, 2, 3, 0] (lv' := [(0, .ref (ad x0)), (1, .int x1), (2, .int v), (3, .int 0)]) rfl ?_
      refine t_X7_levels_L39 hc (wp_bb h) ?_
      · intro y4 σ5 h
        refine r_aload_n hc 0 rfl rfl dX7_levels_61 ?_
        refine r_iload_n hc 1 rfl rfl dX7_levels_62 ?_
        refine r_bipush hc (v := 6) (by decide) dX7_levels_63 ?_
        obtain ⟨_, ek8, h⟩ := wp_g h
        obtain ⟨r6, σ7, er6, h⟩ := wp_b h
        refine r_callV hc (k0 := x0) mv_X7_doesFit ml_X7_263 (c_X7_doesFit er6) (chk_of ek8) cls_7.1 rfl rfl rfl (by decide) rfl (Nat.le_of_ble_eq_true rfl) dX7_levels_65 ?_
        refine r_if_eq hc (tgt := 73) dX7_levels_68 (by decide) (fun c => ?_) (fun c => ?_)
        · have h := wp_t c h
          refine r_iincE hc (j := 2) (w := 1) (lv' := [(2, .int (v + 1)), (0, .ref (ad x0)), (1, .int x1)]) rfl (by decide) rfl (by decide) rfl dX7_levels_73 ?_
          refine r_goto hc (tgt := 22) dX7_levels_76 (by decide) ?_
          refine r_sub [1, 2, 0] (lv' := [(0, .ref (ad x0)), (1, .int x1), (2, .int (v + 1))]) rfl ?_
          have h := wp_v h
          exact kn (v + 1) _ h
        · have h := wp_f c h
          refine r_sub [2] (lv' := [(2, .int v)]) rfl ?_
          have h := wp_v h
          exact kx71 v _ h
noncomputable def f_X7_levels (x0 : Nat) (x1 : Int32) (σ : Hp) : Option (Int32 × Hp) := bO (f_X7_isDrawer x1 σ) fun r1 σ2 => if r1 = 0 then (some ((-1), σ2)) else (gO (chk shM x0 7) fun _ => bO (f_X7_isEmpty x0 x1 σ2) fun r3 σ4 => if r3 = 0 then (bO (wh (f_X7_levels_L22 x0 x1) 0 σ4) fun y6 σ7 => (Sum.elim (fun y6' => (some (y6', σ7))) (fun y8 => (some ((-4), σ7))) y6)) else (some ((-2), σ4)))
set_option maxRecDepth 100000 in
set_option maxHeartbeats 4000000 in
theorem t_X7_levels {l : Launch} {γ : Gm} {ad : Nat → Nat} {K : Option Value → Hp → Prop} (hc : Cx l γ 6 4 ad shM RX7 cX7_levels (some .int) K) {x0 : Nat} {x1 : Int32} {σ : Hp} (h : wpO (f_X7_levels x0 x1 σ) (KI K)) : WW l γ 6 4 ad shM 0 [(0, .ref (ad x0)), (1, .int x1)] [] σ := by
  unfold f_X7_levels at h
  refine r_iload_n hc 1 rfl rfl dX7_levels_0 ?_
  obtain ⟨r1, σ2, er1, h⟩ := wp_b h
  refine r_callS hc ms_X7_isDrawer ml_X7_132 (c_X7_isDrawer er1) rfl rfl (by decide) rfl (Nat.le_of_ble_eq_true rfl) dX7_levels_1 ?_
  refine r_if_ne hc (tgt := 9) dX7_levels_4 (by decide) (fun c => ?_) (fun c => ?_)
  · have h := wp_f c h
    refine r_aload_n hc 0 rfl rfl dX7_levels_9 ?_
    refine r_iload_n hc 1 rfl rfl dX7_levels_10 ?_
    obtain ⟨_, ek5, h⟩ := wp_g h
    obtain ⟨r3, σ4, er3, h⟩ := wp_b h
    refine r_callV hc (k0 := x0) mv_X7_isEmpty ml_X7_85 (c_X7_isEmpty er3) (chk_of ek5) cls_7.1 rfl rfl rfl (by decide) rfl (Nat.le_of_ble_eq_true rfl) dX7_levels_11 ?_
    refine r_if_eq hc (tgt := 20) dX7_levels_14 (by decide) (fun c => ?_) (fun c => ?_)
    · have h := wp_t c h
      refine r_iconst hc (v := 0) (by decide) dX7_levels_20 ?_
      refine r_istore_nE hc (i := 2) (lv' := [(2, .int 0), (0, .ref (ad x0)), (1, .int x1)]) rfl rfl (by decide) rfl dX7_levels_21 ?_
      refine r_sub [1, 2, 0] (lv' := [(0, .ref (ad x0)), (1, .int x1), (2, .int 0)]) rfl ?_
      refine t_X7_levels_L22 hc (wp_bb h) ?_ ?_
      · intro y6' σ7 h
        have h := wp_sl h
        refine r_iload_n hc 0 rfl rfl dX7_levels_71 ?_
        have h := wp_v h
        exact r_iret hc h dX7_levels_72
      · intro y8 σ7 h
        have h := wp_sr h
        refine r_bipush hc (v := (-4)) (by decide) dX7_levels_79 ?_
        have h := wp_v h
        exact r_iret hc h dX7_levels_81
    · have h := wp_f c h
      refine r_bipush hc (v := (-2)) (by decide) dX7_levels_17 ?_
      have h := wp_v h
      exact r_iret hc h dX7_levels_19
  · have h := wp_t c h
    refine r_iconst hc (v := (-1)) (by decide) dX7_levels_7 ?_
    have h := wp_v h
    exact r_iret hc h dX7_levels_8
theorem c_X7_levels {l : Launch} {x0 : Nat} {x1 : Int32} {σ σ' : Hp} {r : Int32} (h : f_X7_levels x0 x1 σ = some (r, σ')) : Mt l yX7_levels cX7_levels 4 (some .int) 6 shM (fun ad => [.ref (ad x0), .int x1]) σ (fun ad => some (.int r)) σ' := mt_i (own := RX7) (by decide) rfl (fun _ => Nat.le_of_ble_eq_true rfl) (fun γ ad K hc hk => t_X7_levels hc ⟨_, _, h, hk⟩)

-- NetMapsModel.goesInto(III)Z
theorem dX7_goesInto_0 : decode cX7_goesInto 0 = .ok (.iconst 0, 1) := by decide +kernel
theorem dX7_goesInto_1 : decode cX7_goesInto 1 = .ok (.istore 4, 2) := by decide +kernel
theorem dX7_goesInto_3 : decode cX7_goesInto 3 = .ok (.iload 4, 2) := by decide +kernel
theorem dX7_goesInto_5 : decode cX7_goesInto 5 = .ok (.aload_n 0, 1) := by decide +kernel
theorem dX7_goesInto_6 : decode cX7_goesInto 6 = .ok (.getfield 7, 3) := by decide +kernel
theorem dX7_goesInto_9 : decode cX7_goesInto 9 = .ok (.iload_n 1, 1) := by decide +kernel
theorem dX7_goesInto_10 : decode cX7_goesInto 10 = .ok (.iaload, 1) := by decide +kernel
theorem dX7_goesInto_11 : decode cX7_goesInto 11 = .ok (.if_icmp .ge 99, 3) := by decide +kernel
theorem dX7_goesInto_14 : decode cX7_goesInto 14 = .ok (.iload 4, 2) := by decide +kernel
theorem dX7_goesInto_16 : decode cX7_goesInto 16 = .ok (.iload_n 3, 1) := by decide +kernel
theorem dX7_goesInto_17 : decode cX7_goesInto 17 = .ok (.if_icmp .eq 87, 3) := by decide +kernel
theorem dX7_goesInto_20 : decode cX7_goesInto 20 = .ok (.iload_n 2, 1) := by decide +kernel
theorem dX7_goesInto_21 : decode cX7_goesInto 21 = .ok (.iload 4, 2) := by decide +kernel
theorem dX7_goesInto_23 : decode cX7_goesInto 23 = .ok (.invokestatic 89, 3) := by decide +kernel
theorem dX7_goesInto_26 : decode cX7_goesInto 26 = .ok (.ifCond .ne 6, 3) := by decide +kernel
theorem dX7_goesInto_29 : decode cX7_goesInto 29 = .ok (.goto 75, 3) := by decide +kernel
theorem dX7_goesInto_32 : decode cX7_goesInto 32 = .ok (.aload_n 0, 1) := by decide +kernel
theorem dX7_goesInto_33 : decode cX7_goesInto 33 = .ok (.getfield 13, 3) := by decide +kernel
theorem dX7_goesInto_36 : decode cX7_goesInto 36 = .ok (.bipush 7, 2) := by decide +kernel
theorem dX7_goesInto_38 : decode cX7_goesInto 38 = .ok (.iload_n 1, 1) := by decide +kernel
theorem dX7_goesInto_39 : decode cX7_goesInto 39 = .ok (.imul, 1) := by decide +kernel
theorem dX7_goesInto_40 : decode cX7_goesInto 40 = .ok (.iload_n 3, 1) := by decide +kernel
theorem dX7_goesInto_41 : decode cX7_goesInto 41 = .ok (.iadd, 1) := by decide +kernel
theorem dX7_goesInto_42 : decode cX7_goesInto 42 = .ok (.iaload, 1) := by decide +kernel
theorem dX7_goesInto_43 : decode cX7_goesInto 43 = .ok (.iload_n 2, 1) := by decide +kernel
theorem dX7_goesInto_44 : decode cX7_goesInto 44 = .ok (.iand, 1) := by decide +kernel
theorem dX7_goesInto_45 : decode cX7_goesInto 45 = .ok (.aload_n 0, 1) := by decide +kernel
theorem dX7_goesInto_46 : decode cX7_goesInto 46 = .ok (.getfield 13, 3) := by decide +kernel
theorem dX7_goesInto_49 : decode cX7_goesInto 49 = .ok (.bipush 7, 2) := by decide +kernel
theorem dX7_goesInto_51 : decode cX7_goesInto 51 = .ok (.iload_n 1, 1) := by decide +kernel
theorem dX7_goesInto_52 : decode cX7_goesInto 52 = .ok (.imul, 1) := by decide +kernel
theorem dX7_goesInto_53 : decode cX7_goesInto 53 = .ok (.iload 4, 2) := by decide +kernel
theorem dX7_goesInto_55 : decode cX7_goesInto 55 = .ok (.iadd, 1) := by decide +kernel
theorem dX7_goesInto_56 : decode cX7_goesInto 56 = .ok (.iaload, 1) := by decide +kernel
theorem dX7_goesInto_57 : decode cX7_goesInto 57 = .ok (.iconst (-1), 1) := by decide +kernel
theorem dX7_goesInto_58 : decode cX7_goesInto 58 = .ok (.ixor, 1) := by decide +kernel
theorem dX7_goesInto_59 : decode cX7_goesInto 59 = .ok (.iand, 1) := by decide +kernel
theorem dX7_goesInto_60 : decode cX7_goesInto 60 = .ok (.istore 5, 2) := by decide +kernel
theorem dX7_goesInto_62 : decode cX7_goesInto 62 = .ok (.aload_n 0, 1) := by decide +kernel
theorem dX7_goesInto_63 : decode cX7_goesInto 63 = .ok (.getfield 16, 3) := by decide +kernel
theorem dX7_goesInto_66 : decode cX7_goesInto 66 = .ok (.bipush 7, 2) := by decide +kernel
theorem dX7_goesInto_68 : decode cX7_goesInto 68 = .ok (.iload_n 1, 1) := by decide +kernel
theorem dX7_goesInto_69 : decode cX7_goesInto 69 = .ok (.imul, 1) := by decide +kernel
theorem dX7_goesInto_70 : decode cX7_goesInto 70 = .ok (.iload_n 3, 1) := by decide +kernel
theorem dX7_goesInto_71 : decode cX7_goesInto 71 = .ok (.iadd, 1) := by decide +kernel
theorem dX7_goesInto_72 : decode cX7_goesInto 72 = .ok (.iaload, 1) := by decide +kernel
theorem dX7_goesInto_73 : decode cX7_goesInto 73 = .ok (.iload_n 2, 1) := by decide +kernel
theorem dX7_goesInto_74 : decode cX7_goesInto 74 = .ok (.iand, 1) := by decide +kernel
theorem dX7_goesInto_75 : decode cX7_goesInto 75 = .ok (.aload_n 0, 1) := by decide +kernel
theorem dX7_goesInto_76 : decode cX7_goesInto 76 = .ok (.getfield 16, 3) := by decide +kernel
theorem dX7_goesInto_79 : decode cX7_goesInto 79 = .ok (.bipush 7, 2) := by decide +kernel
theorem dX7_goesInto_81 : decode cX7_goesInto 81 = .ok (.iload_n 1, 1) := by decide +kernel
theorem dX7_goesInto_82 : decode cX7_goesInto 82 = .ok (.imul, 1) := by decide +kernel
theorem dX7_goesInto_83 : decode cX7_goesInto 83 = .ok (.iload 4, 2) := by decide +kernel
theorem dX7_goesInto_85 : decode cX7_goesInto 85 = .ok (.iadd, 1) := by decide +kernel
theorem dX7_goesInto_86 : decode cX7_goesInto 86 = .ok (.iaload, 1) := by decide +kernel
theorem dX7_goesInto_87 : decode cX7_goesInto 87 = .ok (.iconst (-1), 1) := by decide +kernel
theorem dX7_goesInto_88 : decode cX7_goesInto 88 = .ok (.ixor, 1) := by decide +kernel
theorem dX7_goesInto_89 : decode cX7_goesInto 89 = .ok (.iand, 1) := by decide +kernel
theorem dX7_goesInto_90 : decode cX7_goesInto 90 = .ok (.istore 6, 2) := by decide +kernel
theorem dX7_goesInto_92 : decode cX7_goesInto 92 = .ok (.iload 5, 2) := by decide +kernel
theorem dX7_goesInto_94 : decode cX7_goesInto 94 = .ok (.ifCond .ne 10, 3) := by decide +kernel
theorem dX7_goesInto_97 : decode cX7_goesInto 97 = .ok (.iload 6, 2) := by decide +kernel
theorem dX7_goesInto_99 : decode cX7_goesInto 99 = .ok (.ifCond .ne 5, 3) := by decide +kernel
theorem dX7_goesInto_102 : decode cX7_goesInto 102 = .ok (.iconst 1, 1) := by decide +kernel
theorem dX7_goesInto_103 : decode cX7_goesInto 103 = .ok (.ireturn, 1) := by decide +kernel
theorem dX7_goesInto_104 : decode cX7_goesInto 104 = .ok (.iinc 4 1, 3) := by decide +kernel
theorem dX7_goesInto_107 : decode cX7_goesInto 107 = .ok (.goto (-104), 3) := by decide +kernel
theorem dX7_goesInto_110 : decode cX7_goesInto 110 = .ok (.iconst 0, 1) := by decide +kernel
theorem dX7_goesInto_111 : decode cX7_goesInto 111 = .ok (.ireturn, 1) := by decide +kernel
noncomputable def f_X7_goesInto_b104 (x0 : Nat) (x1 : Int32) (x2 : Int32) (x3 : Int32) (x4 : Int32) (σ : Hp) : Option (((Int32) ⊕ ((Unit) ⊕ (Unit))) × Hp) := some (Sum.inl (x4 + 1), σ)
set_option maxRecDepth 100000 in
set_option maxHeartbeats 4000000 in
theorem t_X7_goesInto_b104 {l : Launch} {γ : Gm} {ad : Nat → Nat} {K : Option Value → Hp → Prop} (hc : Cx l γ 2 7 ad shM RX7 cX7_goesInto (some .boolean) K) {x0 : Nat} {x1 : Int32} {x2 : Int32} {x3 : Int32} {x4 : Int32}  {σ : Hp} {KL : ((Int32) ⊕ ((Unit) ⊕ (Unit))) → Hp → Prop} (h : wpO (f_X7_goesInto_b104 x0 x1 x2 x3 x4 σ) KL) (kn : ∀ (v : (Int32)) (σ : Hp), KL (Sum.inl v) σ → WW l γ 2 7 ad shM 3 [(0, .ref (ad x0)), (1, .int x1), (2, .int x2), (3, .int x3), (4, .int v)] [] σ) (kx102 : ∀ (v : Unit) (σ : Hp), KL (Sum.inr (Sum.inl v)) σ → WW l γ 2 7 ad shM 102 [] [] σ) (kx110 : ∀ (v : Unit) (σ : Hp), KL (Sum.inr (Sum.inr v)) σ → WW l γ 2 7 ad shM 110 [] [] σ) : WW l γ 2 7 ad shM 104 [(0, .ref (ad x0)), (1, .int x1), (2, .int x2), (3, .int x3), (4, .int x4)] [] σ := by
  unfold f_X7_goesInto_b104 at h
  refine r_iincE hc (j := 4) (w := 1) (lv' := [(4, .int (x4 + 1)), (0, .ref (ad x0)), (1, .int x1), (2, .int x2), (3, .int x3)]) rfl (by decide) rfl (by decide) rfl dX7_goesInto_104 ?_
  refine r_goto hc (tgt := 3) dX7_goesInto_107 (by decide) ?_
  refine r_sub [1, 2, 3, 4, 0] (lv' := [(0, .ref (ad x0)), (1, .int x1), (2, .int x2), (3, .int x3), (4, .int (x4 + 1))]) rfl ?_
  have h := wp_v h
  exact kn (x4 + 1) _ h
noncomputable def f_X7_goesInto_L3 (x0 : Nat) (x1 : Int32) (x2 : Int32) (x3 : Int32) (v : (Int32)) (σ : Hp) : Option (((Int32) ⊕ ((Unit) ⊕ (Unit))) × Hp) := gO (getR shM 7 x0 0 σ) fun v1 => gO (aldI shM 0 v1 x1 σ) fun v2 => if v2 ≤ v then (some (Sum.inr (Sum.inr ()), σ)) else (if v = x3 then (f_X7_goesInto_b104 x0 x1 x2 x3 v σ) else (bO (f_X7_has x2 v σ) fun r3 σ4 => if r3 = 0 then (f_X7_goesInto_b104 x0 x1 x2 x3 v σ4) else (gO (getR shM 7 x0 1 σ4) fun v5 => gO (aldI shM 0 v5 ((7 * x1) + x3) σ4) fun v6 => gO (getR shM 7 x0 1 σ4) fun v7 => gO (aldI shM 0 v7 ((7 * x1) + v) σ4) fun v8 => lt' (((v6 &&& x2) &&& (v8 ^^^ (-1)))) fun t9 => gO (getR shM 7 x0 2 σ4) fun v10 => gO (aldI shM 0 v10 ((7 * x1) + x3) σ4) fun v11 => gO (getR shM 7 x0 2 σ4) fun v12 => gO (aldI shM 0 v12 ((7 * x1) + v) σ4) fun v13 => lt' (((v11 &&& x2) &&& (v13 ^^^ (-1)))) fun t14 => if t9 = 0 then (if t14 = 0 then (some (Sum.inr (Sum.inl ()), σ4)) else (f_X7_goesInto_b104 x0 x1 x2 x3 v σ4)) else (f_X7_goesInto_b104 x0 x1 x2 x3 v σ4))))
set_option maxRecDepth 100000 in
set_option maxHeartbeats 4000000 in
theorem t_X7_goesInto_L3 {l : Launch} {γ : Gm} {ad : Nat → Nat} {K : Option Value → Hp → Prop}  (hc : Cx l γ 2 7 ad shM RX7 cX7_goesInto (some .boolean) K) {x0 : Nat} {x1 : Int32} {x2 : Int32} {x3 : Int32} {v : (Int32)} {σ : Hp} {KX : ((Unit) ⊕ (Unit)) → Hp → Prop} (h : wpO (wh (f_X7_goesInto_L3 x0 x1 x2 x3) v σ) KX) (kx102 : ∀ (v : Unit) (σ : Hp), KX (Sum.inl v) σ → WW l γ 2 7 ad shM 102 [] [] σ) (kx110 : ∀ (v : Unit) (σ : Hp), KX (Sum.inr v) σ → WW l γ 2 7 ad shM 110 [] [] σ) : WW l γ 2 7 ad shM 3 [(0, .ref (ad x0)), (1, .int x1), (2, .int x2), (3, .int x3), (4, .int v)] [] σ := by
  refine wh_W (P := fun v σ => WW l γ 2 7 ad shM 3 [(0, .ref (ad x0)), (1, .int x1), (2, .int x2), (3, .int x3), (4, .int v)] [] σ) (fun v σ h => ?_) h
  have kn : ∀ (v : (Int32)) (σ : Hp), WW l γ 2 7 ad shM 3 [(0, .ref (ad x0)), (1, .int x1), (2, .int x2), (3, .int x3), (4, .int v)] [] σ → WW l γ 2 7 ad shM 3 [(0, .ref (ad x0)), (1, .int x1), (2, .int x2), (3, .int x3), (4, .int v)] [] σ := fun _ _ h => h
  · unfold f_X7_goesInto_L3 at h
    refine r_iload hc 4 rfl dX7_goesInto_3 ?_
    refine r_aload_n hc 0 rfl rfl dX7_goesInto_5 ?_
    obtain ⟨v1, ev1, h⟩ := wp_g h
    refine r_getR hc ev1 fl_X7_7 rfl dX7_goesInto_6 ?_
    refine r_iload_n hc 1 rfl rfl dX7_goesInto_9 ?_
    obtain ⟨v2, ev2, h⟩ := wp_g h
    refine r_iald hc ev2 dX7_goesInto_10 ?_
    refine r_icmp_ge hc (tgt := 110) dX7_goesInto_11 (by decide) (fun c => ?_) (fun c => ?_)
    · have h := wp_t c h
      refine r_sub [] (lv' := []) rfl ?_
      have h := wp_v h
      exact kx110 () _ h
    · have h := wp_f c h
      refine r_iload hc 4 rfl dX7_goesInto_14 ?_
      refine r_iload_n hc 3 rfl rfl dX7_goesInto_16 ?_
      refine r_icmp_eq hc (tgt := 104) dX7_goesInto_17 (by decide) (fun c => ?_) (fun c => ?_)
      · have h := wp_t c h
        exact t_X7_goesInto_b104 hc h kn kx102 kx110
      · have h := wp_f c h
        refine r_iload_n hc 2 rfl rfl dX7_goesInto_20 ?_
        refine r_iload hc 4 rfl dX7_goesInto_21 ?_
        obtain ⟨r3, σ4, er3, h⟩ := wp_b h
        refine r_callS hc ms_X7_has ml_X7_89 (c_X7_has er3) rfl rfl (by decide) rfl (Nat.le_of_ble_eq_true rfl) dX7_goesInto_23 ?_
        refine r_if_ne hc (tgt := 32) dX7_goesInto_26 (by decide) (fun c => ?_) (fun c => ?_)
        · have h := wp_f c h
          refine r_aload_n hc 0 rfl rfl dX7_goesInto_32 ?_
          obtain ⟨v5, ev5, h⟩ := wp_g h
          refine r_getR hc ev5 fl_X7_13 rfl dX7_goesInto_33 ?_
          refine r_bipush hc (v := 7) (by decide) dX7_goesInto_36 ?_
          refine r_iload_n hc 1 rfl rfl dX7_goesInto_38 ?_
          refine r_imul hc dX7_goesInto_39 ?_
          refine r_iload_n hc 3 rfl rfl dX7_goesInto_40 ?_
          refine r_iadd hc dX7_goesInto_41 ?_
          obtain ⟨v6, ev6, h⟩ := wp_g h
          refine r_iald hc ev6 dX7_goesInto_42 ?_
          refine r_iload_n hc 2 rfl rfl dX7_goesInto_43 ?_
          refine r_iand hc dX7_goesInto_44 ?_
          refine r_aload_n hc 0 rfl rfl dX7_goesInto_45 ?_
          obtain ⟨v7, ev7, h⟩ := wp_g h
          refine r_getR hc ev7 fl_X7_13 rfl dX7_goesInto_46 ?_
          refine r_bipush hc (v := 7) (by decide) dX7_goesInto_49 ?_
          refine r_iload_n hc 1 rfl rfl dX7_goesInto_51 ?_
          refine r_imul hc dX7_goesInto_52 ?_
          refine r_iload hc 4 rfl dX7_goesInto_53 ?_
          refine r_iadd hc dX7_goesInto_55 ?_
          obtain ⟨v8, ev8, h⟩ := wp_g h
          refine r_iald hc ev8 dX7_goesInto_56 ?_
          refine r_iconst hc (v := (-1)) (by decide) dX7_goesInto_57 ?_
          refine r_ixor hc dX7_goesInto_58 ?_
          refine r_iand hc dX7_goesInto_59 ?_
          obtain ⟨t9, et9, h⟩ := wp_l h
          refine r_istoreE hc (i := 5) (lv' := [(5, .int t9), (0, .ref (ad x0)), (1, .int x1), (2, .int x2), (3, .int x3), (4, .int v)]) et9 (by decide) rfl dX7_goesInto_60 ?_
          refine r_aload_n hc 1 rfl rfl dX7_goesInto_62 ?_
          obtain ⟨v10, ev10, h⟩ := wp_g h
          refine r_getR hc ev10 fl_X7_16 rfl dX7_goesInto_63 ?_
          refine r_bipush hc (v := 7) (by decide) dX7_goesInto_66 ?_
          refine r_iload_n hc 2 rfl rfl dX7_goesInto_68 ?_
          refine r_imul hc dX7_goesInto_69 ?_
          refine r_iload_n hc 4 rfl rfl dX7_goesInto_70 ?_
          refine r_iadd hc dX7_goesInto_71 ?_
          obtain ⟨v11, ev11, h⟩ := wp_g h
          refine r_iald hc ev11 dX7_goesInto_72 ?_
          refine r_iload_n hc 3 rfl rfl dX7_goesInto_73 ?_
          refine r_iand hc dX7_goesInto_74 ?_
          refine r_aload_n hc 1 rfl rfl dX7_goesInto_75 ?_
          obtain ⟨v12, ev12, h⟩ := wp_g h
          refine r_getR hc ev12 fl_X7_16 rfl dX7_goesInto_76 ?_
          refine r_bipush hc (v := 7) (by decide) dX7_goesInto_79 ?_
          refine r_iload_n hc 2 rfl rfl dX7_goesInto_81 ?_
          refine r_imul hc dX7_goesInto_82 ?_
          refine r_iload hc 5 rfl dX7_goesInto_83 ?_
          refine r_iadd hc dX7_goesInto_85 ?_
          obtain ⟨v13, ev13, h⟩ := wp_g h
          refine r_iald hc ev13 dX7_goesInto_86 ?_
          refine r_iconst hc (v := (-1)) (by decide) dX7_goesInto_87 ?_
          refine r_ixor hc dX7_goesInto_88 ?_
          refine r_iand hc dX7_goesInto_89 ?_
          obtain ⟨t14, et14, h⟩ := wp_l h
          refine r_istoreE hc (i := 6) (lv' := [(6, .int t14), (5, .int t9), (0, .ref (ad x0)), (1, .int x1), (2, .int x2), (3, .int x3), (4, .int v)]) et14 (by decide) rfl dX7_goesInto_90 ?_
          refine r_iload hc 1 rfl dX7_goesInto_92 ?_
          refine r_if_ne hc (tgt := 104) dX7_goesInto_94 (by decide) (fun c => ?_) (fun c => ?_)
          · have h := wp_f c h
            refine r_sub [2, 3, 4, 5, 6] (lv' := [(0, .ref (ad x0)), (1, .int x1), (2, .int x2), (3, .int x3), (4, .int v)]) rfl ?_
            exact t_X7_goesInto_b104 hc h kn kx102 kx110
          · have h := wp_t c h
            refine r_iload hc 0 rfl dX7_goesInto_97 ?_
            refine r_if_ne hc (tgt := 104) dX7_goesInto_99 (by decide) (fun c => ?_) (fun c => ?_)
            · have h := wp_f c h
              refine r_sub [2, 3, 4, 5, 6] (lv' := [(0, .ref (ad x0)), (1, .int x1), (2, .int x2), (3, .int x3), (4, .int v)]) rfl ?_
              exact t_X7_goesInto_b104 hc h kn kx102 kx110
            · have h := wp_t c h
              refine r_sub [] (lv' := []) rfl ?_
              have h := wp_v h
              exact kx102 () _ h
        · have h := wp_t c h
          refine r_goto hc (tgt := 104) dX7_goesInto_29 (by decide) ?_
          exact t_X7_goesInto_b104 hc h kn kx102 kx110
noncomputable def f_X7_goesInto (x0 : Nat) (x1 : Int32) (x2 : Int32) (x3 : Int32) (σ : Hp) : Option (Int32 × Hp) := bO (wh (f_X7_goesInto_L3 x0 x1 x2 x3) 0 σ) fun y1 σ2 => (Sum.elim (fun y1' => (some (1, σ2))) (fun y3 => (some (0, σ2))) y1)
set_option maxRecDepth 100000 in
set_option maxHeartbeats 4000000 in
theorem t_X7_goesInto {l : Launch} {γ : Gm} {ad : Nat → Nat} {K : Option Value → Hp → Prop} (hc : Cx l γ 2 7 ad shM RX7 cX7_goesInto (some .boolean) K) {x0 : Nat} {x1 : Int32} {x2 : Int32} {x3 : Int32} {σ : Hp} (h : wpO (f_X7_goesInto x0 x1 x2 x3 σ) (KI K)) : WW l γ 2 7 ad shM 0 [(0, .ref (ad x0)), (1, .int x1), (2, .int x2), (3, .int x3)] [] σ := by
  unfold f_X7_goesInto at h
  refine r_iconst hc (v := 0) (by decide) dX7_goesInto_0 ?_
  refine r_istoreE hc (i := 4) (lv' := [(4, .int 0), (0, .ref (ad x0)), (1, .int x1), (2, .int x2), (3, .int x3)]) rfl (by decide) rfl dX7_goesInto_1 ?_
  refine r_sub [1, 2, 3, 4, 0] (lv' := [(0, .ref (ad x0)), (1, .int x1), (2, .int x2), (3, .int x3), (4, .int 0)]) rfl ?_
  refine t_X7_goesInto_L3 hc (wp_bb h) ?_ ?_
  · intro y1' σ2 h
    have h := wp_sl h
    refine r_iconst hc (v := 1) (by decide) dX7_goesInto_102 ?_
    have h := wp_v h
    exact r_zret hc h (by decide) dX7_goesInto_103
  · intro y3 σ2 h
    have h := wp_sr h
    refine r_iconst hc (v := 0) (by decide) dX7_goesInto_110 ?_
    have h := wp_v h
    exact r_zret hc h (by decide) dX7_goesInto_111
theorem c_X7_goesInto {l : Launch} {x0 : Nat} {x1 : Int32} {x2 : Int32} {x3 : Int32} {σ σ' : Hp} {r : Int32} (h : f_X7_goesInto x0 x1 x2 x3 σ = some (r, σ')) : Mt l yX7_goesInto cX7_goesInto 7 (some .boolean) 2 shM (fun ad => [.ref (ad x0), .int x1, .int x2, .int x3]) σ (fun ad => some (.int r)) σ' := mt_i (own := RX7) (by decide) rfl (fun _ => Nat.le_of_ble_eq_true rfl) (fun γ ad K hc hk => t_X7_goesInto hc ⟨_, _, h, hk⟩)

-- NetMapsModel.folded(II)I
theorem dX7_folded_0 : decode cX7_folded 0 = .ok (.iload_n 1, 1) := by decide +kernel
theorem dX7_folded_1 : decode cX7_folded 1 = .ok (.invokestatic 132, 3) := by decide +kernel
theorem dX7_folded_4 : decode cX7_folded 4 = .ok (.ifCond .eq 12, 3) := by decide +kernel
theorem dX7_folded_7 : decode cX7_folded 7 = .ok (.iload_n 2, 1) := by decide +kernel
theorem dX7_folded_8 : decode cX7_folded 8 = .ok (.iconst 0, 1) := by decide +kernel
theorem dX7_folded_9 : decode cX7_folded 9 = .ok (.iconst 1, 1) := by decide +kernel
theorem dX7_folded_10 : decode cX7_folded 10 = .ok (.invokestatic 81, 3) := by decide +kernel
theorem dX7_folded_13 : decode cX7_folded 13 = .ok (.ifCond .ne 5, 3) := by decide +kernel
theorem dX7_folded_16 : decode cX7_folded 16 = .ok (.iconst (-1), 1) := by decide +kernel
theorem dX7_folded_17 : decode cX7_folded 17 = .ok (.ireturn, 1) := by decide +kernel
theorem dX7_folded_18 : decode cX7_folded 18 = .ok (.aload_n 0, 1) := by decide +kernel
theorem dX7_folded_19 : decode cX7_folded 19 = .ok (.iload_n 1, 1) := by decide +kernel
theorem dX7_folded_20 : decode cX7_folded 20 = .ok (.invokevirtual 85, 3) := by decide +kernel
theorem dX7_folded_23 : decode cX7_folded 23 = .ok (.ifCond .eq 6, 3) := by decide +kernel
theorem dX7_folded_26 : decode cX7_folded 26 = .ok (.bipush (-2), 2) := by decide +kernel
theorem dX7_folded_28 : decode cX7_folded 28 = .ok (.ireturn, 1) := by decide +kernel
theorem dX7_folded_29 : decode cX7_folded 29 = .ok (.iconst 1, 1) := by decide +kernel
theorem dX7_folded_30 : decode cX7_folded 30 = .ok (.aload_n 0, 1) := by decide +kernel
theorem dX7_folded_31 : decode cX7_folded 31 = .ok (.getfield 7, 3) := by decide +kernel
theorem dX7_folded_34 : decode cX7_folded 34 = .ok (.iload_n 1, 1) := by decide +kernel
theorem dX7_folded_35 : decode cX7_folded 35 = .ok (.iaload, 1) := by decide +kernel
theorem dX7_folded_36 : decode cX7_folded 36 = .ok (.ishl, 1) := by decide +kernel
theorem dX7_folded_37 : decode cX7_folded 37 = .ok (.iconst 1, 1) := by decide +kernel
theorem dX7_folded_38 : decode cX7_folded 38 = .ok (.isub, 1) := by decide +kernel
theorem dX7_folded_39 : decode cX7_folded 39 = .ok (.istore_n 3, 1) := by decide +kernel
theorem dX7_folded_40 : decode cX7_folded 40 = .ok (.iconst 0, 1) := by decide +kernel
theorem dX7_folded_41 : decode cX7_folded 41 = .ok (.istore 4, 2) := by decide +kernel
theorem dX7_folded_43 : decode cX7_folded 43 = .ok (.iload 4, 2) := by decide +kernel
theorem dX7_folded_45 : decode cX7_folded 45 = .ok (.aload_n 0, 1) := by decide +kernel
theorem dX7_folded_46 : decode cX7_folded 46 = .ok (.getfield 7, 3) := by decide +kernel
theorem dX7_folded_49 : decode cX7_folded 49 = .ok (.iload_n 1, 1) := by decide +kernel
theorem dX7_folded_50 : decode cX7_folded 50 = .ok (.iaload, 1) := by decide +kernel
theorem dX7_folded_51 : decode cX7_folded 51 = .ok (.if_icmp .ge 47, 3) := by decide +kernel
theorem dX7_folded_54 : decode cX7_folded 54 = .ok (.iload_n 3, 1) := by decide +kernel
theorem dX7_folded_55 : decode cX7_folded 55 = .ok (.iload 4, 2) := by decide +kernel
theorem dX7_folded_57 : decode cX7_folded 57 = .ok (.invokestatic 89, 3) := by decide +kernel
theorem dX7_folded_60 : decode cX7_folded 60 = .ok (.ifCond .eq 29, 3) := by decide +kernel
theorem dX7_folded_63 : decode cX7_folded 63 = .ok (.aload_n 0, 1) := by decide +kernel
theorem dX7_folded_64 : decode cX7_folded 64 = .ok (.iload_n 1, 1) := by decide +kernel
theorem dX7_folded_65 : decode cX7_folded 65 = .ok (.iload_n 3, 1) := by decide +kernel
theorem dX7_folded_66 : decode cX7_folded 66 = .ok (.iload 4, 2) := by decide +kernel
theorem dX7_folded_68 : decode cX7_folded 68 = .ok (.invokevirtual 340, 3) := by decide +kernel
theorem dX7_folded_71 : decode cX7_folded 71 = .ok (.ifCond .eq 18, 3) := by decide +kernel
theorem dX7_folded_74 : decode cX7_folded 74 = .ok (.iload_n 3, 1) := by decide +kernel
theorem dX7_folded_75 : decode cX7_folded 75 = .ok (.iconst 1, 1) := by decide +kernel
theorem dX7_folded_76 : decode cX7_folded 76 = .ok (.iload 4, 2) := by decide +kernel
theorem dX7_folded_78 : decode cX7_folded 78 = .ok (.ishl, 1) := by decide +kernel
theorem dX7_folded_79 : decode cX7_folded 79 = .ok (.iconst (-1), 1) := by decide +kernel
theorem dX7_folded_80 : decode cX7_folded 80 = .ok (.ixor, 1) := by decide +kernel
theorem dX7_folded_81 : decode cX7_folded 81 = .ok (.iand, 1) := by decide +kernel
theorem dX7_folded_82 : decode cX7_folded 82 = .ok (.istore_n 3, 1) := by decide +kernel
theorem dX7_folded_83 : decode cX7_folded 83 = .ok (.iconst 0, 1) := by decide +kernel
theorem dX7_folded_84 : decode cX7_folded 84 = .ok (.istore 4, 2) := by decide +kernel
theorem dX7_folded_86 : decode cX7_folded 86 = .ok (.goto (-43), 3) := by decide +kernel
theorem dX7_folded_89 : decode cX7_folded 89 = .ok (.iload 4, 2) := by decide +kernel
theorem dX7_folded_91 : decode cX7_folded 91 = .ok (.iconst 1, 1) := by decide +kernel
theorem dX7_folded_92 : decode cX7_folded 92 = .ok (.iadd, 1) := by decide +kernel
theorem dX7_folded_93 : decode cX7_folded 93 = .ok (.istore 4, 2) := by decide +kernel
theorem dX7_folded_95 : decode cX7_folded 95 = .ok (.goto (-52), 3) := by decide +kernel
theorem dX7_folded_98 : decode cX7_folded 98 = .ok (.iload_n 2, 1) := by decide +kernel
theorem dX7_folded_99 : decode cX7_folded 99 = .ok (.ifCond .ne 7, 3) := by decide +kernel
theorem dX7_folded_102 : decode cX7_folded 102 = .ok (.iload_n 3, 1) := by decide +kernel
theorem dX7_folded_103 : decode cX7_folded 103 = .ok (.goto 7, 3) := by decide +kernel
theorem dX7_folded_106 : decode cX7_folded 106 = .ok (.iload_n 3, 1) := by decide +kernel
theorem dX7_folded_107 : decode cX7_folded 107 = .ok (.invokestatic 93, 3) := by decide +kernel
theorem dX7_folded_110 : decode cX7_folded 110 = .ok (.ireturn, 1) := by decide +kernel
noncomputable def f_X7_folded_b16  (σ : Hp) : Option (Int32 × Hp) := some ((-1), σ)
set_option maxRecDepth 100000 in
set_option maxHeartbeats 4000000 in
theorem t_X7_folded_b16 {l : Launch} {γ : Gm} {ad : Nat → Nat} {K : Option Value → Hp → Prop} (hc : Cx l γ 3 5 ad shM RX7 cX7_folded (some .int) K)  {σ : Hp} (h : wpO (f_X7_folded_b16  σ) (KI K)) : WW l γ 3 5 ad shM 16 [] [] σ := by
  unfold f_X7_folded_b16 at h
  refine r_iconst hc (v := (-1)) (by decide) dX7_folded_16 ?_
  have h := wp_v h
  exact r_iret hc h dX7_folded_17
noncomputable def f_X7_folded_b89 (x0 : Nat) (x1 : Int32) (x2 : Int32) (x3 : Int32) (x4 : Int32) (σ : Hp) : Option (((Int32 × Int32) ⊕ (Int32)) × Hp) := some (Sum.inl (x3, (x4 + 1)), σ)
set_option maxRecDepth 100000 in
set_option maxHeartbeats 4000000 in
theorem t_X7_folded_b89 {l : Launch} {γ : Gm} {ad : Nat → Nat} {K : Option Value → Hp → Prop} (hc : Cx l γ 3 5 ad shM RX7 cX7_folded (some .int) K) {x0 : Nat} {x1 : Int32} {x2 : Int32} {x3 : Int32} {x4 : Int32}  {σ : Hp} {KL : ((Int32 × Int32) ⊕ (Int32)) → Hp → Prop} (h : wpO (f_X7_folded_b89 x0 x1 x2 x3 x4 σ) KL) (kn : ∀ (v : (Int32 × Int32)) (σ : Hp), KL (Sum.inl v) σ → WW l γ 3 5 ad shM 43 [(0, .ref (ad x0)), (1, .int x1), (2, .int x2), (3, .int v.1), (4, .int v.2)] [] σ) (kx98 : ∀ (v : Int32) (σ : Hp), KL (Sum.inr v) σ → WW l γ 3 5 ad shM 98 [(2, .int x2), (3, .int v)] [] σ) : WW l γ 3 5 ad shM 89 [(0, .ref (ad x0)), (1, .int x1), (2, .int x2), (3, .int x3), (4, .int x4)] [] σ := by
  unfold f_X7_folded_b89 at h
  refine r_iload hc 4 rfl dX7_folded_89 ?_
  refine r_iconst hc (v := 1) (by decide) dX7_folded_91 ?_
  refine r_iadd hc dX7_folded_92 ?_
  refine r_istoreE hc (i := 4) (lv' := [(4, .int (x4 + 1)), (0, .ref (ad x0)), (1, .int x1), (2, .int x2), (3, .int x3)]) rfl (by decide) rfl dX7_folded_93 ?_
  refine r_goto hc (tgt := 43) dX7_folded_95 (by decide) ?_
  refine r_sub [1, 2, 3, 4, 0] (lv' := [(0, .ref (ad x0)), (1, .int x1), (2, .int x2), (3, .int x3), (4, .int (x4 + 1))]) rfl ?_
  have h := wp_v h
  exact kn (x3, (x4 + 1)) _ h
noncomputable def f_X7_folded_L43 (x0 : Nat) (x1 : Int32) (x2 : Int32) (v : (Int32 × Int32)) (σ : Hp) : Option (((Int32 × Int32) ⊕ (Int32)) × Hp) := gO (getR shM 7 x0 0 σ) fun v1 => gO (aldI shM 0 v1 x1 σ) fun v2 => if v2 ≤ v.2 then (some (Sum.inr v.1, σ)) else (bO (f_X7_has v.1 v.2 σ) fun r3 σ4 => if r3 = 0 then (f_X7_folded_b89 x0 x1 x2 v.1 v.2 σ4) else (gO (chk shM x0 7) fun _ => bO (f_X7_goesInto x0 x1 v.1 v.2 σ4) fun r5 σ6 => if r5 = 0 then (f_X7_folded_b89 x0 x1 x2 v.1 v.2 σ6) else (lt' ((v.1 &&& (((1 : Int32) <<< (v.2 &&& 31)) ^^^ (-1)))) fun t8 => some (Sum.inl (t8, 0), σ6))))
set_option maxRecDepth 100000 in
set_option maxHeartbeats 4000000 in
theorem t_X7_folded_L43 {l : Launch} {γ : Gm} {ad : Nat → Nat} {K : Option Value → Hp → Prop}  (hc : Cx l γ 3 5 ad shM RX7 cX7_folded (some .int) K) {x0 : Nat} {x1 : Int32} {x2 : Int32} {v : (Int32 × Int32)} {σ : Hp} {KX : (Int32) → Hp → Prop} (h : wpO (wh (f_X7_folded_L43 x0 x1 x2) v σ) KX) (kx98 : ∀ (v : Int32) (σ : Hp), KX v σ → WW l γ 3 5 ad shM 98 [(2, .int x2), (3, .int v)] [] σ) : WW l γ 3 5 ad shM 43 [(0, .ref (ad x0)), (1, .int x1), (2, .int x2), (3, .int v.1), (4, .int v.2)] [] σ := by
  refine wh_W (P := fun v σ => WW l γ 3 5 ad shM 43 [(0, .ref (ad x0)), (1, .int x1), (2, .int x2), (3, .int v.1), (4, .int v.2)] [] σ) (fun v σ h => ?_) h
  have kn : ∀ (v : (Int32 × Int32)) (σ : Hp), WW l γ 3 5 ad shM 43 [(0, .ref (ad x0)), (1, .int x1), (2, .int x2), (3, .int v.1), (4, .int v.2)] [] σ → WW l γ 3 5 ad shM 43 [(0, .ref (ad x0)), (1, .int x1), (2, .int x2), (3, .int v.1), (4, .int v.2)] [] σ := fun _ _ h => h
  · unfold f_X7_folded_L43 at h
    refine r_iload hc 4 rfl dX7_folded_43 ?_
    refine r_aload_n hc 0 rfl rfl dX7_folded_45 ?_
    obtain ⟨v1, ev1, h⟩ := wp_g h
    refine r_getR hc ev1 fl_X7_7 rfl dX7_folded_46 ?_
    refine r_iload_n hc 1 rfl rfl dX7_folded_49 ?_
    obtain ⟨v2, ev2, h⟩ := wp_g h
    refine r_iald hc ev2 dX7_folded_50 ?_
    refine r_icmp_ge hc (tgt := 98) dX7_folded_51 (by decide) (fun c => ?_) (fun c => ?_)
    · have h := wp_t c h
      refine r_sub [2, 3] (lv' := [(2, .int x2), (3, .int v.1)]) rfl ?_
      have h := wp_v h
      exact kx98 v.1 _ h
    · have h := wp_f c h
      refine r_iload_n hc 3 rfl rfl dX7_folded_54 ?_
      refine r_iload hc 4 rfl dX7_folded_55 ?_
      obtain ⟨r3, σ4, er3, h⟩ := wp_b h
      refine r_callS hc ms_X7_has ml_X7_89 (c_X7_has er3) rfl rfl (by decide) rfl (Nat.le_of_ble_eq_true rfl) dX7_folded_57 ?_
      refine r_if_eq hc (tgt := 89) dX7_folded_60 (by decide) (fun c => ?_) (fun c => ?_)
      · have h := wp_t c h
        exact t_X7_folded_b89 hc h kn kx98
      · have h := wp_f c h
        refine r_aload_n hc 0 rfl rfl dX7_folded_63 ?_
        refine r_iload_n hc 1 rfl rfl dX7_folded_64 ?_
        refine r_iload_n hc 3 rfl rfl dX7_folded_65 ?_
        refine r_iload hc 4 rfl dX7_folded_66 ?_
        obtain ⟨_, ek7, h⟩ := wp_g h
        obtain ⟨r5, σ6, er5, h⟩ := wp_b h
        refine r_callV hc (k0 := x0) mv_X7_goesInto ml_X7_340 (c_X7_goesInto er5) (chk_of ek7) cls_7.1 rfl rfl rfl (by decide) rfl (Nat.le_of_ble_eq_true rfl) dX7_folded_68 ?_
        refine r_if_eq hc (tgt := 89) dX7_folded_71 (by decide) (fun c => ?_) (fun c => ?_)
        · have h := wp_t c h
          exact t_X7_folded_b89 hc h kn kx98
        · have h := wp_f c h
          refine r_iload_n hc 3 rfl rfl dX7_folded_74 ?_
          refine r_iconst hc (v := 1) (by decide) dX7_folded_75 ?_
          refine r_iload hc 4 rfl dX7_folded_76 ?_
          refine r_ishl hc dX7_folded_78 ?_
          refine r_iconst hc (v := (-1)) (by decide) dX7_folded_79 ?_
          refine r_ixor hc dX7_folded_80 ?_
          refine r_iand hc dX7_folded_81 ?_
          obtain ⟨t8, et8, h⟩ := wp_l h
          refine r_istore_nE hc (i := 3) (lv' := [(3, .int t8), (0, .ref (ad x0)), (1, .int x1), (2, .int x2), (4, .int v.2)]) et8 rfl (by decide) rfl dX7_folded_82 ?_
          refine r_iconst hc (v := 0) (by decide) dX7_folded_83 ?_
          refine r_istoreE hc (i := 4) (lv' := [(4, .int 0), (3, .int t8), (0, .ref (ad x0)), (1, .int x1), (2, .int x2)]) rfl (by decide) rfl dX7_folded_84 ?_
          refine r_goto hc (tgt := 43) dX7_folded_86 (by decide) ?_
          refine r_sub [2, 3, 4, 1, 0] (lv' := [(0, .ref (ad x0)), (1, .int x1), (2, .int x2), (3, .int t8), (4, .int 0)]) rfl ?_
          have h := wp_v h
          exact kn (t8, 0) _ h
noncomputable def f_X7_folded_b110 (s0 : Int32) (σ : Hp) : Option (Int32 × Hp) := some (s0, σ)
set_option maxRecDepth 100000 in
set_option maxHeartbeats 4000000 in
theorem t_X7_folded_b110 {l : Launch} {γ : Gm} {ad : Nat → Nat} {K : Option Value → Hp → Prop} (hc : Cx l γ 3 5 ad shM RX7 cX7_folded (some .int) K) {s0 : Int32} {σ : Hp} (h : wpO (f_X7_folded_b110 s0 σ) (KI K)) : WW l γ 3 5 ad shM 110 [] [.int s0] σ := by
  unfold f_X7_folded_b110 at h
  have h := wp_v h
  exact r_iret hc h dX7_folded_110
noncomputable def f_X7_folded (x0 : Nat) (x1 : Int32) (x2 : Int32) (σ : Hp) : Option (Int32 × Hp) := bO (f_X7_isDrawer x1 σ) fun r1 σ2 => if r1 = 0 then (f_X7_folded_b16  σ2) else (bO (f_X7_in x2 0 1 σ2) fun r3 σ4 => if r3 = 0 then (f_X7_folded_b16  σ4) else (gO (chk shM x0 7) fun _ => bO (f_X7_isEmpty x0 x1 σ4) fun r5 σ6 => if r5 = 0 then (gO (getR shM 7 x0 0 σ6) fun v8 => gO (aldI shM 0 v8 x1 σ6) fun v9 => lt' ((((1 : Int32) <<< (v9 &&& 31)) - 1)) fun t10 => bO (wh (f_X7_folded_L43 x0 x1 x2) (t10, 0) σ6) fun y11 σ12 => (if x2 = 0 then (f_X7_folded_b110 y11 σ12) else (bO (f_X7_bits y11 σ12) fun r13 σ14 => f_X7_folded_b110 r13 σ14))) else (some ((-2), σ6))))
set_option maxRecDepth 100000 in
set_option maxHeartbeats 4000000 in
theorem t_X7_folded {l : Launch} {γ : Gm} {ad : Nat → Nat} {K : Option Value → Hp → Prop} (hc : Cx l γ 3 5 ad shM RX7 cX7_folded (some .int) K) {x0 : Nat} {x1 : Int32} {x2 : Int32} {σ : Hp} (h : wpO (f_X7_folded x0 x1 x2 σ) (KI K)) : WW l γ 3 5 ad shM 0 [(0, .ref (ad x0)), (1, .int x1), (2, .int x2)] [] σ := by
  unfold f_X7_folded at h
  refine r_iload_n hc 1 rfl rfl dX7_folded_0 ?_
  obtain ⟨r1, σ2, er1, h⟩ := wp_b h
  refine r_callS hc ms_X7_isDrawer ml_X7_132 (c_X7_isDrawer er1) rfl rfl (by decide) rfl (Nat.le_of_ble_eq_true rfl) dX7_folded_1 ?_
  refine r_if_eq hc (tgt := 16) dX7_folded_4 (by decide) (fun c => ?_) (fun c => ?_)
  · have h := wp_t c h
    refine r_sub [] (lv' := []) rfl ?_
    exact t_X7_folded_b16 hc h
  · have h := wp_f c h
    refine r_iload_n hc 2 rfl rfl dX7_folded_7 ?_
    refine r_iconst hc (v := 0) (by decide) dX7_folded_8 ?_
    refine r_iconst hc (v := 1) (by decide) dX7_folded_9 ?_
    obtain ⟨r3, σ4, er3, h⟩ := wp_b h
    refine r_callS hc ms_X7_in ml_X7_81 (c_X7_in er3) rfl rfl (by decide) rfl (Nat.le_of_ble_eq_true rfl) dX7_folded_10 ?_
    refine r_if_ne hc (tgt := 18) dX7_folded_13 (by decide) (fun c => ?_) (fun c => ?_)
    · have h := wp_f c h
      refine r_aload_n hc 0 rfl rfl dX7_folded_18 ?_
      refine r_iload_n hc 1 rfl rfl dX7_folded_19 ?_
      obtain ⟨_, ek7, h⟩ := wp_g h
      obtain ⟨r5, σ6, er5, h⟩ := wp_b h
      refine r_callV hc (k0 := x0) mv_X7_isEmpty ml_X7_85 (c_X7_isEmpty er5) (chk_of ek7) cls_7.1 rfl rfl rfl (by decide) rfl (Nat.le_of_ble_eq_true rfl) dX7_folded_20 ?_
      refine r_if_eq hc (tgt := 29) dX7_folded_23 (by decide) (fun c => ?_) (fun c => ?_)
      · have h := wp_t c h
        refine r_iconst hc (v := 1) (by decide) dX7_folded_29 ?_
        refine r_aload_n hc 0 rfl rfl dX7_folded_30 ?_
        obtain ⟨v8, ev8, h⟩ := wp_g h
        refine r_getR hc ev8 fl_X7_7 rfl dX7_folded_31 ?_
        refine r_iload_n hc 1 rfl rfl dX7_folded_34 ?_
        obtain ⟨v9, ev9, h⟩ := wp_g h
        refine r_iald hc ev9 dX7_folded_35 ?_
        refine r_ishl hc dX7_folded_36 ?_
        refine r_iconst hc (v := 1) (by decide) dX7_folded_37 ?_
        refine r_isub hc dX7_folded_38 ?_
        obtain ⟨t10, et10, h⟩ := wp_l h
        refine r_istore_nE hc (i := 3) (lv' := [(3, .int t10), (0, .ref (ad x0)), (1, .int x1), (2, .int x2)]) et10 rfl (by decide) rfl dX7_folded_39 ?_
        refine r_iconst hc (v := 0) (by decide) dX7_folded_40 ?_
        refine r_istoreE hc (i := 4) (lv' := [(4, .int 0), (3, .int t10), (0, .ref (ad x0)), (1, .int x1), (2, .int x2)]) rfl (by decide) rfl dX7_folded_41 ?_
        refine r_sub [2, 3, 4, 1, 0] (lv' := [(0, .ref (ad x0)), (1, .int x1), (2, .int x2), (3, .int t10), (4, .int 0)]) rfl ?_
        refine t_X7_folded_L43 hc (wp_bb h) ?_
        · intro y11 σ12 h
          refine r_iload_n hc 0 rfl rfl dX7_folded_98 ?_
          refine r_if_ne hc (tgt := 106) dX7_folded_99 (by decide) (fun c => ?_) (fun c => ?_)
          · have h := wp_f c h
            refine r_iload_n hc 1 rfl rfl dX7_folded_106 ?_
            obtain ⟨r13, σ14, er13, h⟩ := wp_b h
            refine r_callS hc ms_X7_bits ml_X7_93 (c_X7_bits er13) rfl rfl (by decide) rfl (Nat.le_of_ble_eq_true rfl) dX7_folded_107 ?_
            refine r_sub [] (lv' := []) rfl ?_
            exact t_X7_folded_b110 hc h
          · have h := wp_t c h
            refine r_iload_n hc 1 rfl rfl dX7_folded_102 ?_
            refine r_goto hc (tgt := 110) dX7_folded_103 (by decide) ?_
            refine r_sub [] (lv' := []) rfl ?_
            exact t_X7_folded_b110 hc h
      · have h := wp_f c h
        refine r_bipush hc (v := (-2)) (by decide) dX7_folded_26 ?_
        have h := wp_v h
        exact r_iret hc h dX7_folded_28
    · have h := wp_t c h
      refine r_sub [] (lv' := []) rfl ?_
      exact t_X7_folded_b16 hc h
theorem c_X7_folded {l : Launch} {x0 : Nat} {x1 : Int32} {x2 : Int32} {σ σ' : Hp} {r : Int32} (h : f_X7_folded x0 x1 x2 σ = some (r, σ')) : Mt l yX7_folded cX7_folded 5 (some .int) 3 shM (fun ad => [.ref (ad x0), .int x1, .int x2]) σ (fun ad => some (.int r)) σ' := mt_i (own := RX7) (by decide) rfl (fun _ => Nat.le_of_ble_eq_true rfl) (fun γ ad K hc hk => t_X7_folded hc ⟨_, _, h, hk⟩)

-- NetMapsModel.orbit(II)I
theorem dX7_orbit_0 : decode cX7_orbit 0 = .ok (.iload_n 1, 1) := by decide +kernel
theorem dX7_orbit_1 : decode cX7_orbit 1 = .ok (.invokestatic 132, 3) := by decide +kernel
theorem dX7_orbit_4 : decode cX7_orbit 4 = .ok (.ifCond .eq 12, 3) := by decide +kernel
theorem dX7_orbit_7 : decode cX7_orbit 7 = .ok (.aload_n 0, 1) := by decide +kernel
theorem dX7_orbit_8 : decode cX7_orbit 8 = .ok (.iload_n 1, 1) := by decide +kernel
theorem dX7_orbit_9 : decode cX7_orbit 9 = .ok (.iload_n 2, 1) := by decide +kernel
theorem dX7_orbit_10 : decode cX7_orbit 10 = .ok (.invokevirtual 144, 3) := by decide +kernel
theorem dX7_orbit_13 : decode cX7_orbit 13 = .ok (.ifCond .ne 5, 3) := by decide +kernel
theorem dX7_orbit_16 : decode cX7_orbit 16 = .ok (.iconst (-1), 1) := by decide +kernel
theorem dX7_orbit_17 : decode cX7_orbit 17 = .ok (.ireturn, 1) := by decide +kernel
theorem dX7_orbit_18 : decode cX7_orbit 18 = .ok (.aload_n 0, 1) := by decide +kernel
theorem dX7_orbit_19 : decode cX7_orbit 19 = .ok (.iload_n 1, 1) := by decide +kernel
theorem dX7_orbit_20 : decode cX7_orbit 20 = .ok (.invokevirtual 85, 3) := by decide +kernel
theorem dX7_orbit_23 : decode cX7_orbit 23 = .ok (.ifCond .eq 6, 3) := by decide +kernel
theorem dX7_orbit_26 : decode cX7_orbit 26 = .ok (.bipush (-2), 2) := by decide +kernel
theorem dX7_orbit_28 : decode cX7_orbit 28 = .ok (.ireturn, 1) := by decide +kernel
theorem dX7_orbit_29 : decode cX7_orbit 29 = .ok (.iconst 0, 1) := by decide +kernel
theorem dX7_orbit_30 : decode cX7_orbit 30 = .ok (.istore_n 3, 1) := by decide +kernel
theorem dX7_orbit_31 : decode cX7_orbit 31 = .ok (.aload_n 0, 1) := by decide +kernel
theorem dX7_orbit_32 : decode cX7_orbit 32 = .ok (.iload_n 1, 1) := by decide +kernel
theorem dX7_orbit_33 : decode cX7_orbit 33 = .ok (.iload_n 1, 1) := by decide +kernel
theorem dX7_orbit_34 : decode cX7_orbit 34 = .ok (.iconst 0, 1) := by decide +kernel
theorem dX7_orbit_35 : decode cX7_orbit 35 = .ok (.invokevirtual 237, 3) := by decide +kernel
theorem dX7_orbit_38 : decode cX7_orbit 38 = .ok (.aload_n 0, 1) := by decide +kernel
theorem dX7_orbit_39 : decode cX7_orbit 39 = .ok (.invokevirtual 240, 3) := by decide +kernel
theorem dX7_orbit_42 : decode cX7_orbit 42 = .ok (.ifCond .eq 25, 3) := by decide +kernel
theorem dX7_orbit_45 : decode cX7_orbit 45 = .ok (.aload_n 0, 1) := by decide +kernel
theorem dX7_orbit_46 : decode cX7_orbit 46 = .ok (.iconst 4, 1) := by decide +kernel
theorem dX7_orbit_47 : decode cX7_orbit 47 = .ok (.invokevirtual 249, 3) := by decide +kernel
theorem dX7_orbit_50 : decode cX7_orbit 50 = .ok (.ifCond .eq (-12), 3) := by decide +kernel
theorem dX7_orbit_53 : decode cX7_orbit 53 = .ok (.iload_n 3, 1) := by decide +kernel
theorem dX7_orbit_54 : decode cX7_orbit 54 = .ok (.iconst 1, 1) := by decide +kernel
theorem dX7_orbit_55 : decode cX7_orbit 55 = .ok (.aload_n 0, 1) := by decide +kernel
theorem dX7_orbit_56 : decode cX7_orbit 56 = .ok (.getfield 29, 3) := by decide +kernel
theorem dX7_orbit_59 : decode cX7_orbit 59 = .ok (.iload_n 2, 1) := by decide +kernel
theorem dX7_orbit_60 : decode cX7_orbit 60 = .ok (.iaload, 1) := by decide +kernel
theorem dX7_orbit_61 : decode cX7_orbit 61 = .ok (.ishl, 1) := by decide +kernel
theorem dX7_orbit_62 : decode cX7_orbit 62 = .ok (.ior, 1) := by decide +kernel
theorem dX7_orbit_63 : decode cX7_orbit 63 = .ok (.istore_n 3, 1) := by decide +kernel
theorem dX7_orbit_64 : decode cX7_orbit 64 = .ok (.goto (-26), 3) := by decide +kernel
theorem dX7_orbit_67 : decode cX7_orbit 67 = .ok (.iload_n 3, 1) := by decide +kernel
theorem dX7_orbit_68 : decode cX7_orbit 68 = .ok (.ireturn, 1) := by decide +kernel
noncomputable def f_X7_orbit_b16  (σ : Hp) : Option (Int32 × Hp) := some ((-1), σ)
set_option maxRecDepth 100000 in
set_option maxHeartbeats 4000000 in
theorem t_X7_orbit_b16 {l : Launch} {γ : Gm} {ad : Nat → Nat} {K : Option Value → Hp → Prop} (hc : Cx l γ 5 4 ad shM RX7 cX7_orbit (some .int) K)  {σ : Hp} (h : wpO (f_X7_orbit_b16  σ) (KI K)) : WW l γ 5 4 ad shM 16 [] [] σ := by
  unfold f_X7_orbit_b16 at h
  refine r_iconst hc (v := (-1)) (by decide) dX7_orbit_16 ?_
  have h := wp_v h
  exact r_iret hc h dX7_orbit_17
noncomputable def f_X7_orbit_L38 (x0 : Nat) (x2 : Int32) (v : (Int32)) (σ : Hp) : Option (((Int32) ⊕ (Int32)) × Hp) := gO (chk shM x0 7) fun _ => bO (f_X7_next x0 σ) fun r1 σ2 => if r1 = 0 then (some (Sum.inr v, σ2)) else (gO (chk shM x0 7) fun _ => bO (f_X7_isOf x0 4 σ2) fun r4 σ5 => if r4 = 0 then (some (Sum.inl v, σ5)) else (gO (getR shM 7 x0 9 σ5) fun v7 => gO (aldI shM 0 v7 x2 σ5) fun v8 => lt' ((v ||| ((1 : Int32) <<< (v8 &&& 31)))) fun t9 => some (Sum.inl t9, σ5)))
set_option maxRecDepth 100000 in
set_option maxHeartbeats 4000000 in
theorem t_X7_orbit_L38 {l : Launch} {γ : Gm} {ad : Nat → Nat} {K : Option Value → Hp → Prop}  (hc : Cx l γ 5 4 ad shM RX7 cX7_orbit (some .int) K) {x0 : Nat} {x2 : Int32} {v : (Int32)} {σ : Hp} {KX : (Int32) → Hp → Prop} (h : wpO (wh (f_X7_orbit_L38 x0 x2) v σ) KX) (kx67 : ∀ (v : Int32) (σ : Hp), KX v σ → WW l γ 5 4 ad shM 67 [(3, .int v)] [] σ) : WW l γ 5 4 ad shM 38 [(0, .ref (ad x0)), (2, .int x2), (3, .int v)] [] σ := by
  refine wh_W (P := fun v σ => WW l γ 5 4 ad shM 38 [(0, .ref (ad x0)), (2, .int x2), (3, .int v)] [] σ) (fun v σ h => ?_) h
  have kn : ∀ (v : (Int32)) (σ : Hp), WW l γ 5 4 ad shM 38 [(0, .ref (ad x0)), (2, .int x2), (3, .int v)] [] σ → WW l γ 5 4 ad shM 38 [(0, .ref (ad x0)), (2, .int x2), (3, .int v)] [] σ := fun _ _ h => h
  · unfold f_X7_orbit_L38 at h
    refine r_aload_n hc 0 rfl rfl dX7_orbit_38 ?_
    obtain ⟨_, ek3, h⟩ := wp_g h
    obtain ⟨r1, σ2, er1, h⟩ := wp_b h
    refine r_callV hc (k0 := x0) mv_X7_next ml_X7_240 (c_X7_next er1) (chk_of ek3) cls_7.1 rfl rfl rfl (by decide) rfl (Nat.le_of_ble_eq_true rfl) dX7_orbit_39 ?_
    refine r_if_eq hc (tgt := 67) dX7_orbit_42 (by decide) (fun c => ?_) (fun c => ?_)
    · have h := wp_t c h
      refine r_sub [2] (lv' := [(3, .int v)]) rfl ?_
      have h := wp_v h
      exact kx67 v _ h
    · have h := wp_f c h
      refine r_aload_n hc 0 rfl rfl dX7_orbit_45 ?_
      refine r_iconst hc (v := 4) (by decide) dX7_orbit_46 ?_
      obtain ⟨_, ek6, h⟩ := wp_g h
      obtain ⟨r4, σ5, er4, h⟩ := wp_b h
      refine r_callV hc (k0 := x0) mv_X7_isOf ml_X7_249 (c_X7_isOf er4) (chk_of ek6) cls_7.1 rfl rfl rfl (by decide) rfl (Nat.le_of_ble_eq_true rfl) dX7_orbit_47 ?_
      refine r_if_eq hc (tgt := 38) dX7_orbit_50 (by decide) (fun c => ?_) (fun c => ?_)
      · have h := wp_t c h
        have h := wp_v h
        exact kn v _ h
      · have h := wp_f c h
        refine r_iload_n hc 2 rfl rfl dX7_orbit_53 ?_
        refine r_iconst hc (v := 1) (by decide) dX7_orbit_54 ?_
        refine r_aload_n hc 0 rfl rfl dX7_orbit_55 ?_
        obtain ⟨v7, ev7, h⟩ := wp_g h
        refine r_getR hc ev7 fl_X7_29 rfl dX7_orbit_56 ?_
        refine r_iload_n hc 1 rfl rfl dX7_orbit_59 ?_
        obtain ⟨v8, ev8, h⟩ := wp_g h
        refine r_iald hc ev8 dX7_orbit_60 ?_
        refine r_ishl hc dX7_orbit_61 ?_
        refine r_ior hc dX7_orbit_62 ?_
        obtain ⟨t9, et9, h⟩ := wp_l h
        refine r_istore_nE hc (i := 3) (lv' := [(3, .int t9), (0, .ref (ad x0)), (2, .int x2)]) et9 rfl (by decide) rfl dX7_orbit_63 ?_
        refine r_goto hc (tgt := 38) dX7_orbit_64 (by decide) ?_
        refine r_sub [1, 2, 0] (lv' := [(0, .ref (ad x0)), (2, .int x2), (3, .int t9)]) rfl ?_
        have h := wp_v h
        exact kn t9 _ h
noncomputable def f_X7_orbit (x0 : Nat) (x1 : Int32) (x2 : Int32) (σ : Hp) : Option (Int32 × Hp) := bO (f_X7_isDrawer x1 σ) fun r1 σ2 => if r1 = 0 then (f_X7_orbit_b16  σ2) else (gO (chk shM x0 7) fun _ => bO (f_X7_isNode x0 x1 x2 σ2) fun r3 σ4 => if r3 = 0 then (f_X7_orbit_b16  σ4) else (gO (chk shM x0 7) fun _ => bO (f_X7_isEmpty x0 x1 σ4) fun r6 σ7 => if r6 = 0 then (gO (chk shM x0 7) fun _ => bO (f_X7_starts x0 x1 x1 0 σ7) fun _ σ10 => bO (wh (f_X7_orbit_L38 x0 x2) 0 σ10) fun y12 σ13 => (some (y12, σ13))) else (some ((-2), σ7))))
set_option maxRecDepth 100000 in
set_option maxHeartbeats 4000000 in
theorem t_X7_orbit {l : Launch} {γ : Gm} {ad : Nat → Nat} {K : Option Value → Hp → Prop} (hc : Cx l γ 5 4 ad shM RX7 cX7_orbit (some .int) K) {x0 : Nat} {x1 : Int32} {x2 : Int32} {σ : Hp} (h : wpO (f_X7_orbit x0 x1 x2 σ) (KI K)) : WW l γ 5 4 ad shM 0 [(0, .ref (ad x0)), (1, .int x1), (2, .int x2)] [] σ := by
  unfold f_X7_orbit at h
  refine r_iload_n hc 1 rfl rfl dX7_orbit_0 ?_
  obtain ⟨r1, σ2, er1, h⟩ := wp_b h
  refine r_callS hc ms_X7_isDrawer ml_X7_132 (c_X7_isDrawer er1) rfl rfl (by decide) rfl (Nat.le_of_ble_eq_true rfl) dX7_orbit_1 ?_
  refine r_if_eq hc (tgt := 16) dX7_orbit_4 (by decide) (fun c => ?_) (fun c => ?_)
  · have h := wp_t c h
    refine r_sub [] (lv' := []) rfl ?_
    exact t_X7_orbit_b16 hc h
  · have h := wp_f c h
    refine r_aload_n hc 0 rfl rfl dX7_orbit_7 ?_
    refine r_iload_n hc 1 rfl rfl dX7_orbit_8 ?_
    refine r_iload_n hc 2 rfl rfl dX7_orbit_9 ?_
    obtain ⟨_, ek5, h⟩ := wp_g h
    obtain ⟨r3, σ4, er3, h⟩ := wp_b h
    refine r_callV hc (k0 := x0) mv_X7_isNode ml_X7_144 (c_X7_isNode er3) (chk_of ek5) cls_7.1 rfl rfl rfl (by decide) rfl (Nat.le_of_ble_eq_true rfl) dX7_orbit_10 ?_
    refine r_if_ne hc (tgt := 18) dX7_orbit_13 (by decide) (fun c => ?_) (fun c => ?_)
    · have h := wp_f c h
      refine r_aload_n hc 0 rfl rfl dX7_orbit_18 ?_
      refine r_iload_n hc 1 rfl rfl dX7_orbit_19 ?_
      obtain ⟨_, ek8, h⟩ := wp_g h
      obtain ⟨r6, σ7, er6, h⟩ := wp_b h
      refine r_callV hc (k0 := x0) mv_X7_isEmpty ml_X7_85 (c_X7_isEmpty er6) (chk_of ek8) cls_7.1 rfl rfl rfl (by decide) rfl (Nat.le_of_ble_eq_true rfl) dX7_orbit_20 ?_
      refine r_if_eq hc (tgt := 29) dX7_orbit_23 (by decide) (fun c => ?_) (fun c => ?_)
      · have h := wp_t c h
        refine r_iconst hc (v := 0) (by decide) dX7_orbit_29 ?_
        refine r_istore_nE hc (i := 3) (lv' := [(3, .int 0), (0, .ref (ad x0)), (1, .int x1), (2, .int x2)]) rfl rfl (by decide) rfl dX7_orbit_30 ?_
        refine r_aload_n hc 1 rfl rfl dX7_orbit_31 ?_
        refine r_iload_n hc 2 rfl rfl dX7_orbit_32 ?_
        refine r_iload_n hc 2 rfl rfl dX7_orbit_33 ?_
        refine r_iconst hc (v := 0) (by decide) dX7_orbit_34 ?_
        obtain ⟨_, ek11, h⟩ := wp_g h
        obtain ⟨_, σ10, er9, h⟩ := wp_b h
        refine r_callV hc (k0 := x0) mv_X7_starts ml_X7_237 (c_X7_starts er9) (chk_of ek11) cls_7.1 rfl rfl rfl (by decide) rfl (Nat.le_of_ble_eq_true rfl) dX7_orbit_35 ?_
        refine r_sub [1, 3, 0] (lv' := [(0, .ref (ad x0)), (2, .int x2), (3, .int 0)]) rfl ?_
        refine t_X7_orbit_L38 hc (wp_bb h) ?_
        · intro y12 σ13 h
          refine r_iload_n hc 0 rfl rfl dX7_orbit_67 ?_
          have h := wp_v h
          exact r_iret hc h dX7_orbit_68
      · have h := wp_f c h
        refine r_bipush hc (v := (-2)) (by decide) dX7_orbit_26 ?_
        have h := wp_v h
        exact r_iret hc h dX7_orbit_28
    · have h := wp_t c h
      refine r_sub [] (lv' := []) rfl ?_
      exact t_X7_orbit_b16 hc h
theorem c_X7_orbit {l : Launch} {x0 : Nat} {x1 : Int32} {x2 : Int32} {σ σ' : Hp} {r : Int32} (h : f_X7_orbit x0 x1 x2 σ = some (r, σ')) : Mt l yX7_orbit cX7_orbit 4 (some .int) 5 shM (fun ad => [.ref (ad x0), .int x1, .int x2]) σ (fun ad => some (.int r)) σ' := mt_i (own := RX7) (by decide) rfl (fun _ => Nat.le_of_ble_eq_true rfl) (fun γ ad K hc hk => t_X7_orbit hc ⟨_, _, h, hk⟩)

-- NetMapsModel.ways(IIII)I
theorem dX7_ways_0 : decode cX7_ways 0 = .ok (.iload_n 1, 1) := by decide +kernel
theorem dX7_ways_1 : decode cX7_ways 1 = .ok (.invokestatic 132, 3) := by decide +kernel
theorem dX7_ways_4 : decode cX7_ways 4 = .ok (.ifCond .eq 32, 3) := by decide +kernel
theorem dX7_ways_7 : decode cX7_ways 7 = .ok (.aload_n 0, 1) := by decide +kernel
theorem dX7_ways_8 : decode cX7_ways 8 = .ok (.iload_n 1, 1) := by decide +kernel
theorem dX7_ways_9 : decode cX7_ways 9 = .ok (.iload_n 2, 1) := by decide +kernel
theorem dX7_ways_10 : decode cX7_ways 10 = .ok (.invokevirtual 144, 3) := by decide +kernel
theorem dX7_ways_13 : decode cX7_ways 13 = .ok (.ifCond .eq 23, 3) := by decide +kernel
theorem dX7_ways_16 : decode cX7_ways 16 = .ok (.aload_n 0, 1) := by decide +kernel
theorem dX7_ways_17 : decode cX7_ways 17 = .ok (.iload_n 1, 1) := by decide +kernel
theorem dX7_ways_18 : decode cX7_ways 18 = .ok (.iload_n 3, 1) := by decide +kernel
theorem dX7_ways_19 : decode cX7_ways 19 = .ok (.invokevirtual 144, 3) := by decide +kernel
theorem dX7_ways_22 : decode cX7_ways 22 = .ok (.ifCond .eq 14, 3) := by decide +kernel
theorem dX7_ways_25 : decode cX7_ways 25 = .ok (.iload 4, 2) := by decide +kernel
theorem dX7_ways_27 : decode cX7_ways 27 = .ok (.iconst 0, 1) := by decide +kernel
theorem dX7_ways_28 : decode cX7_ways 28 = .ok (.bipush 9, 2) := by decide +kernel
theorem dX7_ways_30 : decode cX7_ways 30 = .ok (.invokestatic 81, 3) := by decide +kernel
theorem dX7_ways_33 : decode cX7_ways 33 = .ok (.ifCond .ne 5, 3) := by decide +kernel
theorem dX7_ways_36 : decode cX7_ways 36 = .ok (.iconst (-1), 1) := by decide +kernel
theorem dX7_ways_37 : decode cX7_ways 37 = .ok (.ireturn, 1) := by decide +kernel
theorem dX7_ways_38 : decode cX7_ways 38 = .ok (.aload_n 0, 1) := by decide +kernel
theorem dX7_ways_39 : decode cX7_ways 39 = .ok (.iload_n 1, 1) := by decide +kernel
theorem dX7_ways_40 : decode cX7_ways 40 = .ok (.invokevirtual 85, 3) := by decide +kernel
theorem dX7_ways_43 : decode cX7_ways 43 = .ok (.ifCond .eq 6, 3) := by decide +kernel
theorem dX7_ways_46 : decode cX7_ways 46 = .ok (.bipush (-2), 2) := by decide +kernel
theorem dX7_ways_48 : decode cX7_ways 48 = .ok (.ireturn, 1) := by decide +kernel
theorem dX7_ways_49 : decode cX7_ways 49 = .ok (.iconst 0, 1) := by decide +kernel
theorem dX7_ways_50 : decode cX7_ways 50 = .ok (.istore 5, 2) := by decide +kernel
theorem dX7_ways_52 : decode cX7_ways 52 = .ok (.iload 5, 2) := by decide +kernel
theorem dX7_ways_54 : decode cX7_ways 54 = .ok (.bipush 7, 2) := by decide +kernel
theorem dX7_ways_56 : decode cX7_ways 56 = .ok (.if_icmp .ge 27, 3) := by decide +kernel
theorem dX7_ways_59 : decode cX7_ways 59 = .ok (.aload_n 0, 1) := by decide +kernel
theorem dX7_ways_60 : decode cX7_ways 60 = .ok (.getfield 60, 3) := by decide +kernel
theorem dX7_ways_63 : decode cX7_ways 63 = .ok (.iload 5, 2) := by decide +kernel
theorem dX7_ways_65 : decode cX7_ways 65 = .ok (.iload 5, 2) := by decide +kernel
theorem dX7_ways_67 : decode cX7_ways 67 = .ok (.iload_n 2, 1) := by decide +kernel
theorem dX7_ways_68 : decode cX7_ways 68 = .ok (.if_icmp .ne 7, 3) := by decide +kernel
theorem dX7_ways_71 : decode cX7_ways 71 = .ok (.iconst 1, 1) := by decide +kernel
theorem dX7_ways_72 : decode cX7_ways 72 = .ok (.goto 4, 3) := by decide +kernel
theorem dX7_ways_75 : decode cX7_ways 75 = .ok (.iconst 0, 1) := by decide +kernel
theorem dX7_ways_76 : decode cX7_ways 76 = .ok (.iastore, 1) := by decide +kernel
theorem dX7_ways_77 : decode cX7_ways 77 = .ok (.iinc 5 1, 3) := by decide +kernel
theorem dX7_ways_80 : decode cX7_ways 80 = .ok (.goto (-28), 3) := by decide +kernel
theorem dX7_ways_83 : decode cX7_ways 83 = .ok (.iconst 0, 1) := by decide +kernel
theorem dX7_ways_84 : decode cX7_ways 84 = .ok (.istore 5, 2) := by decide +kernel
theorem dX7_ways_86 : decode cX7_ways 86 = .ok (.iload 5, 2) := by decide +kernel
theorem dX7_ways_88 : decode cX7_ways 88 = .ok (.iload 4, 2) := by decide +kernel
theorem dX7_ways_90 : decode cX7_ways 90 = .ok (.if_icmp .ge 141, 3) := by decide +kernel
theorem dX7_ways_93 : decode cX7_ways 93 = .ok (.iconst 0, 1) := by decide +kernel
theorem dX7_ways_94 : decode cX7_ways 94 = .ok (.istore 6, 2) := by decide +kernel
theorem dX7_ways_96 : decode cX7_ways 96 = .ok (.iload 6, 2) := by decide +kernel
theorem dX7_ways_98 : decode cX7_ways 98 = .ok (.bipush 7, 2) := by decide +kernel
theorem dX7_ways_100 : decode cX7_ways 100 = .ok (.if_icmp .ge 17, 3) := by decide +kernel
theorem dX7_ways_103 : decode cX7_ways 103 = .ok (.aload_n 0, 1) := by decide +kernel
theorem dX7_ways_104 : decode cX7_ways 104 = .ok (.getfield 63, 3) := by decide +kernel
theorem dX7_ways_107 : decode cX7_ways 107 = .ok (.iload 6, 2) := by decide +kernel
theorem dX7_ways_109 : decode cX7_ways 109 = .ok (.iconst 0, 1) := by decide +kernel
theorem dX7_ways_110 : decode cX7_ways 110 = .ok (.iastore, 1) := by decide +kernel
theorem dX7_ways_111 : decode cX7_ways 111 = .ok (.iinc 6 1, 3) := by decide +kernel
theorem dX7_ways_114 : decode cX7_ways 114 = .ok (.goto (-18), 3) := by decide +kernel
theorem dX7_ways_117 : decode cX7_ways 117 = .ok (.iconst 0, 1) := by decide +kernel
theorem dX7_ways_118 : decode cX7_ways 118 = .ok (.istore 6, 2) := by decide +kernel
theorem dX7_ways_120 : decode cX7_ways 120 = .ok (.iload 6, 2) := by decide +kernel
theorem dX7_ways_122 : decode cX7_ways 122 = .ok (.aload_n 0, 1) := by decide +kernel
theorem dX7_ways_123 : decode cX7_ways 123 = .ok (.getfield 7, 3) := by decide +kernel
theorem dX7_ways_126 : decode cX7_ways 126 = .ok (.iload_n 1, 1) := by decide +kernel
theorem dX7_ways_127 : decode cX7_ways 127 = .ok (.iaload, 1) := by decide +kernel
theorem dX7_ways_128 : decode cX7_ways 128 = .ok (.if_icmp .ge 67, 3) := by decide +kernel
theorem dX7_ways_131 : decode cX7_ways 131 = .ok (.iconst 0, 1) := by decide +kernel
theorem dX7_ways_132 : decode cX7_ways 132 = .ok (.istore 7, 2) := by decide +kernel
theorem dX7_ways_134 : decode cX7_ways 134 = .ok (.iload 7, 2) := by decide +kernel
theorem dX7_ways_136 : decode cX7_ways 136 = .ok (.aload_n 0, 1) := by decide +kernel
theorem dX7_ways_137 : decode cX7_ways 137 = .ok (.getfield 7, 3) := by decide +kernel
theorem dX7_ways_140 : decode cX7_ways 140 = .ok (.iload_n 1, 1) := by decide +kernel
theorem dX7_ways_141 : decode cX7_ways 141 = .ok (.iaload, 1) := by decide +kernel
theorem dX7_ways_142 : decode cX7_ways 142 = .ok (.if_icmp .ge 47, 3) := by decide +kernel
theorem dX7_ways_145 : decode cX7_ways 145 = .ok (.aload_n 0, 1) := by decide +kernel
theorem dX7_ways_146 : decode cX7_ways 146 = .ok (.getfield 63, 3) := by decide +kernel
theorem dX7_ways_149 : decode cX7_ways 149 = .ok (.iload 7, 2) := by decide +kernel
theorem dX7_ways_151 : decode cX7_ways 151 = .ok (.aload_n 0, 1) := by decide +kernel
theorem dX7_ways_152 : decode cX7_ways 152 = .ok (.getfield 63, 3) := by decide +kernel
theorem dX7_ways_155 : decode cX7_ways 155 = .ok (.iload 7, 2) := by decide +kernel
theorem dX7_ways_157 : decode cX7_ways 157 = .ok (.iaload, 1) := by decide +kernel
theorem dX7_ways_158 : decode cX7_ways 158 = .ok (.aload_n 0, 1) := by decide +kernel
theorem dX7_ways_159 : decode cX7_ways 159 = .ok (.iload_n 1, 1) := by decide +kernel
theorem dX7_ways_160 : decode cX7_ways 160 = .ok (.iload 6, 2) := by decide +kernel
theorem dX7_ways_162 : decode cX7_ways 162 = .ok (.iload 7, 2) := by decide +kernel
theorem dX7_ways_164 : decode cX7_ways 164 = .ok (.invokevirtual 125, 3) := by decide +kernel
theorem dX7_ways_167 : decode cX7_ways 167 = .ok (.ifCond .eq 13, 3) := by decide +kernel
theorem dX7_ways_170 : decode cX7_ways 170 = .ok (.aload_n 0, 1) := by decide +kernel
theorem dX7_ways_171 : decode cX7_ways 171 = .ok (.getfield 60, 3) := by decide +kernel
theorem dX7_ways_174 : decode cX7_ways 174 = .ok (.iload 6, 2) := by decide +kernel
theorem dX7_ways_176 : decode cX7_ways 176 = .ok (.iaload, 1) := by decide +kernel
theorem dX7_ways_177 : decode cX7_ways 177 = .ok (.goto 4, 3) := by decide +kernel
theorem dX7_ways_180 : decode cX7_ways 180 = .ok (.iconst 0, 1) := by decide +kernel
theorem dX7_ways_181 : decode cX7_ways 181 = .ok (.iadd, 1) := by decide +kernel
theorem dX7_ways_182 : decode cX7_ways 182 = .ok (.iastore, 1) := by decide +kernel
theorem dX7_ways_183 : decode cX7_ways 183 = .ok (.iinc 7 1, 3) := by decide +kernel
theorem dX7_ways_186 : decode cX7_ways 186 = .ok (.goto (-52), 3) := by decide +kernel
theorem dX7_ways_189 : decode cX7_ways 189 = .ok (.iinc 6 1, 3) := by decide +kernel
theorem dX7_ways_192 : decode cX7_ways 192 = .ok (.goto (-72), 3) := by decide +kernel
theorem dX7_ways_195 : decode cX7_ways 195 = .ok (.iconst 0, 1) := by decide +kernel
theorem dX7_ways_196 : decode cX7_ways 196 = .ok (.istore 6, 2) := by decide +kernel
theorem dX7_ways_198 : decode cX7_ways 198 = .ok (.iload 6, 2) := by decide +kernel
theorem dX7_ways_200 : decode cX7_ways 200 = .ok (.bipush 7, 2) := by decide +kernel
theorem dX7_ways_202 : decode cX7_ways 202 = .ok (.if_icmp .ge 23, 3) := by decide +kernel
theorem dX7_ways_205 : decode cX7_ways 205 = .ok (.aload_n 0, 1) := by decide +kernel
theorem dX7_ways_206 : decode cX7_ways 206 = .ok (.getfield 60, 3) := by decide +kernel
theorem dX7_ways_209 : decode cX7_ways 209 = .ok (.iload 6, 2) := by decide +kernel
theorem dX7_ways_211 : decode cX7_ways 211 = .ok (.aload_n 0, 1) := by decide +kernel
theorem dX7_ways_212 : decode cX7_ways 212 = .ok (.getfield 63, 3) := by decide +kernel
theorem dX7_ways_215 : decode cX7_ways 215 = .ok (.iload 6, 2) := by decide +kernel
theorem dX7_ways_217 : decode cX7_ways 217 = .ok (.iaload, 1) := by decide +kernel
theorem dX7_ways_218 : decode cX7_ways 218 = .ok (.iastore, 1) := by decide +kernel
theorem dX7_ways_219 : decode cX7_ways 219 = .ok (.iinc 6 1, 3) := by decide +kernel
theorem dX7_ways_222 : decode cX7_ways 222 = .ok (.goto (-24), 3) := by decide +kernel
theorem dX7_ways_225 : decode cX7_ways 225 = .ok (.iinc 5 1, 3) := by decide +kernel
theorem dX7_ways_228 : decode cX7_ways 228 = .ok (.goto (-142), 3) := by decide +kernel
theorem dX7_ways_231 : decode cX7_ways 231 = .ok (.aload_n 0, 1) := by decide +kernel
theorem dX7_ways_232 : decode cX7_ways 232 = .ok (.getfield 60, 3) := by decide +kernel
theorem dX7_ways_235 : decode cX7_ways 235 = .ok (.iload_n 3, 1) := by decide +kernel
theorem dX7_ways_236 : decode cX7_ways 236 = .ok (.iaload, 1) := by decide +kernel
theorem dX7_ways_237 : decode cX7_ways 237 = .ok (.ireturn, 1) := by decide +kernel
noncomputable def f_X7_ways_b36  (σ : Hp) : Option (Int32 × Hp) := some ((-1), σ)
set_option maxRecDepth 100000 in
set_option maxHeartbeats 4000000 in
theorem t_X7_ways_b36 {l : Launch} {γ : Gm} {ad : Nat → Nat} {K : Option Value → Hp → Prop} (hc : Cx l γ 3 8 ad shM RX7 cX7_ways (some .int) K)  {σ : Hp} (h : wpO (f_X7_ways_b36  σ) (KI K)) : WW l γ 3 8 ad shM 36 [] [] σ := by
  unfold f_X7_ways_b36 at h
  refine r_iconst hc (v := (-1)) (by decide) dX7_ways_36 ?_
  have h := wp_v h
  exact r_iret hc h dX7_ways_37
noncomputable def f_X7_ways_b76 (x0 : Nat) (x1 : Int32) (x2 : Int32) (x3 : Int32) (x4 : Int32) (x5 : Int32) (s0 : Nat) (s1 : Int32) (s2 : Int32) (σ : Hp) : Option (((Int32) ⊕ (Unit)) × Hp) := gO (astI shM 0 s0 s1 s2 σ) fun σ1 => some (Sum.inl (x5 + 1), σ1)
set_option maxRecDepth 100000 in
set_option maxHeartbeats 4000000 in
theorem t_X7_ways_b76 {l : Launch} {γ : Gm} {ad : Nat → Nat} {K : Option Value → Hp → Prop} (hc : Cx l γ 3 8 ad shM RX7 cX7_ways (some .int) K) {x0 : Nat} {x1 : Int32} {x2 : Int32} {x3 : Int32} {x4 : Int32} {x5 : Int32} {s0 : Nat} {s1 : Int32} {s2 : Int32}  {σ : Hp} {KL : ((Int32) ⊕ (Unit)) → Hp → Prop} (h : wpO (f_X7_ways_b76 x0 x1 x2 x3 x4 x5 s0 s1 s2 σ) KL) (kn : ∀ (v : (Int32)) (σ : Hp), KL (Sum.inl v) σ → WW l γ 3 8 ad shM 52 [(0, .ref (ad x0)), (1, .int x1), (2, .int x2), (3, .int x3), (4, .int x4), (5, .int v)] [] σ) (kx83 : ∀ (v : Unit) (σ : Hp), KL (Sum.inr v) σ → WW l γ 3 8 ad shM 83 [(0, .ref (ad x0)), (1, .int x1), (3, .int x3), (4, .int x4)] [] σ) : WW l γ 3 8 ad shM 76 [(0, .ref (ad x0)), (1, .int x1), (2, .int x2), (3, .int x3), (4, .int x4), (5, .int x5)] [.int s2, .int s1, .ref (ad s0)] σ := by
  unfold f_X7_ways_b76 at h
  obtain ⟨σ1, eσ1, h⟩ := wp_g h
  refine r_iast hc eσ1 dX7_ways_76 ?_
  refine r_iincE hc (j := 5) (w := 1) (lv' := [(5, .int (x5 + 1)), (0, .ref (ad x0)), (1, .int x1), (2, .int x2), (3, .int x3), (4, .int x4)]) rfl (by decide) rfl (by decide) rfl dX7_ways_77 ?_
  refine r_goto hc (tgt := 52) dX7_ways_80 (by decide) ?_
  refine r_sub [1, 2, 3, 4, 5, 0] (lv' := [(0, .ref (ad x0)), (1, .int x1), (2, .int x2), (3, .int x3), (4, .int x4), (5, .int (x5 + 1))]) rfl ?_
  have h := wp_v h
  exact kn (x5 + 1) _ h
noncomputable def f_X7_ways_L52 (x0 : Nat) (x1 : Int32) (x2 : Int32) (x3 : Int32) (x4 : Int32) (v : (Int32)) (σ : Hp) : Option (((Int32) ⊕ (Unit)) × Hp) := if 7 ≤ v then (some (Sum.inr (), σ)) else (gO (getR shM 7 x0 29 σ) fun v1 => if v = x2 then (f_X7_ways_b76 x0 x1 x2 x3 x4 v v1 v 1 σ) else (f_X7_ways_b76 x0 x1 x2 x3 x4 v v1 v 0 σ))
set_option maxRecDepth 100000 in
set_option maxHeartbeats 4000000 in
theorem t_X7_ways_L52 {l : Launch} {γ : Gm} {ad : Nat → Nat} {K : Option Value → Hp → Prop}  (hc : Cx l γ 3 8 ad shM RX7 cX7_ways (some .int) K) {x0 : Nat} {x1 : Int32} {x2 : Int32} {x3 : Int32} {x4 : Int32} {v : (Int32)} {σ : Hp} {KX : (Unit) → Hp → Prop} (h : wpO (wh (f_X7_ways_L52 x0 x1 x2 x3 x4) v σ) KX) (kx83 : ∀ (v : Unit) (σ : Hp), KX v σ → WW l γ 3 8 ad shM 83 [(0, .ref (ad x0)), (1, .int x1), (3, .int x3), (4, .int x4)] [] σ) : WW l γ 3 8 ad shM 52 [(0, .ref (ad x0)), (1, .int x1), (2, .int x2), (3, .int x3), (4, .int x4), (5, .int v)] [] σ := by
  refine wh_W (P := fun v σ => WW l γ 3 8 ad shM 52 [(0, .ref (ad x0)), (1, .int x1), (2, .int x2), (3, .int x3), (4, .int x4), (5, .int v)] [] σ) (fun v σ h => ?_) h
  have kn : ∀ (v : (Int32)) (σ : Hp), WW l γ 3 8 ad shM 52 [(0, .ref (ad x0)), (1, .int x1), (2, .int x2), (3, .int x3), (4, .int x4), (5, .int v)] [] σ → WW l γ 3 8 ad shM 52 [(0, .ref (ad x0)), (1, .int x1), (2, .int x2), (3, .int x3), (4, .int x4), (5, .int v)] [] σ := fun _ _ h => h
  · unfold f_X7_ways_L52 at h
    refine r_iload hc 5 rfl dX7_ways_52 ?_
    refine r_bipush hc (v := 7) (by decide) dX7_ways_54 ?_
    refine r_icmp_ge hc (tgt := 83) dX7_ways_56 (by decide) (fun c => ?_) (fun c => ?_)
    · have h := wp_t c h
      refine r_sub [0, 1, 3, 4] (lv' := [(0, .ref (ad x0)), (1, .int x1), (3, .int x3), (4, .int x4)]) rfl ?_
      have h := wp_v h
      exact kx83 () _ h
    · have h := wp_f c h
      refine r_aload_n hc 0 rfl rfl dX7_ways_59 ?_
      obtain ⟨v1, ev1, h⟩ := wp_g h
      refine r_getR hc ev1 fl_X7_60 rfl dX7_ways_60 ?_
      refine r_iload hc 5 rfl dX7_ways_63 ?_
      refine r_iload hc 5 rfl dX7_ways_65 ?_
      refine r_iload_n hc 2 rfl rfl dX7_ways_67 ?_
      refine r_icmp_ne hc (tgt := 75) dX7_ways_68 (by decide) (fun c => ?_) (fun c => ?_)
      · have h := wp_f c h
        refine r_iconst hc (v := 0) (by decide) dX7_ways_75 ?_
        exact t_X7_ways_b76 hc h kn kx83
      · have h := wp_t c h
        refine r_iconst hc (v := 1) (by decide) dX7_ways_71 ?_
        refine r_goto hc (tgt := 76) dX7_ways_72 (by decide) ?_
        exact t_X7_ways_b76 hc h kn kx83
noncomputable def f_X7_ways_L96 (x0 : Nat) (x1 : Int32) (x3 : Int32) (x4 : Int32) (x5 : Int32) (v : (Int32)) (σ : Hp) : Option (((Int32) ⊕ (Unit)) × Hp) := if 7 ≤ v then (some (Sum.inr (), σ)) else (gO (getR shM 7 x0 30 σ) fun v1 => gO (astI shM 0 v1 v 0 σ) fun σ2 => some (Sum.inl (v + 1), σ2))
set_option maxRecDepth 100000 in
set_option maxHeartbeats 4000000 in
theorem t_X7_ways_L96 {l : Launch} {γ : Gm} {ad : Nat → Nat} {K : Option Value → Hp → Prop}  (hc : Cx l γ 3 8 ad shM RX7 cX7_ways (some .int) K) {x0 : Nat} {x1 : Int32} {x3 : Int32} {x4 : Int32} {x5 : Int32} {v : (Int32)} {σ : Hp} {KX : (Unit) → Hp → Prop} (h : wpO (wh (f_X7_ways_L96 x0 x1 x3 x4 x5) v σ) KX) (kx117 : ∀ (v : Unit) (σ : Hp), KX v σ → WW l γ 3 8 ad shM 117 [(0, .ref (ad x0)), (1, .int x1), (3, .int x3), (4, .int x4), (5, .int x5)] [] σ) : WW l γ 3 8 ad shM 96 [(0, .ref (ad x0)), (1, .int x1), (3, .int x3), (4, .int x4), (5, .int x5), (6, .int v)] [] σ := by
  refine wh_W (P := fun v σ => WW l γ 3 8 ad shM 96 [(0, .ref (ad x0)), (1, .int x1), (3, .int x3), (4, .int x4), (5, .int x5), (6, .int v)] [] σ) (fun v σ h => ?_) h
  have kn : ∀ (v : (Int32)) (σ : Hp), WW l γ 3 8 ad shM 96 [(0, .ref (ad x0)), (1, .int x1), (3, .int x3), (4, .int x4), (5, .int x5), (6, .int v)] [] σ → WW l γ 3 8 ad shM 96 [(0, .ref (ad x0)), (1, .int x1), (3, .int x3), (4, .int x4), (5, .int x5), (6, .int v)] [] σ := fun _ _ h => h
  · unfold f_X7_ways_L96 at h
    refine r_iload hc 5 rfl dX7_ways_96 ?_
    refine r_bipush hc (v := 7) (by decide) dX7_ways_98 ?_
    refine r_icmp_ge hc (tgt := 117) dX7_ways_100 (by decide) (fun c => ?_) (fun c => ?_)
    · have h := wp_t c h
      refine r_sub [0, 1, 2, 3, 4] (lv' := [(0, .ref (ad x0)), (1, .int x1), (3, .int x3), (4, .int x4), (5, .int x5)]) rfl ?_
      have h := wp_v h
      exact kx117 () _ h
    · have h := wp_f c h
      refine r_aload_n hc 0 rfl rfl dX7_ways_103 ?_
      obtain ⟨v1, ev1, h⟩ := wp_g h
      refine r_getR hc ev1 fl_X7_63 rfl dX7_ways_104 ?_
      refine r_iload hc 5 rfl dX7_ways_107 ?_
      refine r_iconst hc (v := 0) (by decide) dX7_ways_109 ?_
      obtain ⟨σ2, eσ2, h⟩ := wp_g h
      refine r_iast hc eσ2 dX7_ways_110 ?_
      refine r_iincE hc (j := 5) (w := 1) (lv' := [(6, .int (v + 1)), (0, .ref (ad x0)), (1, .int x1), (3, .int x3), (4, .int x4), (5, .int x5)]) rfl (by decide) rfl (by decide) rfl dX7_ways_111 ?_
      refine r_goto hc (tgt := 96) dX7_ways_114 (by decide) ?_
      refine r_sub [1, 2, 3, 4, 5, 0] (lv' := [(0, .ref (ad x0)), (1, .int x1), (3, .int x3), (4, .int x4), (5, .int x5), (6, .int (v + 1))]) rfl ?_
      have h := wp_v h
      exact kn (v + 1) _ h
noncomputable def f_X7_ways_b181 (x0 : Nat) (x1 : Int32) (x3 : Int32) (x4 : Int32) (x5 : Int32) (x6 : Int32) (x7 : Int32) (s0 : Nat) (s1 : Int32) (s2 : Int32) (s3 : Int32) (σ : Hp) : Option (((Int32) ⊕ (Unit)) × Hp) := gO (astI shM 0 s0 s1 (s2 + s3) σ) fun σ1 => some (Sum.inl (x7 + 1), σ1)
set_option maxRecDepth 100000 in
set_option maxHeartbeats 4000000 in
theorem t_X7_ways_b181 {l : Launch} {γ : Gm} {ad : Nat → Nat} {K : Option Value → Hp → Prop} (hc : Cx l γ 3 8 ad shM RX7 cX7_ways (some .int) K) {x0 : Nat} {x1 : Int32} {x3 : Int32} {x4 : Int32} {x5 : Int32} {x6 : Int32} {x7 : Int32} {s0 : Nat} {s1 : Int32} {s2 : Int32} {s3 : Int32}  {σ : Hp} {KL : ((Int32) ⊕ (Unit)) → Hp → Prop} (h : wpO (f_X7_ways_b181 x0 x1 x3 x4 x5 x6 x7 s0 s1 s2 s3 σ) KL) (kn : ∀ (v : (Int32)) (σ : Hp), KL (Sum.inl v) σ → WW l γ 3 8 ad shM 134 [(0, .ref (ad x0)), (1, .int x1), (3, .int x3), (4, .int x4), (5, .int x5), (6, .int x6), (7, .int v)] [] σ) (kx189 : ∀ (v : Unit) (σ : Hp), KL (Sum.inr v) σ → WW l γ 3 8 ad shM 189 [(0, .ref (ad x0)), (1, .int x1), (3, .int x3), (4, .int x4), (5, .int x5), (6, .int x6)] [] σ) : WW l γ 3 8 ad shM 181 [(0, .ref (ad x0)), (1, .int x1), (3, .int x3), (4, .int x4), (5, .int x5), (6, .int x6), (7, .int x7)] [.int s3, .int s2, .int s1, .ref (ad s0)] σ := by
  unfold f_X7_ways_b181 at h
  refine r_iadd hc dX7_ways_181 ?_
  obtain ⟨σ1, eσ1, h⟩ := wp_g h
  refine r_iast hc eσ1 dX7_ways_182 ?_
  refine r_iincE hc (j := 6) (w := 1) (lv' := [(7, .int (x7 + 1)), (0, .ref (ad x0)), (1, .int x1), (3, .int x3), (4, .int x4), (5, .int x5), (6, .int x6)]) rfl (by decide) rfl (by decide) rfl dX7_ways_183 ?_
  refine r_goto hc (tgt := 134) dX7_ways_186 (by decide) ?_
  refine r_sub [1, 2, 3, 4, 5, 6, 0] (lv' := [(0, .ref (ad x0)), (1, .int x1), (3, .int x3), (4, .int x4), (5, .int x5), (6, .int x6), (7, .int (x7 + 1))]) rfl ?_
  have h := wp_v h
  exact kn (x7 + 1) _ h
noncomputable def f_X7_ways_L134 (x0 : Nat) (x1 : Int32) (x3 : Int32) (x4 : Int32) (x5 : Int32) (x6 : Int32) (v : (Int32)) (σ : Hp) : Option (((Int32) ⊕ (Unit)) × Hp) := gO (getR shM 7 x0 0 σ) fun v1 => gO (aldI shM 0 v1 x1 σ) fun v2 => if v2 ≤ v then (some (Sum.inr (), σ)) else (gO (getR shM 7 x0 30 σ) fun v3 => gO (getR shM 7 x0 30 σ) fun v4 => gO (aldI shM 0 v4 v σ) fun v5 => gO (chk shM x0 7) fun _ => bO (f_X7_isLine x0 x1 x6 v σ) fun r6 σ7 => if r6 = 0 then (f_X7_ways_b181 x0 x1 x3 x4 x5 x6 v v3 v v5 0 σ7) else (gO (getR shM 7 x0 29 σ7) fun v9 => gO (aldI shM 0 v9 x6 σ7) fun v10 => f_X7_ways_b181 x0 x1 x3 x4 x5 x6 v v3 v v5 v10 σ7))
set_option maxRecDepth 100000 in
set_option maxHeartbeats 4000000 in
theorem t_X7_ways_L134 {l : Launch} {γ : Gm} {ad : Nat → Nat} {K : Option Value → Hp → Prop}  (hc : Cx l γ 3 8 ad shM RX7 cX7_ways (some .int) K) {x0 : Nat} {x1 : Int32} {x3 : Int32} {x4 : Int32} {x5 : Int32} {x6 : Int32} {v : (Int32)} {σ : Hp} {KX : (Unit) → Hp → Prop} (h : wpO (wh (f_X7_ways_L134 x0 x1 x3 x4 x5 x6) v σ) KX) (kx189 : ∀ (v : Unit) (σ : Hp), KX v σ → WW l γ 3 8 ad shM 189 [(0, .ref (ad x0)), (1, .int x1), (3, .int x3), (4, .int x4), (5, .int x5), (6, .int x6)] [] σ) : WW l γ 3 8 ad shM 134 [(0, .ref (ad x0)), (1, .int x1), (3, .int x3), (4, .int x4), (5, .int x5), (6, .int x6), (7, .int v)] [] σ := by
  refine wh_W (P := fun v σ => WW l γ 3 8 ad shM 134 [(0, .ref (ad x0)), (1, .int x1), (3, .int x3), (4, .int x4), (5, .int x5), (6, .int x6), (7, .int v)] [] σ) (fun v σ h => ?_) h
  have kn : ∀ (v : (Int32)) (σ : Hp), WW l γ 3 8 ad shM 134 [(0, .ref (ad x0)), (1, .int x1), (3, .int x3), (4, .int x4), (5, .int x5), (6, .int x6), (7, .int v)] [] σ → WW l γ 3 8 ad shM 134 [(0, .ref (ad x0)), (1, .int x1), (3, .int x3), (4, .int x4), (5, .int x5), (6, .int x6), (7, .int v)] [] σ := fun _ _ h => h
  · unfold f_X7_ways_L134 at h
    refine r_iload hc 6 rfl dX7_ways_134 ?_
    refine r_aload_n hc 0 rfl rfl dX7_ways_136 ?_
    obtain ⟨v1, ev1, h⟩ := wp_g h
    refine r_getR hc ev1 fl_X7_7 rfl dX7_ways_137 ?_
    refine r_iload_n hc 1 rfl rfl dX7_ways_140 ?_
    obtain ⟨v2, ev2, h⟩ := wp_g h
    refine r_iald hc ev2 dX7_ways_141 ?_
    refine r_icmp_ge hc (tgt := 189) dX7_ways_142 (by decide) (fun c => ?_) (fun c => ?_)
    · have h := wp_t c h
      refine r_sub [0, 1, 2, 3, 4, 5] (lv' := [(0, .ref (ad x0)), (1, .int x1), (3, .int x3), (4, .int x4), (5, .int x5), (6, .int x6)]) rfl ?_
      have h := wp_v h
      exact kx189 () _ h
    · have h := wp_f c h
      refine r_aload_n hc 0 rfl rfl dX7_ways_145 ?_
      obtain ⟨v3, ev3, h⟩ := wp_g h
      refine r_getR hc ev3 fl_X7_63 rfl dX7_ways_146 ?_
      refine r_iload hc 6 rfl dX7_ways_149 ?_
      refine r_aload_n hc 0 rfl rfl dX7_ways_151 ?_
      obtain ⟨v4, ev4, h⟩ := wp_g h
      refine r_getR hc ev4 fl_X7_63 rfl dX7_ways_152 ?_
      refine r_iload hc 6 rfl dX7_ways_155 ?_
      obtain ⟨v5, ev5, h⟩ := wp_g h
      refine r_iald hc ev5 dX7_ways_157 ?_
      refine r_aload_n hc 0 rfl rfl dX7_ways_158 ?_
      refine r_iload_n hc 1 rfl rfl dX7_ways_159 ?_
      refine r_iload hc 5 rfl dX7_ways_160 ?_
      refine r_iload hc 6 rfl dX7_ways_162 ?_
      obtain ⟨_, ek8, h⟩ := wp_g h
      obtain ⟨r6, σ7, er6, h⟩ := wp_b h
      refine r_callV hc (k0 := x0) mv_X7_isLine ml_X7_125 (c_X7_isLine er6) (chk_of ek8) cls_7.1 rfl rfl rfl (by decide) rfl (Nat.le_of_ble_eq_true rfl) dX7_ways_164 ?_
      refine r_if_eq hc (tgt := 180) dX7_ways_167 (by decide) (fun c => ?_) (fun c => ?_)
      · have h := wp_t c h
        refine r_iconst hc (v := 0) (by decide) dX7_ways_180 ?_
        exact t_X7_ways_b181 hc h kn kx189
      · have h := wp_f c h
        refine r_aload_n hc 0 rfl rfl dX7_ways_170 ?_
        obtain ⟨v9, ev9, h⟩ := wp_g h
        refine r_getR hc ev9 fl_X7_60 rfl dX7_ways_171 ?_
        refine r_iload hc 5 rfl dX7_ways_174 ?_
        obtain ⟨v10, ev10, h⟩ := wp_g h
        refine r_iald hc ev10 dX7_ways_176 ?_
        refine r_goto hc (tgt := 181) dX7_ways_177 (by decide) ?_
        exact t_X7_ways_b181 hc h kn kx189
noncomputable def f_X7_ways_L120 (x0 : Nat) (x1 : Int32) (x3 : Int32) (x4 : Int32) (x5 : Int32) (v : (Int32)) (σ : Hp) : Option (((Int32) ⊕ (Unit)) × Hp) := gO (getR shM 7 x0 0 σ) fun v1 => gO (aldI shM 0 v1 x1 σ) fun v2 => if v2 ≤ v then (some (Sum.inr (), σ)) else (bO (wh (f_X7_ways_L134 x0 x1 x3 x4 x5 v) 0 σ) fun y3 σ4 => (some (Sum.inl (v + 1), σ4)))
set_option maxRecDepth 100000 in
set_option maxHeartbeats 4000000 in
theorem t_X7_ways_L120 {l : Launch} {γ : Gm} {ad : Nat → Nat} {K : Option Value → Hp → Prop}  (hc : Cx l γ 3 8 ad shM RX7 cX7_ways (some .int) K) {x0 : Nat} {x1 : Int32} {x3 : Int32} {x4 : Int32} {x5 : Int32} {v : (Int32)} {σ : Hp} {KX : (Unit) → Hp → Prop} (h : wpO (wh (f_X7_ways_L120 x0 x1 x3 x4 x5) v σ) KX) (kx195 : ∀ (v : Unit) (σ : Hp), KX v σ → WW l γ 3 8 ad shM 195 [(0, .ref (ad x0)), (1, .int x1), (3, .int x3), (4, .int x4), (5, .int x5)] [] σ) : WW l γ 3 8 ad shM 120 [(0, .ref (ad x0)), (1, .int x1), (3, .int x3), (4, .int x4), (5, .int x5), (6, .int v)] [] σ := by
  refine wh_W (P := fun v σ => WW l γ 3 8 ad shM 120 [(0, .ref (ad x0)), (1, .int x1), (3, .int x3), (4, .int x4), (5, .int x5), (6, .int v)] [] σ) (fun v σ h => ?_) h
  have kn : ∀ (v : (Int32)) (σ : Hp), WW l γ 3 8 ad shM 120 [(0, .ref (ad x0)), (1, .int x1), (3, .int x3), (4, .int x4), (5, .int x5), (6, .int v)] [] σ → WW l γ 3 8 ad shM 120 [(0, .ref (ad x0)), (1, .int x1), (3, .int x3), (4, .int x4), (5, .int x5), (6, .int v)] [] σ := fun _ _ h => h
  · unfold f_X7_ways_L120 at h
    refine r_iload hc 5 rfl dX7_ways_120 ?_
    refine r_aload_n hc 0 rfl rfl dX7_ways_122 ?_
    obtain ⟨v1, ev1, h⟩ := wp_g h
    refine r_getR hc ev1 fl_X7_7 rfl dX7_ways_123 ?_
    refine r_iload_n hc 1 rfl rfl dX7_ways_126 ?_
    obtain ⟨v2, ev2, h⟩ := wp_g h
    refine r_iald hc ev2 dX7_ways_127 ?_
    refine r_icmp_ge hc (tgt := 195) dX7_ways_128 (by decide) (fun c => ?_) (fun c => ?_)
    · have h := wp_t c h
      refine r_sub [0, 1, 2, 3, 4] (lv' := [(0, .ref (ad x0)), (1, .int x1), (3, .int x3), (4, .int x4), (5, .int x5)]) rfl ?_
      have h := wp_v h
      exact kx195 () _ h
    · have h := wp_f c h
      refine r_iconst hc (v := 0) (by decide) dX7_ways_131 ?_
      refine r_istoreE hc (i := 7) (lv' := [(7, .int 0), (0, .ref (ad x0)), (1, .int x1), (3, .int x3), (4, .int x4), (5, .int x5), (6, .int v)]) rfl (by decide) rfl dX7_ways_132 ?_
      refine r_sub [1, 2, 3, 4, 5, 6, 0] (lv' := [(0, .ref (ad x0)), (1, .int x1), (3, .int x3), (4, .int x4), (5, .int x5), (6, .int v), (7, .int 0)]) rfl ?_
      refine t_X7_ways_L134 hc (wp_bb h) ?_
      · intro y3 σ4 h
        refine r_iincE hc (j := 5) (w := 1) (lv' := [(6, .int (v + 1)), (0, .ref (ad x0)), (1, .int x1), (3, .int x3), (4, .int x4), (5, .int x5)]) rfl (by decide) rfl (by decide) rfl dX7_ways_189 ?_
        refine r_goto hc (tgt := 120) dX7_ways_192 (by decide) ?_
        refine r_sub [1, 2, 3, 4, 5, 0] (lv' := [(0, .ref (ad x0)), (1, .int x1), (3, .int x3), (4, .int x4), (5, .int x5), (6, .int (v + 1))]) rfl ?_
        have h := wp_v h
        exact kn (v + 1) _ h
noncomputable def f_X7_ways_L198 (x0 : Nat) (x1 : Int32) (x3 : Int32) (x4 : Int32) (x5 : Int32) (v : (Int32)) (σ : Hp) : Option (((Int32) ⊕ (Unit)) × Hp) := if 7 ≤ v then (some (Sum.inr (), σ)) else (gO (getR shM 7 x0 29 σ) fun v1 => gO (getR shM 7 x0 30 σ) fun v2 => gO (aldI shM 0 v2 v σ) fun v3 => gO (astI shM 0 v1 v v3 σ) fun σ4 => some (Sum.inl (v + 1), σ4))
set_option maxRecDepth 100000 in
set_option maxHeartbeats 4000000 in
theorem t_X7_ways_L198 {l : Launch} {γ : Gm} {ad : Nat → Nat} {K : Option Value → Hp → Prop}  (hc : Cx l γ 3 8 ad shM RX7 cX7_ways (some .int) K) {x0 : Nat} {x1 : Int32} {x3 : Int32} {x4 : Int32} {x5 : Int32} {v : (Int32)} {σ : Hp} {KX : (Unit) → Hp → Prop} (h : wpO (wh (f_X7_ways_L198 x0 x1 x3 x4 x5) v σ) KX) (kx225 : ∀ (v : Unit) (σ : Hp), KX v σ → WW l γ 3 8 ad shM 225 [(0, .ref (ad x0)), (1, .int x1), (3, .int x3), (4, .int x4), (5, .int x5)] [] σ) : WW l γ 3 8 ad shM 198 [(0, .ref (ad x0)), (1, .int x1), (3, .int x3), (4, .int x4), (5, .int x5), (6, .int v)] [] σ := by
  refine wh_W (P := fun v σ => WW l γ 3 8 ad shM 198 [(0, .ref (ad x0)), (1, .int x1), (3, .int x3), (4, .int x4), (5, .int x5), (6, .int v)] [] σ) (fun v σ h => ?_) h
  have kn : ∀ (v : (Int32)) (σ : Hp), WW l γ 3 8 ad shM 198 [(0, .ref (ad x0)), (1, .int x1), (3, .int x3), (4, .int x4), (5, .int x5), (6, .int v)] [] σ → WW l γ 3 8 ad shM 198 [(0, .ref (ad x0)), (1, .int x1), (3, .int x3), (4, .int x4), (5, .int x5), (6, .int v)] [] σ := fun _ _ h => h
  · unfold f_X7_ways_L198 at h
    refine r_iload hc 5 rfl dX7_ways_198 ?_
    refine r_bipush hc (v := 7) (by decide) dX7_ways_200 ?_
    refine r_icmp_ge hc (tgt := 225) dX7_ways_202 (by decide) (fun c => ?_) (fun c => ?_)
    · have h := wp_t c h
      refine r_sub [0, 1, 2, 3, 4] (lv' := [(0, .ref (ad x0)), (1, .int x1), (3, .int x3), (4, .int x4), (5, .int x5)]) rfl ?_
      have h := wp_v h
      exact kx225 () _ h
    · have h := wp_f c h
      refine r_aload_n hc 0 rfl rfl dX7_ways_205 ?_
      obtain ⟨v1, ev1, h⟩ := wp_g h
      refine r_getR hc ev1 fl_X7_60 rfl dX7_ways_206 ?_
      refine r_iload hc 5 rfl dX7_ways_209 ?_
      refine r_aload_n hc 0 rfl rfl dX7_ways_211 ?_
      obtain ⟨v2, ev2, h⟩ := wp_g h
      refine r_getR hc ev2 fl_X7_63 rfl dX7_ways_212 ?_
      refine r_iload hc 5 rfl dX7_ways_215 ?_
      obtain ⟨v3, ev3, h⟩ := wp_g h
      refine r_iald hc ev3 dX7_ways_217 ?_
      obtain ⟨σ4, eσ4, h⟩ := wp_g h
      refine r_iast hc eσ4 dX7_ways_218 ?_
      refine r_iincE hc (j := 5) (w := 1) (lv' := [(6, .int (v + 1)), (0, .ref (ad x0)), (1, .int x1), (3, .int x3), (4, .int x4), (5, .int x5)]) rfl (by decide) rfl (by decide) rfl dX7_ways_219 ?_
      refine r_goto hc (tgt := 198) dX7_ways_222 (by decide) ?_
      refine r_sub [1, 2, 3, 4, 5, 0] (lv' := [(0, .ref (ad x0)), (1, .int x1), (3, .int x3), (4, .int x4), (5, .int x5), (6, .int (v + 1))]) rfl ?_
      have h := wp_v h
      exact kn (v + 1) _ h
noncomputable def f_X7_ways_L86 (x0 : Nat) (x1 : Int32) (x3 : Int32) (x4 : Int32) (v : (Int32)) (σ : Hp) : Option (((Int32) ⊕ (Unit)) × Hp) := if x4 ≤ v then (some (Sum.inr (), σ)) else (bO (wh (f_X7_ways_L96 x0 x1 x3 x4 v) 0 σ) fun y1 σ2 => (bO (wh (f_X7_ways_L120 x0 x1 x3 x4 v) 0 σ2) fun y3 σ4 => (bO (wh (f_X7_ways_L198 x0 x1 x3 x4 v) 0 σ4) fun y5 σ6 => (some (Sum.inl (v + 1), σ6)))))
set_option maxRecDepth 100000 in
set_option maxHeartbeats 4000000 in
theorem t_X7_ways_L86 {l : Launch} {γ : Gm} {ad : Nat → Nat} {K : Option Value → Hp → Prop}  (hc : Cx l γ 3 8 ad shM RX7 cX7_ways (some .int) K) {x0 : Nat} {x1 : Int32} {x3 : Int32} {x4 : Int32} {v : (Int32)} {σ : Hp} {KX : (Unit) → Hp → Prop} (h : wpO (wh (f_X7_ways_L86 x0 x1 x3 x4) v σ) KX) (kx231 : ∀ (v : Unit) (σ : Hp), KX v σ → WW l γ 3 8 ad shM 231 [(0, .ref (ad x0)), (3, .int x3)] [] σ) : WW l γ 3 8 ad shM 86 [(0, .ref (ad x0)), (1, .int x1), (3, .int x3), (4, .int x4), (5, .int v)] [] σ := by
  refine wh_W (P := fun v σ => WW l γ 3 8 ad shM 86 [(0, .ref (ad x0)), (1, .int x1), (3, .int x3), (4, .int x4), (5, .int v)] [] σ) (fun v σ h => ?_) h
  have kn : ∀ (v : (Int32)) (σ : Hp), WW l γ 3 8 ad shM 86 [(0, .ref (ad x0)), (1, .int x1), (3, .int x3), (4, .int x4), (5, .int v)] [] σ → WW l γ 3 8 ad shM 86 [(0, .ref (ad x0)), (1, .int x1), (3, .int x3), (4, .int x4), (5, .int v)] [] σ := fun _ _ h => h
  · unfold f_X7_ways_L86 at h
    refine r_iload hc 4 rfl dX7_ways_86 ?_
    refine r_iload hc 3 rfl dX7_ways_88 ?_
    refine r_icmp_ge hc (tgt := 231) dX7_ways_90 (by decide) (fun c => ?_) (fun c => ?_)
    · have h := wp_t c h
      refine r_sub [0, 2] (lv' := [(0, .ref (ad x0)), (3, .int x3)]) rfl ?_
      have h := wp_v h
      exact kx231 () _ h
    · have h := wp_f c h
      refine r_iconst hc (v := 0) (by decide) dX7_ways_93 ?_
      refine r_istoreE hc (i := 6) (lv' := [(6, .int 0), (0, .ref (ad x0)), (1, .int x1), (3, .int x3), (4, .int x4), (5, .int v)]) rfl (by decide) rfl dX7_ways_94 ?_
      refine r_sub [1, 2, 3, 4, 5, 0] (lv' := [(0, .ref (ad x0)), (1, .int x1), (3, .int x3), (4, .int x4), (5, .int v), (6, .int 0)]) rfl ?_
      refine t_X7_ways_L96 hc (wp_bb h) ?_
      · intro y1 σ2 h
        refine r_iconst hc (v := 0) (by decide) dX7_ways_117 ?_
        refine r_istoreE hc (i := 6) (lv' := [(6, .int 0), (0, .ref (ad x0)), (1, .int x1), (3, .int x3), (4, .int x4), (5, .int v)]) rfl (by decide) rfl dX7_ways_118 ?_
        refine r_sub [1, 2, 3, 4, 5, 0] (lv' := [(0, .ref (ad x0)), (1, .int x1), (3, .int x3), (4, .int x4), (5, .int v), (6, .int 0)]) rfl ?_
        refine t_X7_ways_L120 hc (wp_bb h) ?_
        · intro y3 σ4 h
          refine r_iconst hc (v := 0) (by decide) dX7_ways_195 ?_
          refine r_istoreE hc (i := 6) (lv' := [(6, .int 0), (0, .ref (ad x0)), (1, .int x1), (3, .int x3), (4, .int x4), (5, .int v)]) rfl (by decide) rfl dX7_ways_196 ?_
          refine r_sub [1, 2, 3, 4, 5, 0] (lv' := [(0, .ref (ad x0)), (1, .int x1), (3, .int x3), (4, .int x4), (5, .int v), (6, .int 0)]) rfl ?_
          refine t_X7_ways_L198 hc (wp_bb h) ?_
          · intro y5 σ6 h
            refine r_iincE hc (j := 4) (w := 1) (lv' := [(5, .int (v + 1)), (0, .ref (ad x0)), (1, .int x1), (3, .int x3), (4, .int x4)]) rfl (by decide) rfl (by decide) rfl dX7_ways_225 ?_
            refine r_goto hc (tgt := 86) dX7_ways_228 (by decide) ?_
            refine r_sub [1, 2, 3, 4, 0] (lv' := [(0, .ref (ad x0)), (1, .int x1), (3, .int x3), (4, .int x4), (5, .int (v + 1))]) rfl ?_
            have h := wp_v h
            exact kn (v + 1) _ h
noncomputable def f_X7_ways (x0 : Nat) (x1 : Int32) (x2 : Int32) (x3 : Int32) (x4 : Int32) (σ : Hp) : Option (Int32 × Hp) := bO (f_X7_isDrawer x1 σ) fun r1 σ2 => if r1 = 0 then (f_X7_ways_b36  σ2) else (gO (chk shM x0 7) fun _ => bO (f_X7_isNode x0 x1 x2 σ2) fun r3 σ4 => if r3 = 0 then (f_X7_ways_b36  σ4) else (gO (chk shM x0 7) fun _ => bO (f_X7_isNode x0 x1 x3 σ4) fun r6 σ7 => if r6 = 0 then (f_X7_ways_b36  σ7) else (bO (f_X7_in x4 0 9 σ7) fun r9 σ10 => if r9 = 0 then (f_X7_ways_b36  σ10) else (gO (chk shM x0 7) fun _ => bO (f_X7_isEmpty x0 x1 σ10) fun r11 σ12 => if r11 = 0 then (bO (wh (f_X7_ways_L52 x0 x1 x2 x3 x4) 0 σ12) fun y14 σ15 => (bO (wh (f_X7_ways_L86 x0 x1 x3 x4) 0 σ15) fun y16 σ17 => (gO (getR shM 7 x0 29 σ17) fun v18 => gO (aldI shM 0 v18 x3 σ17) fun v19 => some (v19, σ17)))) else (some ((-2), σ12))))))
set_option maxRecDepth 100000 in
set_option maxHeartbeats 4000000 in
theorem t_X7_ways {l : Launch} {γ : Gm} {ad : Nat → Nat} {K : Option Value → Hp → Prop} (hc : Cx l γ 3 8 ad shM RX7 cX7_ways (some .int) K) {x0 : Nat} {x1 : Int32} {x2 : Int32} {x3 : Int32} {x4 : Int32} {σ : Hp} (h : wpO (f_X7_ways x0 x1 x2 x3 x4 σ) (KI K)) : WW l γ 3 8 ad shM 0 [(0, .ref (ad x0)), (1, .int x1), (2, .int x2), (3, .int x3), (4, .int x4)] [] σ := by
  unfold f_X7_ways at h
  refine r_iload_n hc 1 rfl rfl dX7_ways_0 ?_
  obtain ⟨r1, σ2, er1, h⟩ := wp_b h
  refine r_callS hc ms_X7_isDrawer ml_X7_132 (c_X7_isDrawer er1) rfl rfl (by decide) rfl (Nat.le_of_ble_eq_true rfl) dX7_ways_1 ?_
  refine r_if_eq hc (tgt := 36) dX7_ways_4 (by decide) (fun c => ?_) (fun c => ?_)
  · have h := wp_t c h
    refine r_sub [] (lv' := []) rfl ?_
    exact t_X7_ways_b36 hc h
  · have h := wp_f c h
    refine r_aload_n hc 0 rfl rfl dX7_ways_7 ?_
    refine r_iload_n hc 1 rfl rfl dX7_ways_8 ?_
    refine r_iload_n hc 2 rfl rfl dX7_ways_9 ?_
    obtain ⟨_, ek5, h⟩ := wp_g h
    obtain ⟨r3, σ4, er3, h⟩ := wp_b h
    refine r_callV hc (k0 := x0) mv_X7_isNode ml_X7_144 (c_X7_isNode er3) (chk_of ek5) cls_7.1 rfl rfl rfl (by decide) rfl (Nat.le_of_ble_eq_true rfl) dX7_ways_10 ?_
    refine r_if_eq hc (tgt := 36) dX7_ways_13 (by decide) (fun c => ?_) (fun c => ?_)
    · have h := wp_t c h
      refine r_sub [] (lv' := []) rfl ?_
      exact t_X7_ways_b36 hc h
    · have h := wp_f c h
      refine r_aload_n hc 0 rfl rfl dX7_ways_16 ?_
      refine r_iload_n hc 1 rfl rfl dX7_ways_17 ?_
      refine r_iload_n hc 3 rfl rfl dX7_ways_18 ?_
      obtain ⟨_, ek8, h⟩ := wp_g h
      obtain ⟨r6, σ7, er6, h⟩ := wp_b h
      refine r_callV hc (k0 := x0) mv_X7_isNode ml_X7_144 (c_X7_isNode er6) (chk_of ek8) cls_7.1 rfl rfl rfl (by decide) rfl (Nat.le_of_ble_eq_true rfl) dX7_ways_19 ?_
      refine r_if_eq hc (tgt := 36) dX7_ways_22 (by decide) (fun c => ?_) (fun c => ?_)
      · have h := wp_t c h
        refine r_sub [] (lv' := []) rfl ?_
        exact t_X7_ways_b36 hc h
      · have h := wp_f c h
        refine r_iload hc 4 rfl dX7_ways_25 ?_
        refine r_iconst hc (v := 0) (by decide) dX7_ways_27 ?_
        refine r_bipush hc (v := 9) (by decide) dX7_ways_28 ?_
        obtain ⟨r9, σ10, er9, h⟩ := wp_b h
        refine r_callS hc ms_X7_in ml_X7_81 (c_X7_in er9) rfl rfl (by decide) rfl (Nat.le_of_ble_eq_true rfl) dX7_ways_30 ?_
        refine r_if_ne hc (tgt := 38) dX7_ways_33 (by decide) (fun c => ?_) (fun c => ?_)
        · have h := wp_f c h
          refine r_aload_n hc 0 rfl rfl dX7_ways_38 ?_
          refine r_iload_n hc 1 rfl rfl dX7_ways_39 ?_
          obtain ⟨_, ek13, h⟩ := wp_g h
          obtain ⟨r11, σ12, er11, h⟩ := wp_b h
          refine r_callV hc (k0 := x0) mv_X7_isEmpty ml_X7_85 (c_X7_isEmpty er11) (chk_of ek13) cls_7.1 rfl rfl rfl (by decide) rfl (Nat.le_of_ble_eq_true rfl) dX7_ways_40 ?_
          refine r_if_eq hc (tgt := 49) dX7_ways_43 (by decide) (fun c => ?_) (fun c => ?_)
          · have h := wp_t c h
            refine r_iconst hc (v := 0) (by decide) dX7_ways_49 ?_
            refine r_istoreE hc (i := 5) (lv' := [(5, .int 0), (0, .ref (ad x0)), (1, .int x1), (2, .int x2), (3, .int x3), (4, .int x4)]) rfl (by decide) rfl dX7_ways_50 ?_
            refine r_sub [1, 2, 3, 4, 5, 0] (lv' := [(0, .ref (ad x0)), (1, .int x1), (2, .int x2), (3, .int x3), (4, .int x4), (5, .int 0)]) rfl ?_
            refine t_X7_ways_L52 hc (wp_bb h) ?_
            · intro y14 σ15 h
              refine r_iconst hc (v := 0) (by decide) dX7_ways_83 ?_
              refine r_istoreE hc (i := 5) (lv' := [(5, .int 0), (0, .ref (ad x0)), (1, .int x1), (3, .int x3), (4, .int x4)]) rfl (by decide) rfl dX7_ways_84 ?_
              refine r_sub [1, 2, 3, 4, 0] (lv' := [(0, .ref (ad x0)), (1, .int x1), (3, .int x3), (4, .int x4), (5, .int 0)]) rfl ?_
              refine t_X7_ways_L86 hc (wp_bb h) ?_
              · intro y16 σ17 h
                refine r_aload_n hc 0 rfl rfl dX7_ways_231 ?_
                obtain ⟨v18, ev18, h⟩ := wp_g h
                refine r_getR hc ev18 fl_X7_60 rfl dX7_ways_232 ?_
                refine r_iload_n hc 1 rfl rfl dX7_ways_235 ?_
                obtain ⟨v19, ev19, h⟩ := wp_g h
                refine r_iald hc ev19 dX7_ways_236 ?_
                have h := wp_v h
                exact r_iret hc h dX7_ways_237
          · have h := wp_f c h
            refine r_bipush hc (v := (-2)) (by decide) dX7_ways_46 ?_
            have h := wp_v h
            exact r_iret hc h dX7_ways_48
        · have h := wp_t c h
          refine r_sub [] (lv' := []) rfl ?_
          exact t_X7_ways_b36 hc h
theorem c_X7_ways {l : Launch} {x0 : Nat} {x1 : Int32} {x2 : Int32} {x3 : Int32} {x4 : Int32} {σ σ' : Hp} {r : Int32} (h : f_X7_ways x0 x1 x2 x3 x4 σ = some (r, σ')) : Mt l yX7_ways cX7_ways 8 (some .int) 3 shM (fun ad => [.ref (ad x0), .int x1, .int x2, .int x3, .int x4]) σ (fun ad => some (.int r)) σ' := mt_i (own := RX7) (by decide) rfl (fun _ => Nat.le_of_ble_eq_true rfl) (fun γ ad K hc hk => t_X7_ways hc ⟨_, _, h, hk⟩)

-- NetMapsModel.writes(I)V
theorem dX7_writes_0 : decode cX7_writes 0 = .ok (.aload_n 0, 1) := by decide +kernel
theorem dX7_writes_1 : decode cX7_writes 1 = .ok (.getfield 343, 3) := by decide +kernel
theorem dX7_writes_4 : decode cX7_writes 4 = .ok (.aload_n 0, 1) := by decide +kernel
theorem dX7_writes_5 : decode cX7_writes 5 = .ok (.getfield 346, 3) := by decide +kernel
theorem dX7_writes_8 : decode cX7_writes 8 = .ok (.if_icmp .ne 8, 3) := by decide +kernel
theorem dX7_writes_11 : decode cX7_writes 11 = .ok (.aload_n 0, 1) := by decide +kernel
theorem dX7_writes_12 : decode cX7_writes 12 = .ok (.iload_n 1, 1) := by decide +kernel
theorem dX7_writes_13 : decode cX7_writes 13 = .ok (.putfield 349, 3) := by decide +kernel
theorem dX7_writes_16 : decode cX7_writes 16 = .ok (.aload_n 0, 1) := by decide +kernel
theorem dX7_writes_17 : decode cX7_writes 17 = .ok (.aload_n 0, 1) := by decide +kernel
theorem dX7_writes_18 : decode cX7_writes 18 = .ok (.getfield 343, 3) := by decide +kernel
theorem dX7_writes_21 : decode cX7_writes 21 = .ok (.iconst 1, 1) := by decide +kernel
theorem dX7_writes_22 : decode cX7_writes 22 = .ok (.iadd, 1) := by decide +kernel
theorem dX7_writes_23 : decode cX7_writes 23 = .ok (.putfield 343, 3) := by decide +kernel
theorem dX7_writes_26 : decode cX7_writes 26 = .ok (.return_, 1) := by decide +kernel
noncomputable def f_X7_writes_b16 (x0 : Nat) (σ : Hp) : Option (Unit × Hp) := gO (getI shM 7 x0 31 σ) fun v1 => gO (putI shM 7 x0 31 (v1 + 1) σ) fun σ2 => some ((), σ2)
set_option maxRecDepth 100000 in
set_option maxHeartbeats 4000000 in
theorem t_X7_writes_b16 {l : Launch} {γ : Gm} {ad : Nat → Nat} {K : Option Value → Hp → Prop} (hc : Cx l γ 1 2 ad shM RX7 cX7_writes none K) {x0 : Nat} {σ : Hp} (h : wpO (f_X7_writes_b16 x0 σ) (KU K)) : WW l γ 1 2 ad shM 16 [(0, .ref (ad x0))] [] σ := by
  unfold f_X7_writes_b16 at h
  refine r_aload_n hc 0 rfl rfl dX7_writes_16 ?_
  refine r_aload_n hc 0 rfl rfl dX7_writes_17 ?_
  obtain ⟨v1, ev1, h⟩ := wp_g h
  refine r_getI hc ev1 fl_X7_343 rfl dX7_writes_18 ?_
  refine r_iconst hc (v := 1) (by decide) dX7_writes_21 ?_
  refine r_iadd hc dX7_writes_22 ?_
  obtain ⟨σ2, eσ2, h⟩ := wp_g h
  refine r_putI hc eσ2 fp_X7_343 rfl dX7_writes_23 ?_
  have h := wp_v h
  exact r_vret hc h dX7_writes_26
noncomputable def f_X7_writes (x0 : Nat) (x1 : Int32) (σ : Hp) : Option (Unit × Hp) := gO (getI shM 7 x0 31 σ) fun v1 => gO (getI shM 7 x0 32 σ) fun v2 => if v1 = v2 then (gO (putI shM 7 x0 33 x1 σ) fun σ3 => f_X7_writes_b16 x0 σ3) else (f_X7_writes_b16 x0 σ)
set_option maxRecDepth 100000 in
set_option maxHeartbeats 4000000 in
theorem t_X7_writes {l : Launch} {γ : Gm} {ad : Nat → Nat} {K : Option Value → Hp → Prop} (hc : Cx l γ 1 2 ad shM RX7 cX7_writes none K) {x0 : Nat} {x1 : Int32} {σ : Hp} (h : wpO (f_X7_writes x0 x1 σ) (KU K)) : WW l γ 1 2 ad shM 0 [(0, .ref (ad x0)), (1, .int x1)] [] σ := by
  unfold f_X7_writes at h
  refine r_aload_n hc 0 rfl rfl dX7_writes_0 ?_
  obtain ⟨v1, ev1, h⟩ := wp_g h
  refine r_getI hc ev1 fl_X7_343 rfl dX7_writes_1 ?_
  refine r_aload_n hc 0 rfl rfl dX7_writes_4 ?_
  obtain ⟨v2, ev2, h⟩ := wp_g h
  refine r_getI hc ev2 fl_X7_346 rfl dX7_writes_5 ?_
  refine r_icmp_ne hc (tgt := 16) dX7_writes_8 (by decide) (fun c => ?_) (fun c => ?_)
  · have h := wp_f c h
    refine r_sub [0] (lv' := [(0, .ref (ad x0))]) rfl ?_
    exact t_X7_writes_b16 hc h
  · have h := wp_t c h
    refine r_aload_n hc 0 rfl rfl dX7_writes_11 ?_
    refine r_iload_n hc 1 rfl rfl dX7_writes_12 ?_
    obtain ⟨σ3, eσ3, h⟩ := wp_g h
    refine r_putI hc eσ3 fp_X7_349 rfl dX7_writes_13 ?_
    refine r_sub [0] (lv' := [(0, .ref (ad x0))]) rfl ?_
    exact t_X7_writes_b16 hc h
theorem c_X7_writes {l : Launch} {x0 : Nat} {x1 : Int32} {σ σ' : Hp} {r : Unit} (h : f_X7_writes x0 x1 σ = some (r, σ')) : Mt l yX7_writes cX7_writes 2 none 1 shM (fun ad => [.ref (ad x0), .int x1]) σ (fun ad => none) σ' := mt_i (own := RX7) (by decide) rfl (fun _ => Nat.le_of_ble_eq_true rfl) (fun γ ad K hc hk => t_X7_writes hc ⟨_, _, h, hk⟩)

-- NetMapsModel.letter(II)I
theorem dX7_letter_0 : decode cX7_letter 0 = .ok (.iload_n 1, 1) := by decide +kernel
theorem dX7_letter_1 : decode cX7_letter 1 = .ok (.invokestatic 132, 3) := by decide +kernel
theorem dX7_letter_4 : decode cX7_letter 4 = .ok (.ifCond .eq 8, 3) := by decide +kernel
theorem dX7_letter_7 : decode cX7_letter 7 = .ok (.iload_n 2, 1) := by decide +kernel
theorem dX7_letter_8 : decode cX7_letter 8 = .ok (.iconst (-1), 1) := by decide +kernel
theorem dX7_letter_9 : decode cX7_letter 9 = .ok (.if_icmp .ge 5, 3) := by decide +kernel
theorem dX7_letter_12 : decode cX7_letter 12 = .ok (.iconst (-1), 1) := by decide +kernel
theorem dX7_letter_13 : decode cX7_letter 13 = .ok (.ireturn, 1) := by decide +kernel
theorem dX7_letter_14 : decode cX7_letter 14 = .ok (.aload_n 0, 1) := by decide +kernel
theorem dX7_letter_15 : decode cX7_letter 15 = .ok (.iload_n 1, 1) := by decide +kernel
theorem dX7_letter_16 : decode cX7_letter 16 = .ok (.invokevirtual 85, 3) := by decide +kernel
theorem dX7_letter_19 : decode cX7_letter 19 = .ok (.ifCond .eq 6, 3) := by decide +kernel
theorem dX7_letter_22 : decode cX7_letter 22 = .ok (.bipush (-2), 2) := by decide +kernel
theorem dX7_letter_24 : decode cX7_letter 24 = .ok (.ireturn, 1) := by decide +kernel
theorem dX7_letter_25 : decode cX7_letter 25 = .ok (.aload_n 0, 1) := by decide +kernel
theorem dX7_letter_26 : decode cX7_letter 26 = .ok (.iconst 0, 1) := by decide +kernel
theorem dX7_letter_27 : decode cX7_letter 27 = .ok (.putfield 343, 3) := by decide +kernel
theorem dX7_letter_30 : decode cX7_letter 30 = .ok (.aload_n 0, 1) := by decide +kernel
theorem dX7_letter_31 : decode cX7_letter 31 = .ok (.iload_n 2, 1) := by decide +kernel
theorem dX7_letter_32 : decode cX7_letter 32 = .ok (.putfield 346, 3) := by decide +kernel
theorem dX7_letter_35 : decode cX7_letter 35 = .ok (.aload_n 0, 1) := by decide +kernel
theorem dX7_letter_36 : decode cX7_letter 36 = .ok (.bipush 48, 2) := by decide +kernel
theorem dX7_letter_38 : decode cX7_letter 38 = .ok (.aload_n 0, 1) := by decide +kernel
theorem dX7_letter_39 : decode cX7_letter 39 = .ok (.getfield 7, 3) := by decide +kernel
theorem dX7_letter_42 : decode cX7_letter 42 = .ok (.iload_n 1, 1) := by decide +kernel
theorem dX7_letter_43 : decode cX7_letter 43 = .ok (.iaload, 1) := by decide +kernel
theorem dX7_letter_44 : decode cX7_letter 44 = .ok (.iadd, 1) := by decide +kernel
theorem dX7_letter_45 : decode cX7_letter 45 = .ok (.invokevirtual 352, 3) := by decide +kernel
theorem dX7_letter_48 : decode cX7_letter 48 = .ok (.aload_n 0, 1) := by decide +kernel
theorem dX7_letter_49 : decode cX7_letter 49 = .ok (.bipush 58, 2) := by decide +kernel
theorem dX7_letter_51 : decode cX7_letter 51 = .ok (.invokevirtual 352, 3) := by decide +kernel
theorem dX7_letter_54 : decode cX7_letter 54 = .ok (.iconst 0, 1) := by decide +kernel
theorem dX7_letter_55 : decode cX7_letter 55 = .ok (.istore_n 3, 1) := by decide +kernel
theorem dX7_letter_56 : decode cX7_letter 56 = .ok (.iload_n 3, 1) := by decide +kernel
theorem dX7_letter_57 : decode cX7_letter 57 = .ok (.aload_n 0, 1) := by decide +kernel
theorem dX7_letter_58 : decode cX7_letter 58 = .ok (.getfield 7, 3) := by decide +kernel
theorem dX7_letter_61 : decode cX7_letter 61 = .ok (.iload_n 1, 1) := by decide +kernel
theorem dX7_letter_62 : decode cX7_letter 62 = .ok (.iaload, 1) := by decide +kernel
theorem dX7_letter_63 : decode cX7_letter 63 = .ok (.if_icmp .ge 111, 3) := by decide +kernel
theorem dX7_letter_66 : decode cX7_letter 66 = .ok (.iconst 0, 1) := by decide +kernel
theorem dX7_letter_67 : decode cX7_letter 67 = .ok (.istore 4, 2) := by decide +kernel
theorem dX7_letter_69 : decode cX7_letter 69 = .ok (.iload 4, 2) := by decide +kernel
theorem dX7_letter_71 : decode cX7_letter 71 = .ok (.aload_n 0, 1) := by decide +kernel
theorem dX7_letter_72 : decode cX7_letter 72 = .ok (.getfield 7, 3) := by decide +kernel
theorem dX7_letter_75 : decode cX7_letter 75 = .ok (.iload_n 1, 1) := by decide +kernel
theorem dX7_letter_76 : decode cX7_letter 76 = .ok (.iaload, 1) := by decide +kernel
theorem dX7_letter_77 : decode cX7_letter 77 = .ok (.if_icmp .ge 91, 3) := by decide +kernel
theorem dX7_letter_80 : decode cX7_letter 80 = .ok (.iload_n 3, 1) := by decide +kernel
theorem dX7_letter_81 : decode cX7_letter 81 = .ok (.iload 4, 2) := by decide +kernel
theorem dX7_letter_83 : decode cX7_letter 83 = .ok (.if_icmp .eq 18, 3) := by decide +kernel
theorem dX7_letter_86 : decode cX7_letter 86 = .ok (.aload_n 0, 1) := by decide +kernel
theorem dX7_letter_87 : decode cX7_letter 87 = .ok (.iload_n 1, 1) := by decide +kernel
theorem dX7_letter_88 : decode cX7_letter 88 = .ok (.iload 4, 2) := by decide +kernel
theorem dX7_letter_90 : decode cX7_letter 90 = .ok (.iload_n 3, 1) := by decide +kernel
theorem dX7_letter_91 : decode cX7_letter 91 = .ok (.invokevirtual 125, 3) := by decide +kernel
theorem dX7_letter_94 : decode cX7_letter 94 = .ok (.ifCond .eq 7, 3) := by decide +kernel
theorem dX7_letter_97 : decode cX7_letter 97 = .ok (.iconst 1, 1) := by decide +kernel
theorem dX7_letter_98 : decode cX7_letter 98 = .ok (.goto 4, 3) := by decide +kernel
theorem dX7_letter_101 : decode cX7_letter 101 = .ok (.iconst 0, 1) := by decide +kernel
theorem dX7_letter_102 : decode cX7_letter 102 = .ok (.istore 5, 2) := by decide +kernel
theorem dX7_letter_104 : decode cX7_letter 104 = .ok (.aload_n 0, 1) := by decide +kernel
theorem dX7_letter_105 : decode cX7_letter 105 = .ok (.iload_n 1, 1) := by decide +kernel
theorem dX7_letter_106 : decode cX7_letter 106 = .ok (.iload_n 3, 1) := by decide +kernel
theorem dX7_letter_107 : decode cX7_letter 107 = .ok (.iload 4, 2) := by decide +kernel
theorem dX7_letter_109 : decode cX7_letter 109 = .ok (.invokevirtual 125, 3) := by decide +kernel
theorem dX7_letter_112 : decode cX7_letter 112 = .ok (.ifCond .eq 50, 3) := by decide +kernel
theorem dX7_letter_115 : decode cX7_letter 115 = .ok (.iload 5, 2) := by decide +kernel
theorem dX7_letter_117 : decode cX7_letter 117 = .ok (.ifCond .eq 12, 3) := by decide +kernel
theorem dX7_letter_120 : decode cX7_letter 120 = .ok (.iload_n 3, 1) := by decide +kernel
theorem dX7_letter_121 : decode cX7_letter 121 = .ok (.iload 4, 2) := by decide +kernel
theorem dX7_letter_123 : decode cX7_letter 123 = .ok (.if_icmp .le 6, 3) := by decide +kernel
theorem dX7_letter_126 : decode cX7_letter 126 = .ok (.goto 36, 3) := by decide +kernel
theorem dX7_letter_129 : decode cX7_letter 129 = .ok (.aload_n 0, 1) := by decide +kernel
theorem dX7_letter_130 : decode cX7_letter 130 = .ok (.bipush 48, 2) := by decide +kernel
theorem dX7_letter_132 : decode cX7_letter 132 = .ok (.iload_n 3, 1) := by decide +kernel
theorem dX7_letter_133 : decode cX7_letter 133 = .ok (.iadd, 1) := by decide +kernel
theorem dX7_letter_134 : decode cX7_letter 134 = .ok (.invokevirtual 352, 3) := by decide +kernel
theorem dX7_letter_137 : decode cX7_letter 137 = .ok (.aload_n 0, 1) := by decide +kernel
theorem dX7_letter_138 : decode cX7_letter 138 = .ok (.iload 5, 2) := by decide +kernel
theorem dX7_letter_140 : decode cX7_letter 140 = .ok (.ifCond .eq 8, 3) := by decide +kernel
theorem dX7_letter_143 : decode cX7_letter 143 = .ok (.bipush 45, 2) := by decide +kernel
theorem dX7_letter_145 : decode cX7_letter 145 = .ok (.goto 5, 3) := by decide +kernel
theorem dX7_letter_148 : decode cX7_letter 148 = .ok (.bipush 62, 2) := by decide +kernel
theorem dX7_letter_150 : decode cX7_letter 150 = .ok (.invokevirtual 352, 3) := by decide +kernel
theorem dX7_letter_153 : decode cX7_letter 153 = .ok (.aload_n 0, 1) := by decide +kernel
theorem dX7_letter_154 : decode cX7_letter 154 = .ok (.bipush 48, 2) := by decide +kernel
theorem dX7_letter_156 : decode cX7_letter 156 = .ok (.iload 4, 2) := by decide +kernel
theorem dX7_letter_158 : decode cX7_letter 158 = .ok (.iadd, 1) := by decide +kernel
theorem dX7_letter_159 : decode cX7_letter 159 = .ok (.invokevirtual 352, 3) := by decide +kernel
theorem dX7_letter_162 : decode cX7_letter 162 = .ok (.iinc 4 1, 3) := by decide +kernel
theorem dX7_letter_165 : decode cX7_letter 165 = .ok (.goto (-96), 3) := by decide +kernel
theorem dX7_letter_168 : decode cX7_letter 168 = .ok (.iinc 3 1, 3) := by decide +kernel
theorem dX7_letter_171 : decode cX7_letter 171 = .ok (.goto (-115), 3) := by decide +kernel
theorem dX7_letter_174 : decode cX7_letter 174 = .ok (.iload_n 2, 1) := by decide +kernel
theorem dX7_letter_175 : decode cX7_letter 175 = .ok (.iconst (-1), 1) := by decide +kernel
theorem dX7_letter_176 : decode cX7_letter 176 = .ok (.if_icmp .ne 10, 3) := by decide +kernel
theorem dX7_letter_179 : decode cX7_letter 179 = .ok (.aload_n 0, 1) := by decide +kernel
theorem dX7_letter_180 : decode cX7_letter 180 = .ok (.getfield 343, 3) := by decide +kernel
theorem dX7_letter_183 : decode cX7_letter 183 = .ok (.goto 20, 3) := by decide +kernel
theorem dX7_letter_186 : decode cX7_letter 186 = .ok (.iload_n 2, 1) := by decide +kernel
theorem dX7_letter_187 : decode cX7_letter 187 = .ok (.aload_n 0, 1) := by decide +kernel
theorem dX7_letter_188 : decode cX7_letter 188 = .ok (.getfield 343, 3) := by decide +kernel
theorem dX7_letter_191 : decode cX7_letter 191 = .ok (.if_icmp .ge 10, 3) := by decide +kernel
theorem dX7_letter_194 : decode cX7_letter 194 = .ok (.aload_n 0, 1) := by decide +kernel
theorem dX7_letter_195 : decode cX7_letter 195 = .ok (.getfield 349, 3) := by decide +kernel
theorem dX7_letter_198 : decode cX7_letter 198 = .ok (.goto 5, 3) := by decide +kernel
theorem dX7_letter_201 : decode cX7_letter 201 = .ok (.bipush (-3), 2) := by decide +kernel
theorem dX7_letter_203 : decode cX7_letter 203 = .ok (.ireturn, 1) := by decide +kernel
noncomputable def f_X7_letter_b12  (σ : Hp) : Option (Int32 × Hp) := some ((-1), σ)
set_option maxRecDepth 100000 in
set_option maxHeartbeats 4000000 in
theorem t_X7_letter_b12 {l : Launch} {γ : Gm} {ad : Nat → Nat} {K : Option Value → Hp → Prop} (hc : Cx l γ 3 6 ad shM RX7 cX7_letter (some .int) K)  {σ : Hp} (h : wpO (f_X7_letter_b12  σ) (KI K)) : WW l γ 3 6 ad shM 12 [] [] σ := by
  unfold f_X7_letter_b12 at h
  refine r_iconst hc (v := (-1)) (by decide) dX7_letter_12 ?_
  have h := wp_v h
  exact r_iret hc h dX7_letter_13
noncomputable def f_X7_letter_b162 (x0 : Nat) (x1 : Int32) (x2 : Int32) (x3 : Int32) (x4 : Int32) (σ : Hp) : Option (((Int32) ⊕ (Unit)) × Hp) := some (Sum.inl (x4 + 1), σ)
set_option maxRecDepth 100000 in
set_option maxHeartbeats 4000000 in
theorem t_X7_letter_b162 {l : Launch} {γ : Gm} {ad : Nat → Nat} {K : Option Value → Hp → Prop} (hc : Cx l γ 3 6 ad shM RX7 cX7_letter (some .int) K) {x0 : Nat} {x1 : Int32} {x2 : Int32} {x3 : Int32} {x4 : Int32}  {σ : Hp} {KL : ((Int32) ⊕ (Unit)) → Hp → Prop} (h : wpO (f_X7_letter_b162 x0 x1 x2 x3 x4 σ) KL) (kn : ∀ (v : (Int32)) (σ : Hp), KL (Sum.inl v) σ → WW l γ 3 6 ad shM 69 [(0, .ref (ad x0)), (1, .int x1), (2, .int x2), (3, .int x3), (4, .int v)] [] σ) (kx168 : ∀ (v : Unit) (σ : Hp), KL (Sum.inr v) σ → WW l γ 3 6 ad shM 168 [(0, .ref (ad x0)), (1, .int x1), (2, .int x2), (3, .int x3)] [] σ) : WW l γ 3 6 ad shM 162 [(0, .ref (ad x0)), (1, .int x1), (2, .int x2), (3, .int x3), (4, .int x4)] [] σ := by
  unfold f_X7_letter_b162 at h
  refine r_iincE hc (j := 4) (w := 1) (lv' := [(4, .int (x4 + 1)), (0, .ref (ad x0)), (1, .int x1), (2, .int x2), (3, .int x3)]) rfl (by decide) rfl (by decide) rfl dX7_letter_162 ?_
  refine r_goto hc (tgt := 69) dX7_letter_165 (by decide) ?_
  refine r_sub [1, 2, 3, 4, 0] (lv' := [(0, .ref (ad x0)), (1, .int x1), (2, .int x2), (3, .int x3), (4, .int (x4 + 1))]) rfl ?_
  have h := wp_v h
  exact kn (x4 + 1) _ h
noncomputable def f_X7_letter_b150 (x0 : Nat) (x1 : Int32) (x2 : Int32) (x3 : Int32) (x4 : Int32) (s0 : Nat) (s1 : Int32) (σ : Hp) : Option (((Int32) ⊕ (Unit)) × Hp) := gO (chk shM s0 7) fun _ => bO (f_X7_writes s0 s1 σ) fun _ σ2 => gO (chk shM x0 7) fun _ => bO (f_X7_writes x0 (48 + x4) σ2) fun _ σ5 => f_X7_letter_b162 x0 x1 x2 x3 x4 σ5
set_option maxRecDepth 100000 in
set_option maxHeartbeats 4000000 in
theorem t_X7_letter_b150 {l : Launch} {γ : Gm} {ad : Nat → Nat} {K : Option Value → Hp → Prop} (hc : Cx l γ 3 6 ad shM RX7 cX7_letter (some .int) K) {x0 : Nat} {x1 : Int32} {x2 : Int32} {x3 : Int32} {x4 : Int32} {s0 : Nat} {s1 : Int32}  {σ : Hp} {KL : ((Int32) ⊕ (Unit)) → Hp → Prop} (h : wpO (f_X7_letter_b150 x0 x1 x2 x3 x4 s0 s1 σ) KL) (kn : ∀ (v : (Int32)) (σ : Hp), KL (Sum.inl v) σ → WW l γ 3 6 ad shM 69 [(0, .ref (ad x0)), (1, .int x1), (2, .int x2), (3, .int x3), (4, .int v)] [] σ) (kx168 : ∀ (v : Unit) (σ : Hp), KL (Sum.inr v) σ → WW l γ 3 6 ad shM 168 [(0, .ref (ad x0)), (1, .int x1), (2, .int x2), (3, .int x3)] [] σ) : WW l γ 3 6 ad shM 150 [(0, .ref (ad x0)), (1, .int x1), (2, .int x2), (3, .int x3), (4, .int x4)] [.int s1, .ref (ad s0)] σ := by
  unfold f_X7_letter_b150 at h
  obtain ⟨_, ek3, h⟩ := wp_g h
  obtain ⟨_, σ2, er1, h⟩ := wp_b h
  refine r_callV hc (k0 := s0) mv_X7_writes ml_X7_352 (c_X7_writes er1) (chk_of ek3) cls_7.1 rfl rfl rfl (by decide) rfl (Nat.le_of_ble_eq_true rfl) dX7_letter_150 ?_
  refine r_aload_n hc 0 rfl rfl dX7_letter_153 ?_
  refine r_bipush hc (v := 48) (by decide) dX7_letter_154 ?_
  refine r_iload hc 4 rfl dX7_letter_156 ?_
  refine r_iadd hc dX7_letter_158 ?_
  obtain ⟨_, ek6, h⟩ := wp_g h
  obtain ⟨_, σ5, er4, h⟩ := wp_b h
  refine r_callV hc (k0 := x0) mv_X7_writes ml_X7_352 (c_X7_writes er4) (chk_of ek6) cls_7.1 rfl rfl rfl (by decide) rfl (Nat.le_of_ble_eq_true rfl) dX7_letter_159 ?_
  exact t_X7_letter_b162 hc h kn kx168
noncomputable def f_X7_letter_b129 (x0 : Nat) (x1 : Int32) (x2 : Int32) (x3 : Int32) (x4 : Int32) (x5 : Int32) (σ : Hp) : Option (((Int32) ⊕ (Unit)) × Hp) := gO (chk shM x0 7) fun _ => bO (f_X7_writes x0 (48 + x3) σ) fun _ σ2 => if x5 = 0 then (f_X7_letter_b150 x0 x1 x2 x3 x4 x0 62 σ2) else (f_X7_letter_b150 x0 x1 x2 x3 x4 x0 45 σ2)
set_option maxRecDepth 100000 in
set_option maxHeartbeats 4000000 in
theorem t_X7_letter_b129 {l : Launch} {γ : Gm} {ad : Nat → Nat} {K : Option Value → Hp → Prop} (hc : Cx l γ 3 6 ad shM RX7 cX7_letter (some .int) K) {x0 : Nat} {x1 : Int32} {x2 : Int32} {x3 : Int32} {x4 : Int32} {x5 : Int32}  {σ : Hp} {KL : ((Int32) ⊕ (Unit)) → Hp → Prop} (h : wpO (f_X7_letter_b129 x0 x1 x2 x3 x4 x5 σ) KL) (kn : ∀ (v : (Int32)) (σ : Hp), KL (Sum.inl v) σ → WW l γ 3 6 ad shM 69 [(0, .ref (ad x0)), (1, .int x1), (2, .int x2), (3, .int x3), (4, .int v)] [] σ) (kx168 : ∀ (v : Unit) (σ : Hp), KL (Sum.inr v) σ → WW l γ 3 6 ad shM 168 [(0, .ref (ad x0)), (1, .int x1), (2, .int x2), (3, .int x3)] [] σ) : WW l γ 3 6 ad shM 129 [(0, .ref (ad x0)), (1, .int x1), (2, .int x2), (3, .int x3), (4, .int x4), (5, .int x5)] [] σ := by
  unfold f_X7_letter_b129 at h
  refine r_aload_n hc 0 rfl rfl dX7_letter_129 ?_
  refine r_bipush hc (v := 48) (by decide) dX7_letter_130 ?_
  refine r_iload_n hc 3 rfl rfl dX7_letter_132 ?_
  refine r_iadd hc dX7_letter_133 ?_
  obtain ⟨_, ek3, h⟩ := wp_g h
  obtain ⟨_, σ2, er1, h⟩ := wp_b h
  refine r_callV hc (k0 := x0) mv_X7_writes ml_X7_352 (c_X7_writes er1) (chk_of ek3) cls_7.1 rfl rfl rfl (by decide) rfl (Nat.le_of_ble_eq_true rfl) dX7_letter_134 ?_
  refine r_aload_n hc 0 rfl rfl dX7_letter_137 ?_
  refine r_iload hc 5 rfl dX7_letter_138 ?_
  refine r_if_eq hc (tgt := 148) dX7_letter_140 (by decide) (fun c => ?_) (fun c => ?_)
  · have h := wp_t c h
    refine r_bipush hc (v := 62) (by decide) dX7_letter_148 ?_
    refine r_sub [0, 1, 2, 3, 4] (lv' := [(0, .ref (ad x0)), (1, .int x1), (2, .int x2), (3, .int x3), (4, .int x4)]) rfl ?_
    exact t_X7_letter_b150 hc h kn kx168
  · have h := wp_f c h
    refine r_bipush hc (v := 45) (by decide) dX7_letter_143 ?_
    refine r_goto hc (tgt := 150) dX7_letter_145 (by decide) ?_
    refine r_sub [0, 1, 2, 3, 4] (lv' := [(0, .ref (ad x0)), (1, .int x1), (2, .int x2), (3, .int x3), (4, .int x4)]) rfl ?_
    exact t_X7_letter_b150 hc h kn kx168
noncomputable def f_X7_letter_b102 (x0 : Nat) (x1 : Int32) (x2 : Int32) (x3 : Int32) (x4 : Int32) (s0 : Int32) (σ : Hp) : Option (((Int32) ⊕ (Unit)) × Hp) := gO (chk shM x0 7) fun _ => bO (f_X7_isLine x0 x1 x3 x4 σ) fun r1 σ2 => if r1 = 0 then (f_X7_letter_b162 x0 x1 x2 x3 x4 σ2) else (if s0 = 0 then (f_X7_letter_b129 x0 x1 x2 x3 x4 s0 σ2) else (if x3 ≤ x4 then (f_X7_letter_b129 x0 x1 x2 x3 x4 s0 σ2) else (f_X7_letter_b162 x0 x1 x2 x3 x4 σ2)))
set_option maxRecDepth 100000 in
set_option maxHeartbeats 4000000 in
theorem t_X7_letter_b102 {l : Launch} {γ : Gm} {ad : Nat → Nat} {K : Option Value → Hp → Prop} (hc : Cx l γ 3 6 ad shM RX7 cX7_letter (some .int) K) {x0 : Nat} {x1 : Int32} {x2 : Int32} {x3 : Int32} {x4 : Int32} {s0 : Int32}  {σ : Hp} {KL : ((Int32) ⊕ (Unit)) → Hp → Prop} (h : wpO (f_X7_letter_b102 x0 x1 x2 x3 x4 s0 σ) KL) (kn : ∀ (v : (Int32)) (σ : Hp), KL (Sum.inl v) σ → WW l γ 3 6 ad shM 69 [(0, .ref (ad x0)), (1, .int x1), (2, .int x2), (3, .int x3), (4, .int v)] [] σ) (kx168 : ∀ (v : Unit) (σ : Hp), KL (Sum.inr v) σ → WW l γ 3 6 ad shM 168 [(0, .ref (ad x0)), (1, .int x1), (2, .int x2), (3, .int x3)] [] σ) : WW l γ 3 6 ad shM 102 [(0, .ref (ad x0)), (1, .int x1), (2, .int x2), (3, .int x3), (4, .int x4)] [.int s0] σ := by
  unfold f_X7_letter_b102 at h
  refine r_istoreE hc (i := 5) (lv' := [(5, .int s0), (0, .ref (ad x0)), (1, .int x1), (2, .int x2), (3, .int x3), (4, .int x4)]) rfl (by decide) rfl dX7_letter_102 ?_
  refine r_aload_n hc 1 rfl rfl dX7_letter_104 ?_
  refine r_iload_n hc 2 rfl rfl dX7_letter_105 ?_
  refine r_iload_n hc 4 rfl rfl dX7_letter_106 ?_
  refine r_iload hc 5 rfl dX7_letter_107 ?_
  obtain ⟨_, ek3, h⟩ := wp_g h
  obtain ⟨r1, σ2, er1, h⟩ := wp_b h
  refine r_callV hc (k0 := x0) mv_X7_isLine ml_X7_125 (c_X7_isLine er1) (chk_of ek3) cls_7.1 rfl rfl rfl (by decide) rfl (Nat.le_of_ble_eq_true rfl) dX7_letter_109 ?_
  refine r_if_eq hc (tgt := 162) dX7_letter_112 (by decide) (fun c => ?_) (fun c => ?_)
  · have h := wp_t c h
    refine r_sub [1, 2, 3, 4, 5] (lv' := [(0, .ref (ad x0)), (1, .int x1), (2, .int x2), (3, .int x3), (4, .int x4)]) rfl ?_
    exact t_X7_letter_b162 hc h kn kx168
  · have h := wp_f c h
    refine r_iload hc 0 rfl dX7_letter_115 ?_
    refine r_if_eq hc (tgt := 129) dX7_letter_117 (by decide) (fun c => ?_) (fun c => ?_)
    · have h := wp_t c h
      refine r_sub [1, 2, 3, 4, 5, 0] (lv' := [(0, .ref (ad x0)), (1, .int x1), (2, .int x2), (3, .int x3), (4, .int x4), (5, .int s0)]) rfl ?_
      exact t_X7_letter_b129 hc h kn kx168
    · have h := wp_f c h
      refine r_iload_n hc 4 rfl rfl dX7_letter_120 ?_
      refine r_iload hc 5 rfl dX7_letter_121 ?_
      refine r_icmp_le hc (tgt := 129) dX7_letter_123 (by decide) (fun c => ?_) (fun c => ?_)
      · have h := wp_t c h
        refine r_sub [1, 2, 3, 4, 5, 0] (lv' := [(0, .ref (ad x0)), (1, .int x1), (2, .int x2), (3, .int x3), (4, .int x4), (5, .int s0)]) rfl ?_
        exact t_X7_letter_b129 hc h kn kx168
      · have h := wp_f c h
        refine r_goto hc (tgt := 162) dX7_letter_126 (by decide) ?_
        refine r_sub [1, 2, 3, 4, 5] (lv' := [(0, .ref (ad x0)), (1, .int x1), (2, .int x2), (3, .int x3), (4, .int x4)]) rfl ?_
        exact t_X7_letter_b162 hc h kn kx168
noncomputable def f_X7_letter_b101 (x0 : Nat) (x1 : Int32) (x2 : Int32) (x3 : Int32) (x4 : Int32) (σ : Hp) : Option (((Int32) ⊕ (Unit)) × Hp) := f_X7_letter_b102 x0 x1 x2 x3 x4 0 σ
set_option maxRecDepth 100000 in
set_option maxHeartbeats 4000000 in
theorem t_X7_letter_b101 {l : Launch} {γ : Gm} {ad : Nat → Nat} {K : Option Value → Hp → Prop} (hc : Cx l γ 3 6 ad shM RX7 cX7_letter (some .int) K) {x0 : Nat} {x1 : Int32} {x2 : Int32} {x3 : Int32} {x4 : Int32}  {σ : Hp} {KL : ((Int32) ⊕ (Unit)) → Hp → Prop} (h : wpO (f_X7_letter_b101 x0 x1 x2 x3 x4 σ) KL) (kn : ∀ (v : (Int32)) (σ : Hp), KL (Sum.inl v) σ → WW l γ 3 6 ad shM 69 [(0, .ref (ad x0)), (1, .int x1), (2, .int x2), (3, .int x3), (4, .int v)] [] σ) (kx168 : ∀ (v : Unit) (σ : Hp), KL (Sum.inr v) σ → WW l γ 3 6 ad shM 168 [(0, .ref (ad x0)), (1, .int x1), (2, .int x2), (3, .int x3)] [] σ) : WW l γ 3 6 ad shM 101 [(0, .ref (ad x0)), (1, .int x1), (2, .int x2), (3, .int x3), (4, .int x4)] [] σ := by
  unfold f_X7_letter_b101 at h
  refine r_iconst hc (v := 0) (by decide) dX7_letter_101 ?_
  exact t_X7_letter_b102 hc h kn kx168
noncomputable def f_X7_letter_L69 (x0 : Nat) (x1 : Int32) (x2 : Int32) (x3 : Int32) (v : (Int32)) (σ : Hp) : Option (((Int32) ⊕ (Unit)) × Hp) := gO (getR shM 7 x0 0 σ) fun v1 => gO (aldI shM 0 v1 x1 σ) fun v2 => if v2 ≤ v then (some (Sum.inr (), σ)) else (if x3 = v then (f_X7_letter_b101 x0 x1 x2 x3 v σ) else (gO (chk shM x0 7) fun _ => bO (f_X7_isLine x0 x1 v x3 σ) fun r3 σ4 => if r3 = 0 then (f_X7_letter_b101 x0 x1 x2 x3 v σ4) else (f_X7_letter_b102 x0 x1 x2 x3 v 1 σ4)))
set_option maxRecDepth 100000 in
set_option maxHeartbeats 4000000 in
theorem t_X7_letter_L69 {l : Launch} {γ : Gm} {ad : Nat → Nat} {K : Option Value → Hp → Prop}  (hc : Cx l γ 3 6 ad shM RX7 cX7_letter (some .int) K) {x0 : Nat} {x1 : Int32} {x2 : Int32} {x3 : Int32} {v : (Int32)} {σ : Hp} {KX : (Unit) → Hp → Prop} (h : wpO (wh (f_X7_letter_L69 x0 x1 x2 x3) v σ) KX) (kx168 : ∀ (v : Unit) (σ : Hp), KX v σ → WW l γ 3 6 ad shM 168 [(0, .ref (ad x0)), (1, .int x1), (2, .int x2), (3, .int x3)] [] σ) : WW l γ 3 6 ad shM 69 [(0, .ref (ad x0)), (1, .int x1), (2, .int x2), (3, .int x3), (4, .int v)] [] σ := by
  refine wh_W (P := fun v σ => WW l γ 3 6 ad shM 69 [(0, .ref (ad x0)), (1, .int x1), (2, .int x2), (3, .int x3), (4, .int v)] [] σ) (fun v σ h => ?_) h
  have kn : ∀ (v : (Int32)) (σ : Hp), WW l γ 3 6 ad shM 69 [(0, .ref (ad x0)), (1, .int x1), (2, .int x2), (3, .int x3), (4, .int v)] [] σ → WW l γ 3 6 ad shM 69 [(0, .ref (ad x0)), (1, .int x1), (2, .int x2), (3, .int x3), (4, .int v)] [] σ := fun _ _ h => h
  · unfold f_X7_letter_L69 at h
    refine r_iload hc 4 rfl dX7_letter_69 ?_
    refine r_aload_n hc 0 rfl rfl dX7_letter_71 ?_
    obtain ⟨v1, ev1, h⟩ := wp_g h
    refine r_getR hc ev1 fl_X7_7 rfl dX7_letter_72 ?_
    refine r_iload_n hc 1 rfl rfl dX7_letter_75 ?_
    obtain ⟨v2, ev2, h⟩ := wp_g h
    refine r_iald hc ev2 dX7_letter_76 ?_
    refine r_icmp_ge hc (tgt := 168) dX7_letter_77 (by decide) (fun c => ?_) (fun c => ?_)
    · have h := wp_t c h
      refine r_sub [0, 1, 2, 3] (lv' := [(0, .ref (ad x0)), (1, .int x1), (2, .int x2), (3, .int x3)]) rfl ?_
      have h := wp_v h
      exact kx168 () _ h
    · have h := wp_f c h
      refine r_iload_n hc 3 rfl rfl dX7_letter_80 ?_
      refine r_iload hc 4 rfl dX7_letter_81 ?_
      refine r_icmp_eq hc (tgt := 101) dX7_letter_83 (by decide) (fun c => ?_) (fun c => ?_)
      · have h := wp_t c h
        exact t_X7_letter_b101 hc h kn kx168
      · have h := wp_f c h
        refine r_aload_n hc 0 rfl rfl dX7_letter_86 ?_
        refine r_iload_n hc 1 rfl rfl dX7_letter_87 ?_
        refine r_iload hc 4 rfl dX7_letter_88 ?_
        refine r_iload_n hc 3 rfl rfl dX7_letter_90 ?_
        obtain ⟨_, ek5, h⟩ := wp_g h
        obtain ⟨r3, σ4, er3, h⟩ := wp_b h
        refine r_callV hc (k0 := x0) mv_X7_isLine ml_X7_125 (c_X7_isLine er3) (chk_of ek5) cls_7.1 rfl rfl rfl (by decide) rfl (Nat.le_of_ble_eq_true rfl) dX7_letter_91 ?_
        refine r_if_eq hc (tgt := 101) dX7_letter_94 (by decide) (fun c => ?_) (fun c => ?_)
        · have h := wp_t c h
          exact t_X7_letter_b101 hc h kn kx168
        · have h := wp_f c h
          refine r_iconst hc (v := 1) (by decide) dX7_letter_97 ?_
          refine r_goto hc (tgt := 102) dX7_letter_98 (by decide) ?_
          exact t_X7_letter_b102 hc h kn kx168
noncomputable def f_X7_letter_L56 (x0 : Nat) (x1 : Int32) (x2 : Int32) (v : (Int32)) (σ : Hp) : Option (((Int32) ⊕ (Unit)) × Hp) := gO (getR shM 7 x0 0 σ) fun v1 => gO (aldI shM 0 v1 x1 σ) fun v2 => if v2 ≤ v then (some (Sum.inr (), σ)) else (bO (wh (f_X7_letter_L69 x0 x1 x2 v) 0 σ) fun y3 σ4 => (some (Sum.inl (v + 1), σ4)))
set_option maxRecDepth 100000 in
set_option maxHeartbeats 4000000 in
theorem t_X7_letter_L56 {l : Launch} {γ : Gm} {ad : Nat → Nat} {K : Option Value → Hp → Prop}  (hc : Cx l γ 3 6 ad shM RX7 cX7_letter (some .int) K) {x0 : Nat} {x1 : Int32} {x2 : Int32} {v : (Int32)} {σ : Hp} {KX : (Unit) → Hp → Prop} (h : wpO (wh (f_X7_letter_L56 x0 x1 x2) v σ) KX) (kx174 : ∀ (v : Unit) (σ : Hp), KX v σ → WW l γ 3 6 ad shM 174 [(0, .ref (ad x0)), (2, .int x2)] [] σ) : WW l γ 3 6 ad shM 56 [(0, .ref (ad x0)), (1, .int x1), (2, .int x2), (3, .int v)] [] σ := by
  refine wh_W (P := fun v σ => WW l γ 3 6 ad shM 56 [(0, .ref (ad x0)), (1, .int x1), (2, .int x2), (3, .int v)] [] σ) (fun v σ h => ?_) h
  have kn : ∀ (v : (Int32)) (σ : Hp), WW l γ 3 6 ad shM 56 [(0, .ref (ad x0)), (1, .int x1), (2, .int x2), (3, .int v)] [] σ → WW l γ 3 6 ad shM 56 [(0, .ref (ad x0)), (1, .int x1), (2, .int x2), (3, .int v)] [] σ := fun _ _ h => h
  · unfold f_X7_letter_L56 at h
    refine r_iload_n hc 3 rfl rfl dX7_letter_56 ?_
    refine r_aload_n hc 0 rfl rfl dX7_letter_57 ?_
    obtain ⟨v1, ev1, h⟩ := wp_g h
    refine r_getR hc ev1 fl_X7_7 rfl dX7_letter_58 ?_
    refine r_iload_n hc 1 rfl rfl dX7_letter_61 ?_
    obtain ⟨v2, ev2, h⟩ := wp_g h
    refine r_iald hc ev2 dX7_letter_62 ?_
    refine r_icmp_ge hc (tgt := 174) dX7_letter_63 (by decide) (fun c => ?_) (fun c => ?_)
    · have h := wp_t c h
      refine r_sub [0, 2] (lv' := [(0, .ref (ad x0)), (2, .int x2)]) rfl ?_
      have h := wp_v h
      exact kx174 () _ h
    · have h := wp_f c h
      refine r_iconst hc (v := 0) (by decide) dX7_letter_66 ?_
      refine r_istoreE hc (i := 4) (lv' := [(4, .int 0), (0, .ref (ad x0)), (1, .int x1), (2, .int x2), (3, .int v)]) rfl (by decide) rfl dX7_letter_67 ?_
      refine r_sub [1, 2, 3, 4, 0] (lv' := [(0, .ref (ad x0)), (1, .int x1), (2, .int x2), (3, .int v), (4, .int 0)]) rfl ?_
      refine t_X7_letter_L69 hc (wp_bb h) ?_
      · intro y3 σ4 h
        refine r_iincE hc (j := 3) (w := 1) (lv' := [(3, .int (v + 1)), (0, .ref (ad x0)), (1, .int x1), (2, .int x2)]) rfl (by decide) rfl (by decide) rfl dX7_letter_168 ?_
        refine r_goto hc (tgt := 56) dX7_letter_171 (by decide) ?_
        refine r_sub [1, 2, 3, 0] (lv' := [(0, .ref (ad x0)), (1, .int x1), (2, .int x2), (3, .int (v + 1))]) rfl ?_
        have h := wp_v h
        exact kn (v + 1) _ h
noncomputable def f_X7_letter_b203 (s0 : Int32) (σ : Hp) : Option (Int32 × Hp) := some (s0, σ)
set_option maxRecDepth 100000 in
set_option maxHeartbeats 4000000 in
theorem t_X7_letter_b203 {l : Launch} {γ : Gm} {ad : Nat → Nat} {K : Option Value → Hp → Prop} (hc : Cx l γ 3 6 ad shM RX7 cX7_letter (some .int) K) {s0 : Int32} {σ : Hp} (h : wpO (f_X7_letter_b203 s0 σ) (KI K)) : WW l γ 3 6 ad shM 203 [] [.int s0] σ := by
  unfold f_X7_letter_b203 at h
  have h := wp_v h
  exact r_iret hc h dX7_letter_203
noncomputable def f_X7_letter (x0 : Nat) (x1 : Int32) (x2 : Int32) (σ : Hp) : Option (Int32 × Hp) := bO (f_X7_isDrawer x1 σ) fun r1 σ2 => if r1 = 0 then (f_X7_letter_b12  σ2) else (if (-1) ≤ x2 then (gO (chk shM x0 7) fun _ => bO (f_X7_isEmpty x0 x1 σ2) fun r3 σ4 => if r3 = 0 then (gO (putI shM 7 x0 31 0 σ4) fun σ6 => gO (putI shM 7 x0 32 x2 σ6) fun σ7 => gO (getR shM 7 x0 0 σ7) fun v8 => gO (aldI shM 0 v8 x1 σ7) fun v9 => gO (chk shM x0 7) fun _ => bO (f_X7_writes x0 (48 + v9) σ7) fun _ σ11 => gO (chk shM x0 7) fun _ => bO (f_X7_writes x0 58 σ11) fun _ σ14 => bO (wh (f_X7_letter_L56 x0 x1 x2) 0 σ14) fun y16 σ17 => (if x2 = (-1) then (gO (getI shM 7 x0 31 σ17) fun v20 => f_X7_letter_b203 v20 σ17) else (gO (getI shM 7 x0 31 σ17) fun v18 => if v18 ≤ x2 then (f_X7_letter_b203 (-3) σ17) else (gO (getI shM 7 x0 33 σ17) fun v19 => f_X7_letter_b203 v19 σ17)))) else (some ((-2), σ4))) else (f_X7_letter_b12  σ2))
set_option maxRecDepth 100000 in
set_option maxHeartbeats 4000000 in
theorem t_X7_letter {l : Launch} {γ : Gm} {ad : Nat → Nat} {K : Option Value → Hp → Prop} (hc : Cx l γ 3 6 ad shM RX7 cX7_letter (some .int) K) {x0 : Nat} {x1 : Int32} {x2 : Int32} {σ : Hp} (h : wpO (f_X7_letter x0 x1 x2 σ) (KI K)) : WW l γ 3 6 ad shM 0 [(0, .ref (ad x0)), (1, .int x1), (2, .int x2)] [] σ := by
  unfold f_X7_letter at h
  refine r_iload_n hc 1 rfl rfl dX7_letter_0 ?_
  obtain ⟨r1, σ2, er1, h⟩ := wp_b h
  refine r_callS hc ms_X7_isDrawer ml_X7_132 (c_X7_isDrawer er1) rfl rfl (by decide) rfl (Nat.le_of_ble_eq_true rfl) dX7_letter_1 ?_
  refine r_if_eq hc (tgt := 12) dX7_letter_4 (by decide) (fun c => ?_) (fun c => ?_)
  · have h := wp_t c h
    refine r_sub [] (lv' := []) rfl ?_
    exact t_X7_letter_b12 hc h
  · have h := wp_f c h
    refine r_iload_n hc 2 rfl rfl dX7_letter_7 ?_
    refine r_iconst hc (v := (-1)) (by decide) dX7_letter_8 ?_
    refine r_icmp_ge hc (tgt := 14) dX7_letter_9 (by decide) (fun c => ?_) (fun c => ?_)
    · have h := wp_t c h
      refine r_aload_n hc 0 rfl rfl dX7_letter_14 ?_
      refine r_iload_n hc 1 rfl rfl dX7_letter_15 ?_
      obtain ⟨_, ek5, h⟩ := wp_g h
      obtain ⟨r3, σ4, er3, h⟩ := wp_b h
      refine r_callV hc (k0 := x0) mv_X7_isEmpty ml_X7_85 (c_X7_isEmpty er3) (chk_of ek5) cls_7.1 rfl rfl rfl (by decide) rfl (Nat.le_of_ble_eq_true rfl) dX7_letter_16 ?_
      refine r_if_eq hc (tgt := 25) dX7_letter_19 (by decide) (fun c => ?_) (fun c => ?_)
      · have h := wp_t c h
        refine r_aload_n hc 0 rfl rfl dX7_letter_25 ?_
        refine r_iconst hc (v := 0) (by decide) dX7_letter_26 ?_
        obtain ⟨σ6, eσ6, h⟩ := wp_g h
        refine r_putI hc eσ6 fp_X7_343 rfl dX7_letter_27 ?_
        refine r_aload_n hc 0 rfl rfl dX7_letter_30 ?_
        refine r_iload_n hc 2 rfl rfl dX7_letter_31 ?_
        obtain ⟨σ7, eσ7, h⟩ := wp_g h
        refine r_putI hc eσ7 fp_X7_346 rfl dX7_letter_32 ?_
        refine r_aload_n hc 0 rfl rfl dX7_letter_35 ?_
        refine r_bipush hc (v := 48) (by decide) dX7_letter_36 ?_
        refine r_aload_n hc 0 rfl rfl dX7_letter_38 ?_
        obtain ⟨v8, ev8, h⟩ := wp_g h
        refine r_getR hc ev8 fl_X7_7 rfl dX7_letter_39 ?_
        refine r_iload_n hc 1 rfl rfl dX7_letter_42 ?_
        obtain ⟨v9, ev9, h⟩ := wp_g h
        refine r_iald hc ev9 dX7_letter_43 ?_
        refine r_iadd hc dX7_letter_44 ?_
        obtain ⟨_, ek12, h⟩ := wp_g h
        obtain ⟨_, σ11, er10, h⟩ := wp_b h
        refine r_callV hc (k0 := x0) mv_X7_writes ml_X7_352 (c_X7_writes er10) (chk_of ek12) cls_7.1 rfl rfl rfl (by decide) rfl (Nat.le_of_ble_eq_true rfl) dX7_letter_45 ?_
        refine r_aload_n hc 0 rfl rfl dX7_letter_48 ?_
        refine r_bipush hc (v := 58) (by decide) dX7_letter_49 ?_
        obtain ⟨_, ek15, h⟩ := wp_g h
        obtain ⟨_, σ14, er13, h⟩ := wp_b h
        refine r_callV hc (k0 := x0) mv_X7_writes ml_X7_352 (c_X7_writes er13) (chk_of ek15) cls_7.1 rfl rfl rfl (by decide) rfl (Nat.le_of_ble_eq_true rfl) dX7_letter_51 ?_
        refine r_iconst hc (v := 0) (by decide) dX7_letter_54 ?_
        refine r_istore_nE hc (i := 3) (lv' := [(3, .int 0), (0, .ref (ad x0)), (1, .int x1), (2, .int x2)]) rfl rfl (by decide) rfl dX7_letter_55 ?_
        refine r_sub [1, 2, 3, 0] (lv' := [(0, .ref (ad x0)), (1, .int x1), (2, .int x2), (3, .int 0)]) rfl ?_
        refine t_X7_letter_L56 hc (wp_bb h) ?_
        · intro y16 σ17 h
          refine r_iload_n hc 1 rfl rfl dX7_letter_174 ?_
          refine r_iconst hc (v := (-1)) (by decide) dX7_letter_175 ?_
          refine r_icmp_ne hc (tgt := 186) dX7_letter_176 (by decide) (fun c => ?_) (fun c => ?_)
          · have h := wp_f c h
            refine r_iload_n hc 1 rfl rfl dX7_letter_186 ?_
            refine r_aload_n hc 0 rfl rfl dX7_letter_187 ?_
            obtain ⟨v18, ev18, h⟩ := wp_g h
            refine r_getI hc ev18 fl_X7_343 rfl dX7_letter_188 ?_
            refine r_icmp_ge hc (tgt := 201) dX7_letter_191 (by decide) (fun c => ?_) (fun c => ?_)
            · have h := wp_t c h
              refine r_bipush hc (v := (-3)) (by decide) dX7_letter_201 ?_
              refine r_sub [] (lv' := []) rfl ?_
              exact t_X7_letter_b203 hc h
            · have h := wp_f c h
              refine r_aload_n hc 0 rfl rfl dX7_letter_194 ?_
              obtain ⟨v19, ev19, h⟩ := wp_g h
              refine r_getI hc ev19 fl_X7_349 rfl dX7_letter_195 ?_
              refine r_goto hc (tgt := 203) dX7_letter_198 (by decide) ?_
              refine r_sub [] (lv' := []) rfl ?_
              exact t_X7_letter_b203 hc h
          · have h := wp_t c h
            refine r_aload_n hc 0 rfl rfl dX7_letter_179 ?_
            obtain ⟨v20, ev20, h⟩ := wp_g h
            refine r_getI hc ev20 fl_X7_343 rfl dX7_letter_180 ?_
            refine r_goto hc (tgt := 203) dX7_letter_183 (by decide) ?_
            refine r_sub [] (lv' := []) rfl ?_
            exact t_X7_letter_b203 hc h
      · have h := wp_f c h
        refine r_bipush hc (v := (-2)) (by decide) dX7_letter_22 ?_
        have h := wp_v h
        exact r_iret hc h dX7_letter_24
    · have h := wp_f c h
      refine r_sub [] (lv' := []) rfl ?_
      exact t_X7_letter_b12 hc h
theorem c_X7_letter {l : Launch} {x0 : Nat} {x1 : Int32} {x2 : Int32} {σ σ' : Hp} {r : Int32} (h : f_X7_letter x0 x1 x2 σ = some (r, σ')) : Mt l yX7_letter cX7_letter 6 (some .int) 3 shM (fun ad => [.ref (ad x0), .int x1, .int x2]) σ (fun ad => some (.int r)) σ' := mt_i (own := RX7) (by decide) rfl (fun _ => Nat.le_of_ble_eq_true rfl) (fun γ ad K hc hk => t_X7_letter hc ⟨_, _, h, hk⟩)

-- NetMapsModel.count(I)I
theorem dX7_count_0 : decode cX7_count 0 = .ok (.iload_n 1, 1) := by decide +kernel
theorem dX7_count_1 : decode cX7_count 1 = .ok (.bipush 10, 2) := by decide +kernel
theorem dX7_count_3 : decode cX7_count 3 = .ok (.bipush 16, 2) := by decide +kernel
theorem dX7_count_5 : decode cX7_count 5 = .ok (.invokestatic 81, 3) := by decide +kernel
theorem dX7_count_8 : decode cX7_count 8 = .ok (.ifCond .eq 13, 3) := by decide +kernel
theorem dX7_count_11 : decode cX7_count 11 = .ok (.aload_n 0, 1) := by decide +kernel
theorem dX7_count_12 : decode cX7_count 12 = .ok (.getfield 19, 3) := by decide +kernel
theorem dX7_count_15 : decode cX7_count 15 = .ok (.iload_n 1, 1) := by decide +kernel
theorem dX7_count_16 : decode cX7_count 16 = .ok (.bipush 10, 2) := by decide +kernel
theorem dX7_count_18 : decode cX7_count 18 = .ok (.isub, 1) := by decide +kernel
theorem dX7_count_19 : decode cX7_count 19 = .ok (.iaload, 1) := by decide +kernel
theorem dX7_count_20 : decode cX7_count 20 = .ok (.ireturn, 1) := by decide +kernel
theorem dX7_count_21 : decode cX7_count 21 = .ok (.iload_n 1, 1) := by decide +kernel
theorem dX7_count_22 : decode cX7_count 22 = .ok (.bipush 20, 2) := by decide +kernel
theorem dX7_count_24 : decode cX7_count 24 = .ok (.bipush 26, 2) := by decide +kernel
theorem dX7_count_26 : decode cX7_count 26 = .ok (.invokestatic 81, 3) := by decide +kernel
theorem dX7_count_29 : decode cX7_count 29 = .ok (.ifCond .eq 13, 3) := by decide +kernel
theorem dX7_count_32 : decode cX7_count 32 = .ok (.aload_n 0, 1) := by decide +kernel
theorem dX7_count_33 : decode cX7_count 33 = .ok (.getfield 22, 3) := by decide +kernel
theorem dX7_count_36 : decode cX7_count 36 = .ok (.iload_n 1, 1) := by decide +kernel
theorem dX7_count_37 : decode cX7_count 37 = .ok (.bipush 20, 2) := by decide +kernel
theorem dX7_count_39 : decode cX7_count 39 = .ok (.isub, 1) := by decide +kernel
theorem dX7_count_40 : decode cX7_count 40 = .ok (.iaload, 1) := by decide +kernel
theorem dX7_count_41 : decode cX7_count 41 = .ok (.ireturn, 1) := by decide +kernel
theorem dX7_count_42 : decode cX7_count 42 = .ok (.iconst 0, 1) := by decide +kernel
theorem dX7_count_43 : decode cX7_count 43 = .ok (.istore_n 2, 1) := by decide +kernel
theorem dX7_count_44 : decode cX7_count 44 = .ok (.iconst 0, 1) := by decide +kernel
theorem dX7_count_45 : decode cX7_count 45 = .ok (.istore_n 3, 1) := by decide +kernel
theorem dX7_count_46 : decode cX7_count 46 = .ok (.iload_n 3, 1) := by decide +kernel
theorem dX7_count_47 : decode cX7_count 47 = .ok (.bipush 6, 2) := by decide +kernel
theorem dX7_count_49 : decode cX7_count 49 = .ok (.if_icmp .ge 27, 3) := by decide +kernel
theorem dX7_count_52 : decode cX7_count 52 = .ok (.iload_n 2, 1) := by decide +kernel
theorem dX7_count_53 : decode cX7_count 53 = .ok (.aload_n 0, 1) := by decide +kernel
theorem dX7_count_54 : decode cX7_count 54 = .ok (.iload_n 3, 1) := by decide +kernel
theorem dX7_count_55 : decode cX7_count 55 = .ok (.invokevirtual 85, 3) := by decide +kernel
theorem dX7_count_58 : decode cX7_count 58 = .ok (.ifCond .eq 7, 3) := by decide +kernel
theorem dX7_count_61 : decode cX7_count 61 = .ok (.iconst 0, 1) := by decide +kernel
theorem dX7_count_62 : decode cX7_count 62 = .ok (.goto 6, 3) := by decide +kernel
theorem dX7_count_65 : decode cX7_count 65 = .ok (.iconst 1, 1) := by decide +kernel
theorem dX7_count_66 : decode cX7_count 66 = .ok (.iload_n 3, 1) := by decide +kernel
theorem dX7_count_67 : decode cX7_count 67 = .ok (.ishl, 1) := by decide +kernel
theorem dX7_count_68 : decode cX7_count 68 = .ok (.ior, 1) := by decide +kernel
theorem dX7_count_69 : decode cX7_count 69 = .ok (.istore_n 2, 1) := by decide +kernel
theorem dX7_count_70 : decode cX7_count 70 = .ok (.iinc 3 1, 3) := by decide +kernel
theorem dX7_count_73 : decode cX7_count 73 = .ok (.goto (-27), 3) := by decide +kernel
theorem dX7_count_76 : decode cX7_count 76 = .ok (.iload_n 1, 1) := by decide +kernel
theorem dX7_count_77 : decode cX7_count 77 = .ok (.ifCond .ne 7, 3) := by decide +kernel
theorem dX7_count_80 : decode cX7_count 80 = .ok (.iload_n 2, 1) := by decide +kernel
theorem dX7_count_81 : decode cX7_count 81 = .ok (.goto 28, 3) := by decide +kernel
theorem dX7_count_84 : decode cX7_count 84 = .ok (.iload_n 1, 1) := by decide +kernel
theorem dX7_count_85 : decode cX7_count 85 = .ok (.iconst 1, 1) := by decide +kernel
theorem dX7_count_86 : decode cX7_count 86 = .ok (.if_icmp .ne 10, 3) := by decide +kernel
theorem dX7_count_89 : decode cX7_count 89 = .ok (.aload_n 0, 1) := by decide +kernel
theorem dX7_count_90 : decode cX7_count 90 = .ok (.getfield 97, 3) := by decide +kernel
theorem dX7_count_93 : decode cX7_count 93 = .ok (.goto 16, 3) := by decide +kernel
theorem dX7_count_96 : decode cX7_count 96 = .ok (.iload_n 1, 1) := by decide +kernel
theorem dX7_count_97 : decode cX7_count 97 = .ok (.iconst 2, 1) := by decide +kernel
theorem dX7_count_98 : decode cX7_count 98 = .ok (.if_icmp .ne 10, 3) := by decide +kernel
theorem dX7_count_101 : decode cX7_count 101 = .ok (.aload_n 0, 1) := by decide +kernel
theorem dX7_count_102 : decode cX7_count 102 = .ok (.getfield 355, 3) := by decide +kernel
theorem dX7_count_105 : decode cX7_count 105 = .ok (.goto 4, 3) := by decide +kernel
theorem dX7_count_108 : decode cX7_count 108 = .ok (.iconst (-1), 1) := by decide +kernel
theorem dX7_count_109 : decode cX7_count 109 = .ok (.ireturn, 1) := by decide +kernel
noncomputable def f_X7_count_b68 (x0 : Nat) (x1 : Int32) (x3 : Int32) (s0 : Int32) (s1 : Int32) (σ : Hp) : Option (((Int32 × Int32) ⊕ (Int32)) × Hp) := some (Sum.inl ((s0 ||| s1), (x3 + 1)), σ)
set_option maxRecDepth 100000 in
set_option maxHeartbeats 4000000 in
theorem t_X7_count_b68 {l : Launch} {γ : Gm} {ad : Nat → Nat} {K : Option Value → Hp → Prop} (hc : Cx l γ 2 4 ad shM RX7 cX7_count (some .int) K) {x0 : Nat} {x1 : Int32} {x3 : Int32} {s0 : Int32} {s1 : Int32}  {σ : Hp} {KL : ((Int32 × Int32) ⊕ (Int32)) → Hp → Prop} (h : wpO (f_X7_count_b68 x0 x1 x3 s0 s1 σ) KL) (kn : ∀ (v : (Int32 × Int32)) (σ : Hp), KL (Sum.inl v) σ → WW l γ 2 4 ad shM 46 [(0, .ref (ad x0)), (1, .int x1), (2, .int v.1), (3, .int v.2)] [] σ) (kx76 : ∀ (v : Int32) (σ : Hp), KL (Sum.inr v) σ → WW l γ 2 4 ad shM 76 [(0, .ref (ad x0)), (1, .int x1), (2, .int v)] [] σ) : WW l γ 2 4 ad shM 68 [(0, .ref (ad x0)), (1, .int x1), (3, .int x3)] [.int s1, .int s0] σ := by
  unfold f_X7_count_b68 at h
  refine r_ior hc dX7_count_68 ?_
  refine r_istore_nE hc (i := 2) (lv' := [(2, .int (s0 ||| s1)), (0, .ref (ad x0)), (1, .int x1), (3, .int x3)]) rfl rfl (by decide) rfl dX7_count_69 ?_
  refine r_iincE hc (j := 3) (w := 1) (lv' := [(3, .int (x3 + 1)), (2, .int (s0 ||| s1)), (0, .ref (ad x0)), (1, .int x1)]) rfl (by decide) rfl (by decide) rfl dX7_count_70 ?_
  refine r_goto hc (tgt := 46) dX7_count_73 (by decide) ?_
  refine r_sub [2, 3, 1, 0] (lv' := [(0, .ref (ad x0)), (1, .int x1), (2, .int (s0 ||| s1)), (3, .int (x3 + 1))]) rfl ?_
  have h := wp_v h
  exact kn ((s0 ||| s1), (x3 + 1)) _ h
noncomputable def f_X7_count_L46 (x0 : Nat) (x1 : Int32) (v : (Int32 × Int32)) (σ : Hp) : Option (((Int32 × Int32) ⊕ (Int32)) × Hp) := if 6 ≤ v.2 then (some (Sum.inr v.1, σ)) else (gO (chk shM x0 7) fun _ => bO (f_X7_isEmpty x0 v.2 σ) fun r1 σ2 => if r1 = 0 then (f_X7_count_b68 x0 x1 v.2 v.1 ((1 : Int32) <<< (v.2 &&& 31)) σ2) else (f_X7_count_b68 x0 x1 v.2 v.1 0 σ2))
set_option maxRecDepth 100000 in
set_option maxHeartbeats 4000000 in
theorem t_X7_count_L46 {l : Launch} {γ : Gm} {ad : Nat → Nat} {K : Option Value → Hp → Prop}  (hc : Cx l γ 2 4 ad shM RX7 cX7_count (some .int) K) {x0 : Nat} {x1 : Int32} {v : (Int32 × Int32)} {σ : Hp} {KX : (Int32) → Hp → Prop} (h : wpO (wh (f_X7_count_L46 x0 x1) v σ) KX) (kx76 : ∀ (v : Int32) (σ : Hp), KX v σ → WW l γ 2 4 ad shM 76 [(0, .ref (ad x0)), (1, .int x1), (2, .int v)] [] σ) : WW l γ 2 4 ad shM 46 [(0, .ref (ad x0)), (1, .int x1), (2, .int v.1), (3, .int v.2)] [] σ := by
  refine wh_W (P := fun v σ => WW l γ 2 4 ad shM 46 [(0, .ref (ad x0)), (1, .int x1), (2, .int v.1), (3, .int v.2)] [] σ) (fun v σ h => ?_) h
  have kn : ∀ (v : (Int32 × Int32)) (σ : Hp), WW l γ 2 4 ad shM 46 [(0, .ref (ad x0)), (1, .int x1), (2, .int v.1), (3, .int v.2)] [] σ → WW l γ 2 4 ad shM 46 [(0, .ref (ad x0)), (1, .int x1), (2, .int v.1), (3, .int v.2)] [] σ := fun _ _ h => h
  · unfold f_X7_count_L46 at h
    refine r_iload_n hc 3 rfl rfl dX7_count_46 ?_
    refine r_bipush hc (v := 6) (by decide) dX7_count_47 ?_
    refine r_icmp_ge hc (tgt := 76) dX7_count_49 (by decide) (fun c => ?_) (fun c => ?_)
    · have h := wp_t c h
      refine r_sub [0, 1, 2] (lv' := [(0, .ref (ad x0)), (1, .int x1), (2, .int v.1)]) rfl ?_
      have h := wp_v h
      exact kx76 v.1 _ h
    · have h := wp_f c h
      refine r_iload_n hc 2 rfl rfl dX7_count_52 ?_
      refine r_aload_n hc 0 rfl rfl dX7_count_53 ?_
      refine r_iload_n hc 3 rfl rfl dX7_count_54 ?_
      obtain ⟨_, ek3, h⟩ := wp_g h
      obtain ⟨r1, σ2, er1, h⟩ := wp_b h
      refine r_callV hc (k0 := x0) mv_X7_isEmpty ml_X7_85 (c_X7_isEmpty er1) (chk_of ek3) cls_7.1 rfl rfl rfl (by decide) rfl (Nat.le_of_ble_eq_true rfl) dX7_count_55 ?_
      refine r_if_eq hc (tgt := 65) dX7_count_58 (by decide) (fun c => ?_) (fun c => ?_)
      · have h := wp_t c h
        refine r_iconst hc (v := 1) (by decide) dX7_count_65 ?_
        refine r_iload_n hc 3 rfl rfl dX7_count_66 ?_
        refine r_ishl hc dX7_count_67 ?_
        refine r_sub [0, 1, 3] (lv' := [(0, .ref (ad x0)), (1, .int x1), (3, .int v.2)]) rfl ?_
        exact t_X7_count_b68 hc h kn kx76
      · have h := wp_f c h
        refine r_iconst hc (v := 0) (by decide) dX7_count_61 ?_
        refine r_goto hc (tgt := 68) dX7_count_62 (by decide) ?_
        refine r_sub [0, 1, 3] (lv' := [(0, .ref (ad x0)), (1, .int x1), (3, .int v.2)]) rfl ?_
        exact t_X7_count_b68 hc h kn kx76
noncomputable def f_X7_count_b109 (s0 : Int32) (σ : Hp) : Option (Int32 × Hp) := some (s0, σ)
set_option maxRecDepth 100000 in
set_option maxHeartbeats 4000000 in
theorem t_X7_count_b109 {l : Launch} {γ : Gm} {ad : Nat → Nat} {K : Option Value → Hp → Prop} (hc : Cx l γ 2 4 ad shM RX7 cX7_count (some .int) K) {s0 : Int32} {σ : Hp} (h : wpO (f_X7_count_b109 s0 σ) (KI K)) : WW l γ 2 4 ad shM 109 [] [.int s0] σ := by
  unfold f_X7_count_b109 at h
  have h := wp_v h
  exact r_iret hc h dX7_count_109
noncomputable def f_X7_count (x0 : Nat) (x1 : Int32) (σ : Hp) : Option (Int32 × Hp) := bO (f_X7_in x1 10 16 σ) fun r1 σ2 => if r1 = 0 then (bO (f_X7_in x1 20 26 σ2) fun r3 σ4 => if r3 = 0 then (bO (wh (f_X7_count_L46 x0 x1) (0, 0) σ4) fun y5 σ6 => (if x1 = 0 then (f_X7_count_b109 y5 σ6) else (if x1 = 1 then (gO (getI shM 7 x0 6 σ6) fun v8 => f_X7_count_b109 v8 σ6) else (if x1 = 2 then (gO (getI shM 7 x0 34 σ6) fun v7 => f_X7_count_b109 v7 σ6) else (f_X7_count_b109 (-1) σ6))))) else (gO (getR shM 7 x0 4 σ4) fun v9 => gO (aldI shM 0 v9 (x1 - 20) σ4) fun v10 => some (v10, σ4))) else (gO (getR shM 7 x0 3 σ2) fun v11 => gO (aldI shM 0 v11 (x1 - 10) σ2) fun v12 => some (v12, σ2))
set_option maxRecDepth 100000 in
set_option maxHeartbeats 4000000 in
theorem t_X7_count {l : Launch} {γ : Gm} {ad : Nat → Nat} {K : Option Value → Hp → Prop} (hc : Cx l γ 2 4 ad shM RX7 cX7_count (some .int) K) {x0 : Nat} {x1 : Int32} {σ : Hp} (h : wpO (f_X7_count x0 x1 σ) (KI K)) : WW l γ 2 4 ad shM 0 [(0, .ref (ad x0)), (1, .int x1)] [] σ := by
  unfold f_X7_count at h
  refine r_iload_n hc 1 rfl rfl dX7_count_0 ?_
  refine r_bipush hc (v := 10) (by decide) dX7_count_1 ?_
  refine r_bipush hc (v := 16) (by decide) dX7_count_3 ?_
  obtain ⟨r1, σ2, er1, h⟩ := wp_b h
  refine r_callS hc ms_X7_in ml_X7_81 (c_X7_in er1) rfl rfl (by decide) rfl (Nat.le_of_ble_eq_true rfl) dX7_count_5 ?_
  refine r_if_eq hc (tgt := 21) dX7_count_8 (by decide) (fun c => ?_) (fun c => ?_)
  · have h := wp_t c h
    refine r_iload_n hc 1 rfl rfl dX7_count_21 ?_
    refine r_bipush hc (v := 20) (by decide) dX7_count_22 ?_
    refine r_bipush hc (v := 26) (by decide) dX7_count_24 ?_
    obtain ⟨r3, σ4, er3, h⟩ := wp_b h
    refine r_callS hc ms_X7_in ml_X7_81 (c_X7_in er3) rfl rfl (by decide) rfl (Nat.le_of_ble_eq_true rfl) dX7_count_26 ?_
    refine r_if_eq hc (tgt := 42) dX7_count_29 (by decide) (fun c => ?_) (fun c => ?_)
    · have h := wp_t c h
      refine r_iconst hc (v := 0) (by decide) dX7_count_42 ?_
      refine r_istore_nE hc (i := 2) (lv' := [(2, .int 0), (0, .ref (ad x0)), (1, .int x1)]) rfl rfl (by decide) rfl dX7_count_43 ?_
      refine r_iconst hc (v := 0) (by decide) dX7_count_44 ?_
      refine r_istore_nE hc (i := 3) (lv' := [(3, .int 0), (2, .int 0), (0, .ref (ad x0)), (1, .int x1)]) rfl rfl (by decide) rfl dX7_count_45 ?_
      refine r_sub [2, 3, 1, 0] (lv' := [(0, .ref (ad x0)), (1, .int x1), (2, .int 0), (3, .int 0)]) rfl ?_
      refine t_X7_count_L46 hc (wp_bb h) ?_
      · intro y5 σ6 h
        refine r_iload_n hc 1 rfl rfl dX7_count_76 ?_
        refine r_if_ne hc (tgt := 84) dX7_count_77 (by decide) (fun c => ?_) (fun c => ?_)
        · have h := wp_f c h
          refine r_iload_n hc 1 rfl rfl dX7_count_84 ?_
          refine r_iconst hc (v := 1) (by decide) dX7_count_85 ?_
          refine r_icmp_ne hc (tgt := 96) dX7_count_86 (by decide) (fun c => ?_) (fun c => ?_)
          · have h := wp_f c h
            refine r_iload_n hc 1 rfl rfl dX7_count_96 ?_
            refine r_iconst hc (v := 2) (by decide) dX7_count_97 ?_
            refine r_icmp_ne hc (tgt := 108) dX7_count_98 (by decide) (fun c => ?_) (fun c => ?_)
            · have h := wp_f c h
              refine r_iconst hc (v := (-1)) (by decide) dX7_count_108 ?_
              refine r_sub [] (lv' := []) rfl ?_
              exact t_X7_count_b109 hc h
            · have h := wp_t c h
              refine r_aload_n hc 0 rfl rfl dX7_count_101 ?_
              obtain ⟨v7, ev7, h⟩ := wp_g h
              refine r_getI hc ev7 fl_X7_355 rfl dX7_count_102 ?_
              refine r_goto hc (tgt := 109) dX7_count_105 (by decide) ?_
              refine r_sub [] (lv' := []) rfl ?_
              exact t_X7_count_b109 hc h
          · have h := wp_t c h
            refine r_aload_n hc 0 rfl rfl dX7_count_89 ?_
            obtain ⟨v8, ev8, h⟩ := wp_g h
            refine r_getI hc ev8 fl_X7_97 rfl dX7_count_90 ?_
            refine r_goto hc (tgt := 109) dX7_count_93 (by decide) ?_
            refine r_sub [] (lv' := []) rfl ?_
            exact t_X7_count_b109 hc h
        · have h := wp_t c h
          refine r_iload_n hc 2 rfl rfl dX7_count_80 ?_
          refine r_goto hc (tgt := 109) dX7_count_81 (by decide) ?_
          refine r_sub [] (lv' := []) rfl ?_
          exact t_X7_count_b109 hc h
    · have h := wp_f c h
      refine r_aload_n hc 0 rfl rfl dX7_count_32 ?_
      obtain ⟨v9, ev9, h⟩ := wp_g h
      refine r_getR hc ev9 fl_X7_22 rfl dX7_count_33 ?_
      refine r_iload_n hc 1 rfl rfl dX7_count_36 ?_
      refine r_bipush hc (v := 20) (by decide) dX7_count_37 ?_
      refine r_isub hc dX7_count_39 ?_
      obtain ⟨v10, ev10, h⟩ := wp_g h
      refine r_iald hc ev10 dX7_count_40 ?_
      have h := wp_v h
      exact r_iret hc h dX7_count_41
  · have h := wp_f c h
    refine r_aload_n hc 0 rfl rfl dX7_count_11 ?_
    obtain ⟨v11, ev11, h⟩ := wp_g h
    refine r_getR hc ev11 fl_X7_19 rfl dX7_count_12 ?_
    refine r_iload_n hc 1 rfl rfl dX7_count_15 ?_
    refine r_bipush hc (v := 10) (by decide) dX7_count_16 ?_
    refine r_isub hc dX7_count_18 ?_
    obtain ⟨v12, ev12, h⟩ := wp_g h
    refine r_iald hc ev12 dX7_count_19 ?_
    have h := wp_v h
    exact r_iret hc h dX7_count_20
theorem c_X7_count {l : Launch} {x0 : Nat} {x1 : Int32} {σ σ' : Hp} {r : Int32} (h : f_X7_count x0 x1 σ = some (r, σ')) : Mt l yX7_count cX7_count 4 (some .int) 2 shM (fun ad => [.ref (ad x0), .int x1]) σ (fun ad => some (.int r)) σ' := mt_i (own := RX7) (by decide) rfl (fun _ => Nat.le_of_ble_eq_true rfl) (fun γ ad K hc hk => t_X7_count hc ⟨_, _, h, hk⟩)

-- NetMapsModel.keep()I
theorem dX7_keep_0 : decode cX7_keep 0 = .ok (.aload_n 0, 1) := by decide +kernel
theorem dX7_keep_1 : decode cX7_keep 1 = .ok (.getfield 355, 3) := by decide +kernel
theorem dX7_keep_4 : decode cX7_keep 4 = .ok (.bipush 10, 2) := by decide +kernel
theorem dX7_keep_6 : decode cX7_keep 6 = .ok (.if_icmp .ne 5, 3) := by decide +kernel
theorem dX7_keep_9 : decode cX7_keep 9 = .ok (.iconst (-1), 1) := by decide +kernel
theorem dX7_keep_10 : decode cX7_keep 10 = .ok (.ireturn, 1) := by decide +kernel
theorem dX7_keep_11 : decode cX7_keep 11 = .ok (.iconst 0, 1) := by decide +kernel
theorem dX7_keep_12 : decode cX7_keep 12 = .ok (.istore_n 1, 1) := by decide +kernel
theorem dX7_keep_13 : decode cX7_keep 13 = .ok (.iload_n 1, 1) := by decide +kernel
theorem dX7_keep_14 : decode cX7_keep 14 = .ok (.bipush 6, 2) := by decide +kernel
theorem dX7_keep_16 : decode cX7_keep 16 = .ok (.if_icmp .ge 29, 3) := by decide +kernel
theorem dX7_keep_19 : decode cX7_keep 19 = .ok (.aload_n 0, 1) := by decide +kernel
theorem dX7_keep_20 : decode cX7_keep 20 = .ok (.getfield 66, 3) := by decide +kernel
theorem dX7_keep_23 : decode cX7_keep 23 = .ok (.bipush 6, 2) := by decide +kernel
theorem dX7_keep_25 : decode cX7_keep 25 = .ok (.aload_n 0, 1) := by decide +kernel
theorem dX7_keep_26 : decode cX7_keep 26 = .ok (.getfield 355, 3) := by decide +kernel
theorem dX7_keep_29 : decode cX7_keep 29 = .ok (.imul, 1) := by decide +kernel
theorem dX7_keep_30 : decode cX7_keep 30 = .ok (.iload_n 1, 1) := by decide +kernel
theorem dX7_keep_31 : decode cX7_keep 31 = .ok (.iadd, 1) := by decide +kernel
theorem dX7_keep_32 : decode cX7_keep 32 = .ok (.aload_n 0, 1) := by decide +kernel
theorem dX7_keep_33 : decode cX7_keep 33 = .ok (.getfield 7, 3) := by decide +kernel
theorem dX7_keep_36 : decode cX7_keep 36 = .ok (.iload_n 1, 1) := by decide +kernel
theorem dX7_keep_37 : decode cX7_keep 37 = .ok (.iaload, 1) := by decide +kernel
theorem dX7_keep_38 : decode cX7_keep 38 = .ok (.iastore, 1) := by decide +kernel
theorem dX7_keep_39 : decode cX7_keep 39 = .ok (.iinc 1 1, 3) := by decide +kernel
theorem dX7_keep_42 : decode cX7_keep 42 = .ok (.goto (-29), 3) := by decide +kernel
theorem dX7_keep_45 : decode cX7_keep 45 = .ok (.iconst 0, 1) := by decide +kernel
theorem dX7_keep_46 : decode cX7_keep 46 = .ok (.istore_n 1, 1) := by decide +kernel
theorem dX7_keep_47 : decode cX7_keep 47 = .ok (.iload_n 1, 1) := by decide +kernel
theorem dX7_keep_48 : decode cX7_keep 48 = .ok (.bipush 42, 2) := by decide +kernel
theorem dX7_keep_50 : decode cX7_keep 50 = .ok (.if_icmp .ge 49, 3) := by decide +kernel
theorem dX7_keep_53 : decode cX7_keep 53 = .ok (.aload_n 0, 1) := by decide +kernel
theorem dX7_keep_54 : decode cX7_keep 54 = .ok (.getfield 69, 3) := by decide +kernel
theorem dX7_keep_57 : decode cX7_keep 57 = .ok (.bipush 42, 2) := by decide +kernel
theorem dX7_keep_59 : decode cX7_keep 59 = .ok (.aload_n 0, 1) := by decide +kernel
theorem dX7_keep_60 : decode cX7_keep 60 = .ok (.getfield 355, 3) := by decide +kernel
theorem dX7_keep_63 : decode cX7_keep 63 = .ok (.imul, 1) := by decide +kernel
theorem dX7_keep_64 : decode cX7_keep 64 = .ok (.iload_n 1, 1) := by decide +kernel
theorem dX7_keep_65 : decode cX7_keep 65 = .ok (.iadd, 1) := by decide +kernel
theorem dX7_keep_66 : decode cX7_keep 66 = .ok (.aload_n 0, 1) := by decide +kernel
theorem dX7_keep_67 : decode cX7_keep 67 = .ok (.getfield 13, 3) := by decide +kernel
theorem dX7_keep_70 : decode cX7_keep 70 = .ok (.iload_n 1, 1) := by decide +kernel
theorem dX7_keep_71 : decode cX7_keep 71 = .ok (.iaload, 1) := by decide +kernel
theorem dX7_keep_72 : decode cX7_keep 72 = .ok (.iastore, 1) := by decide +kernel
theorem dX7_keep_73 : decode cX7_keep 73 = .ok (.aload_n 0, 1) := by decide +kernel
theorem dX7_keep_74 : decode cX7_keep 74 = .ok (.getfield 72, 3) := by decide +kernel
theorem dX7_keep_77 : decode cX7_keep 77 = .ok (.bipush 42, 2) := by decide +kernel
theorem dX7_keep_79 : decode cX7_keep 79 = .ok (.aload_n 0, 1) := by decide +kernel
theorem dX7_keep_80 : decode cX7_keep 80 = .ok (.getfield 355, 3) := by decide +kernel
theorem dX7_keep_83 : decode cX7_keep 83 = .ok (.imul, 1) := by decide +kernel
theorem dX7_keep_84 : decode cX7_keep 84 = .ok (.iload_n 1, 1) := by decide +kernel
theorem dX7_keep_85 : decode cX7_keep 85 = .ok (.iadd, 1) := by decide +kernel
theorem dX7_keep_86 : decode cX7_keep 86 = .ok (.aload_n 0, 1) := by decide +kernel
theorem dX7_keep_87 : decode cX7_keep 87 = .ok (.getfield 16, 3) := by decide +kernel
theorem dX7_keep_90 : decode cX7_keep 90 = .ok (.iload_n 1, 1) := by decide +kernel
theorem dX7_keep_91 : decode cX7_keep 91 = .ok (.iaload, 1) := by decide +kernel
theorem dX7_keep_92 : decode cX7_keep 92 = .ok (.iastore, 1) := by decide +kernel
theorem dX7_keep_93 : decode cX7_keep 93 = .ok (.iinc 1 1, 3) := by decide +kernel
theorem dX7_keep_96 : decode cX7_keep 96 = .ok (.goto (-49), 3) := by decide +kernel
theorem dX7_keep_99 : decode cX7_keep 99 = .ok (.iconst 0, 1) := by decide +kernel
theorem dX7_keep_100 : decode cX7_keep 100 = .ok (.istore_n 1, 1) := by decide +kernel
theorem dX7_keep_101 : decode cX7_keep 101 = .ok (.iload_n 1, 1) := by decide +kernel
theorem dX7_keep_102 : decode cX7_keep 102 = .ok (.bipush 7, 2) := by decide +kernel
theorem dX7_keep_104 : decode cX7_keep 104 = .ok (.if_icmp .ge 49, 3) := by decide +kernel
theorem dX7_keep_107 : decode cX7_keep 107 = .ok (.aload_n 0, 1) := by decide +kernel
theorem dX7_keep_108 : decode cX7_keep 108 = .ok (.getfield 75, 3) := by decide +kernel
theorem dX7_keep_111 : decode cX7_keep 111 = .ok (.bipush 7, 2) := by decide +kernel
theorem dX7_keep_113 : decode cX7_keep 113 = .ok (.aload_n 0, 1) := by decide +kernel
theorem dX7_keep_114 : decode cX7_keep 114 = .ok (.getfield 355, 3) := by decide +kernel
theorem dX7_keep_117 : decode cX7_keep 117 = .ok (.imul, 1) := by decide +kernel
theorem dX7_keep_118 : decode cX7_keep 118 = .ok (.iload_n 1, 1) := by decide +kernel
theorem dX7_keep_119 : decode cX7_keep 119 = .ok (.iadd, 1) := by decide +kernel
theorem dX7_keep_120 : decode cX7_keep 120 = .ok (.aload_n 0, 1) := by decide +kernel
theorem dX7_keep_121 : decode cX7_keep 121 = .ok (.getfield 19, 3) := by decide +kernel
theorem dX7_keep_124 : decode cX7_keep 124 = .ok (.iload_n 1, 1) := by decide +kernel
theorem dX7_keep_125 : decode cX7_keep 125 = .ok (.iaload, 1) := by decide +kernel
theorem dX7_keep_126 : decode cX7_keep 126 = .ok (.iastore, 1) := by decide +kernel
theorem dX7_keep_127 : decode cX7_keep 127 = .ok (.aload_n 0, 1) := by decide +kernel
theorem dX7_keep_128 : decode cX7_keep 128 = .ok (.getfield 78, 3) := by decide +kernel
theorem dX7_keep_131 : decode cX7_keep 131 = .ok (.bipush 7, 2) := by decide +kernel
theorem dX7_keep_133 : decode cX7_keep 133 = .ok (.aload_n 0, 1) := by decide +kernel
theorem dX7_keep_134 : decode cX7_keep 134 = .ok (.getfield 355, 3) := by decide +kernel
theorem dX7_keep_137 : decode cX7_keep 137 = .ok (.imul, 1) := by decide +kernel
theorem dX7_keep_138 : decode cX7_keep 138 = .ok (.iload_n 1, 1) := by decide +kernel
theorem dX7_keep_139 : decode cX7_keep 139 = .ok (.iadd, 1) := by decide +kernel
theorem dX7_keep_140 : decode cX7_keep 140 = .ok (.aload_n 0, 1) := by decide +kernel
theorem dX7_keep_141 : decode cX7_keep 141 = .ok (.getfield 22, 3) := by decide +kernel
theorem dX7_keep_144 : decode cX7_keep 144 = .ok (.iload_n 1, 1) := by decide +kernel
theorem dX7_keep_145 : decode cX7_keep 145 = .ok (.iaload, 1) := by decide +kernel
theorem dX7_keep_146 : decode cX7_keep 146 = .ok (.iastore, 1) := by decide +kernel
theorem dX7_keep_147 : decode cX7_keep 147 = .ok (.iinc 1 1, 3) := by decide +kernel
theorem dX7_keep_150 : decode cX7_keep 150 = .ok (.goto (-49), 3) := by decide +kernel
theorem dX7_keep_153 : decode cX7_keep 153 = .ok (.aload_n 0, 1) := by decide +kernel
theorem dX7_keep_154 : decode cX7_keep 154 = .ok (.aload_n 0, 1) := by decide +kernel
theorem dX7_keep_155 : decode cX7_keep 155 = .ok (.getfield 355, 3) := by decide +kernel
theorem dX7_keep_158 : decode cX7_keep 158 = .ok (.iconst 1, 1) := by decide +kernel
theorem dX7_keep_159 : decode cX7_keep 159 = .ok (.iadd, 1) := by decide +kernel
theorem dX7_keep_160 : decode cX7_keep 160 = .ok (.putfield 355, 3) := by decide +kernel
theorem dX7_keep_163 : decode cX7_keep 163 = .ok (.aload_n 0, 1) := by decide +kernel
theorem dX7_keep_164 : decode cX7_keep 164 = .ok (.getfield 355, 3) := by decide +kernel
theorem dX7_keep_167 : decode cX7_keep 167 = .ok (.ireturn, 1) := by decide +kernel
noncomputable def f_X7_keep_L13 (x0 : Nat) (v : (Int32)) (σ : Hp) : Option (((Int32) ⊕ (Unit)) × Hp) := if 6 ≤ v then (some (Sum.inr (), σ)) else (gO (getR shM 7 x0 35 σ) fun v1 => gO (getI shM 7 x0 34 σ) fun v2 => gO (getR shM 7 x0 0 σ) fun v3 => gO (aldI shM 0 v3 v σ) fun v4 => gO (astI shM 0 v1 ((6 * v2) + v) v4 σ) fun σ5 => some (Sum.inl (v + 1), σ5))
set_option maxRecDepth 100000 in
set_option maxHeartbeats 4000000 in
theorem t_X7_keep_L13 {l : Launch} {γ : Gm} {ad : Nat → Nat} {K : Option Value → Hp → Prop}  (hc : Cx l γ 1 2 ad shM RX7 cX7_keep (some .int) K) {x0 : Nat} {v : (Int32)} {σ : Hp} {KX : (Unit) → Hp → Prop} (h : wpO (wh (f_X7_keep_L13 x0) v σ) KX) (kx45 : ∀ (v : Unit) (σ : Hp), KX v σ → WW l γ 1 2 ad shM 45 [(0, .ref (ad x0))] [] σ) : WW l γ 1 2 ad shM 13 [(0, .ref (ad x0)), (1, .int v)] [] σ := by
  refine wh_W (P := fun v σ => WW l γ 1 2 ad shM 13 [(0, .ref (ad x0)), (1, .int v)] [] σ) (fun v σ h => ?_) h
  have kn : ∀ (v : (Int32)) (σ : Hp), WW l γ 1 2 ad shM 13 [(0, .ref (ad x0)), (1, .int v)] [] σ → WW l γ 1 2 ad shM 13 [(0, .ref (ad x0)), (1, .int v)] [] σ := fun _ _ h => h
  · unfold f_X7_keep_L13 at h
    refine r_iload_n hc 1 rfl rfl dX7_keep_13 ?_
    refine r_bipush hc (v := 6) (by decide) dX7_keep_14 ?_
    refine r_icmp_ge hc (tgt := 45) dX7_keep_16 (by decide) (fun c => ?_) (fun c => ?_)
    · have h := wp_t c h
      refine r_sub [0] (lv' := [(0, .ref (ad x0))]) rfl ?_
      have h := wp_v h
      exact kx45 () _ h
    · have h := wp_f c h
      refine r_aload_n hc 0 rfl rfl dX7_keep_19 ?_
      obtain ⟨v1, ev1, h⟩ := wp_g h
      refine r_getR hc ev1 fl_X7_66 rfl dX7_keep_20 ?_
      refine r_bipush hc (v := 6) (by decide) dX7_keep_23 ?_
      refine r_aload_n hc 0 rfl rfl dX7_keep_25 ?_
      obtain ⟨v2, ev2, h⟩ := wp_g h
      refine r_getI hc ev2 fl_X7_355 rfl dX7_keep_26 ?_
      refine r_imul hc dX7_keep_29 ?_
      refine r_iload_n hc 1 rfl rfl dX7_keep_30 ?_
      refine r_iadd hc dX7_keep_31 ?_
      refine r_aload_n hc 0 rfl rfl dX7_keep_32 ?_
      obtain ⟨v3, ev3, h⟩ := wp_g h
      refine r_getR hc ev3 fl_X7_7 rfl dX7_keep_33 ?_
      refine r_iload_n hc 1 rfl rfl dX7_keep_36 ?_
      obtain ⟨v4, ev4, h⟩ := wp_g h
      refine r_iald hc ev4 dX7_keep_37 ?_
      obtain ⟨σ5, eσ5, h⟩ := wp_g h
      refine r_iast hc eσ5 dX7_keep_38 ?_
      refine r_iincE hc (j := 1) (w := 1) (lv' := [(1, .int (v + 1)), (0, .ref (ad x0))]) rfl (by decide) rfl (by decide) rfl dX7_keep_39 ?_
      refine r_goto hc (tgt := 13) dX7_keep_42 (by decide) ?_
      refine r_sub [1, 0] (lv' := [(0, .ref (ad x0)), (1, .int (v + 1))]) rfl ?_
      have h := wp_v h
      exact kn (v + 1) _ h
noncomputable def f_X7_keep_L47 (x0 : Nat) (v : (Int32)) (σ : Hp) : Option (((Int32) ⊕ (Unit)) × Hp) := if 42 ≤ v then (some (Sum.inr (), σ)) else (gO (getR shM 7 x0 36 σ) fun v1 => gO (getI shM 7 x0 34 σ) fun v2 => gO (getR shM 7 x0 1 σ) fun v3 => gO (aldI shM 0 v3 v σ) fun v4 => gO (astI shM 0 v1 ((42 * v2) + v) v4 σ) fun σ5 => gO (getR shM 7 x0 37 σ5) fun v6 => gO (getI shM 7 x0 34 σ5) fun v7 => gO (getR shM 7 x0 2 σ5) fun v8 => gO (aldI shM 0 v8 v σ5) fun v9 => gO (astI shM 0 v6 ((42 * v7) + v) v9 σ5) fun σ10 => some (Sum.inl (v + 1), σ10))
set_option maxRecDepth 100000 in
set_option maxHeartbeats 4000000 in
theorem t_X7_keep_L47 {l : Launch} {γ : Gm} {ad : Nat → Nat} {K : Option Value → Hp → Prop}  (hc : Cx l γ 1 2 ad shM RX7 cX7_keep (some .int) K) {x0 : Nat} {v : (Int32)} {σ : Hp} {KX : (Unit) → Hp → Prop} (h : wpO (wh (f_X7_keep_L47 x0) v σ) KX) (kx99 : ∀ (v : Unit) (σ : Hp), KX v σ → WW l γ 1 2 ad shM 99 [(0, .ref (ad x0))] [] σ) : WW l γ 1 2 ad shM 47 [(0, .ref (ad x0)), (1, .int v)] [] σ := by
  refine wh_W (P := fun v σ => WW l γ 1 2 ad shM 47 [(0, .ref (ad x0)), (1, .int v)] [] σ) (fun v σ h => ?_) h
  have kn : ∀ (v : (Int32)) (σ : Hp), WW l γ 1 2 ad shM 47 [(0, .ref (ad x0)), (1, .int v)] [] σ → WW l γ 1 2 ad shM 47 [(0, .ref (ad x0)), (1, .int v)] [] σ := fun _ _ h => h
  · unfold f_X7_keep_L47 at h
    refine r_iload_n hc 1 rfl rfl dX7_keep_47 ?_
    refine r_bipush hc (v := 42) (by decide) dX7_keep_48 ?_
    refine r_icmp_ge hc (tgt := 99) dX7_keep_50 (by decide) (fun c => ?_) (fun c => ?_)
    · have h := wp_t c h
      refine r_sub [0] (lv' := [(0, .ref (ad x0))]) rfl ?_
      have h := wp_v h
      exact kx99 () _ h
    · have h := wp_f c h
      refine r_aload_n hc 0 rfl rfl dX7_keep_53 ?_
      obtain ⟨v1, ev1, h⟩ := wp_g h
      refine r_getR hc ev1 fl_X7_69 rfl dX7_keep_54 ?_
      refine r_bipush hc (v := 42) (by decide) dX7_keep_57 ?_
      refine r_aload_n hc 0 rfl rfl dX7_keep_59 ?_
      obtain ⟨v2, ev2, h⟩ := wp_g h
      refine r_getI hc ev2 fl_X7_355 rfl dX7_keep_60 ?_
      refine r_imul hc dX7_keep_63 ?_
      refine r_iload_n hc 1 rfl rfl dX7_keep_64 ?_
      refine r_iadd hc dX7_keep_65 ?_
      refine r_aload_n hc 0 rfl rfl dX7_keep_66 ?_
      obtain ⟨v3, ev3, h⟩ := wp_g h
      refine r_getR hc ev3 fl_X7_13 rfl dX7_keep_67 ?_
      refine r_iload_n hc 1 rfl rfl dX7_keep_70 ?_
      obtain ⟨v4, ev4, h⟩ := wp_g h
      refine r_iald hc ev4 dX7_keep_71 ?_
      obtain ⟨σ5, eσ5, h⟩ := wp_g h
      refine r_iast hc eσ5 dX7_keep_72 ?_
      refine r_aload_n hc 0 rfl rfl dX7_keep_73 ?_
      obtain ⟨v6, ev6, h⟩ := wp_g h
      refine r_getR hc ev6 fl_X7_72 rfl dX7_keep_74 ?_
      refine r_bipush hc (v := 42) (by decide) dX7_keep_77 ?_
      refine r_aload_n hc 0 rfl rfl dX7_keep_79 ?_
      obtain ⟨v7, ev7, h⟩ := wp_g h
      refine r_getI hc ev7 fl_X7_355 rfl dX7_keep_80 ?_
      refine r_imul hc dX7_keep_83 ?_
      refine r_iload_n hc 1 rfl rfl dX7_keep_84 ?_
      refine r_iadd hc dX7_keep_85 ?_
      refine r_aload_n hc 0 rfl rfl dX7_keep_86 ?_
      obtain ⟨v8, ev8, h⟩ := wp_g h
      refine r_getR hc ev8 fl_X7_16 rfl dX7_keep_87 ?_
      refine r_iload_n hc 1 rfl rfl dX7_keep_90 ?_
      obtain ⟨v9, ev9, h⟩ := wp_g h
      refine r_iald hc ev9 dX7_keep_91 ?_
      obtain ⟨σ10, eσ10, h⟩ := wp_g h
      refine r_iast hc eσ10 dX7_keep_92 ?_
      refine r_iincE hc (j := 1) (w := 1) (lv' := [(1, .int (v + 1)), (0, .ref (ad x0))]) rfl (by decide) rfl (by decide) rfl dX7_keep_93 ?_
      refine r_goto hc (tgt := 47) dX7_keep_96 (by decide) ?_
      refine r_sub [1, 0] (lv' := [(0, .ref (ad x0)), (1, .int (v + 1))]) rfl ?_
      have h := wp_v h
      exact kn (v + 1) _ h
noncomputable def f_X7_keep_L101 (x0 : Nat) (v : (Int32)) (σ : Hp) : Option (((Int32) ⊕ (Unit)) × Hp) := if 7 ≤ v then (some (Sum.inr (), σ)) else (gO (getR shM 7 x0 38 σ) fun v1 => gO (getI shM 7 x0 34 σ) fun v2 => gO (getR shM 7 x0 3 σ) fun v3 => gO (aldI shM 0 v3 v σ) fun v4 => gO (astI shM 0 v1 ((7 * v2) + v) v4 σ) fun σ5 => gO (getR shM 7 x0 39 σ5) fun v6 => gO (getI shM 7 x0 34 σ5) fun v7 => gO (getR shM 7 x0 4 σ5) fun v8 => gO (aldI shM 0 v8 v σ5) fun v9 => gO (astI shM 0 v6 ((7 * v7) + v) v9 σ5) fun σ10 => some (Sum.inl (v + 1), σ10))
set_option maxRecDepth 100000 in
set_option maxHeartbeats 4000000 in
theorem t_X7_keep_L101 {l : Launch} {γ : Gm} {ad : Nat → Nat} {K : Option Value → Hp → Prop}  (hc : Cx l γ 1 2 ad shM RX7 cX7_keep (some .int) K) {x0 : Nat} {v : (Int32)} {σ : Hp} {KX : (Unit) → Hp → Prop} (h : wpO (wh (f_X7_keep_L101 x0) v σ) KX) (kx153 : ∀ (v : Unit) (σ : Hp), KX v σ → WW l γ 1 2 ad shM 153 [(0, .ref (ad x0))] [] σ) : WW l γ 1 2 ad shM 101 [(0, .ref (ad x0)), (1, .int v)] [] σ := by
  refine wh_W (P := fun v σ => WW l γ 1 2 ad shM 101 [(0, .ref (ad x0)), (1, .int v)] [] σ) (fun v σ h => ?_) h
  have kn : ∀ (v : (Int32)) (σ : Hp), WW l γ 1 2 ad shM 101 [(0, .ref (ad x0)), (1, .int v)] [] σ → WW l γ 1 2 ad shM 101 [(0, .ref (ad x0)), (1, .int v)] [] σ := fun _ _ h => h
  · unfold f_X7_keep_L101 at h
    refine r_iload_n hc 1 rfl rfl dX7_keep_101 ?_
    refine r_bipush hc (v := 7) (by decide) dX7_keep_102 ?_
    refine r_icmp_ge hc (tgt := 153) dX7_keep_104 (by decide) (fun c => ?_) (fun c => ?_)
    · have h := wp_t c h
      refine r_sub [0] (lv' := [(0, .ref (ad x0))]) rfl ?_
      have h := wp_v h
      exact kx153 () _ h
    · have h := wp_f c h
      refine r_aload_n hc 0 rfl rfl dX7_keep_107 ?_
      obtain ⟨v1, ev1, h⟩ := wp_g h
      refine r_getR hc ev1 fl_X7_75 rfl dX7_keep_108 ?_
      refine r_bipush hc (v := 7) (by decide) dX7_keep_111 ?_
      refine r_aload_n hc 0 rfl rfl dX7_keep_113 ?_
      obtain ⟨v2, ev2, h⟩ := wp_g h
      refine r_getI hc ev2 fl_X7_355 rfl dX7_keep_114 ?_
      refine r_imul hc dX7_keep_117 ?_
      refine r_iload_n hc 1 rfl rfl dX7_keep_118 ?_
      refine r_iadd hc dX7_keep_119 ?_
      refine r_aload_n hc 0 rfl rfl dX7_keep_120 ?_
      obtain ⟨v3, ev3, h⟩ := wp_g h
      refine r_getR hc ev3 fl_X7_19 rfl dX7_keep_121 ?_
      refine r_iload_n hc 1 rfl rfl dX7_keep_124 ?_
      obtain ⟨v4, ev4, h⟩ := wp_g h
      refine r_iald hc ev4 dX7_keep_125 ?_
      obtain ⟨σ5, eσ5, h⟩ := wp_g h
      refine r_iast hc eσ5 dX7_keep_126 ?_
      refine r_aload_n hc 0 rfl rfl dX7_keep_127 ?_
      obtain ⟨v6, ev6, h⟩ := wp_g h
      refine r_getR hc ev6 fl_X7_78 rfl dX7_keep_128 ?_
      refine r_bipush hc (v := 7) (by decide) dX7_keep_131 ?_
      refine r_aload_n hc 0 rfl rfl dX7_keep_133 ?_
      obtain ⟨v7, ev7, h⟩ := wp_g h
      refine r_getI hc ev7 fl_X7_355 rfl dX7_keep_134 ?_
      refine r_imul hc dX7_keep_137 ?_
      refine r_iload_n hc 1 rfl rfl dX7_keep_138 ?_
      refine r_iadd hc dX7_keep_139 ?_
      refine r_aload_n hc 0 rfl rfl dX7_keep_140 ?_
      obtain ⟨v8, ev8, h⟩ := wp_g h
      refine r_getR hc ev8 fl_X7_22 rfl dX7_keep_141 ?_
      refine r_iload_n hc 1 rfl rfl dX7_keep_144 ?_
      obtain ⟨v9, ev9, h⟩ := wp_g h
      refine r_iald hc ev9 dX7_keep_145 ?_
      obtain ⟨σ10, eσ10, h⟩ := wp_g h
      refine r_iast hc eσ10 dX7_keep_146 ?_
      refine r_iincE hc (j := 1) (w := 1) (lv' := [(1, .int (v + 1)), (0, .ref (ad x0))]) rfl (by decide) rfl (by decide) rfl dX7_keep_147 ?_
      refine r_goto hc (tgt := 101) dX7_keep_150 (by decide) ?_
      refine r_sub [1, 0] (lv' := [(0, .ref (ad x0)), (1, .int (v + 1))]) rfl ?_
      have h := wp_v h
      exact kn (v + 1) _ h
noncomputable def f_X7_keep (x0 : Nat) (σ : Hp) : Option (Int32 × Hp) := gO (getI shM 7 x0 34 σ) fun v1 => if v1 = 10 then (some ((-1), σ)) else (bO (wh (f_X7_keep_L13 x0) 0 σ) fun y2 σ3 => (bO (wh (f_X7_keep_L47 x0) 0 σ3) fun y4 σ5 => (bO (wh (f_X7_keep_L101 x0) 0 σ5) fun y6 σ7 => (gO (getI shM 7 x0 34 σ7) fun v8 => gO (putI shM 7 x0 34 (v8 + 1) σ7) fun σ9 => gO (getI shM 7 x0 34 σ9) fun v10 => some (v10, σ9)))))
set_option maxRecDepth 100000 in
set_option maxHeartbeats 4000000 in
theorem t_X7_keep {l : Launch} {γ : Gm} {ad : Nat → Nat} {K : Option Value → Hp → Prop} (hc : Cx l γ 1 2 ad shM RX7 cX7_keep (some .int) K) {x0 : Nat} {σ : Hp} (h : wpO (f_X7_keep x0 σ) (KI K)) : WW l γ 1 2 ad shM 0 [(0, .ref (ad x0))] [] σ := by
  unfold f_X7_keep at h
  refine r_aload_n hc 0 rfl rfl dX7_keep_0 ?_
  obtain ⟨v1, ev1, h⟩ := wp_g h
  refine r_getI hc ev1 fl_X7_355 rfl dX7_keep_1 ?_
  refine r_bipush hc (v := 10) (by decide) dX7_keep_4 ?_
  refine r_icmp_ne hc (tgt := 11) dX7_keep_6 (by decide) (fun c => ?_) (fun c => ?_)
  · have h := wp_f c h
    refine r_iconst hc (v := 0) (by decide) dX7_keep_11 ?_
    refine r_istore_nE hc (i := 1) (lv' := [(1, .int 0), (0, .ref (ad x0))]) rfl rfl (by decide) rfl dX7_keep_12 ?_
    refine r_sub [1, 0] (lv' := [(0, .ref (ad x0)), (1, .int 0)]) rfl ?_
    refine t_X7_keep_L13 hc (wp_bb h) ?_
    · intro y2 σ3 h
      refine r_iconst hc (v := 0) (by decide) dX7_keep_45 ?_
      refine r_istore_nE hc (i := 1) (lv' := [(1, .int 0), (0, .ref (ad x0))]) rfl rfl (by decide) rfl dX7_keep_46 ?_
      refine r_sub [1, 0] (lv' := [(0, .ref (ad x0)), (1, .int 0)]) rfl ?_
      refine t_X7_keep_L47 hc (wp_bb h) ?_
      · intro y4 σ5 h
        refine r_iconst hc (v := 0) (by decide) dX7_keep_99 ?_
        refine r_istore_nE hc (i := 1) (lv' := [(1, .int 0), (0, .ref (ad x0))]) rfl rfl (by decide) rfl dX7_keep_100 ?_
        refine r_sub [1, 0] (lv' := [(0, .ref (ad x0)), (1, .int 0)]) rfl ?_
        refine t_X7_keep_L101 hc (wp_bb h) ?_
        · intro y6 σ7 h
          refine r_aload_n hc 0 rfl rfl dX7_keep_153 ?_
          refine r_aload_n hc 0 rfl rfl dX7_keep_154 ?_
          obtain ⟨v8, ev8, h⟩ := wp_g h
          refine r_getI hc ev8 fl_X7_355 rfl dX7_keep_155 ?_
          refine r_iconst hc (v := 1) (by decide) dX7_keep_158 ?_
          refine r_iadd hc dX7_keep_159 ?_
          obtain ⟨σ9, eσ9, h⟩ := wp_g h
          refine r_putI hc eσ9 fp_X7_355 rfl dX7_keep_160 ?_
          refine r_aload_n hc 0 rfl rfl dX7_keep_163 ?_
          obtain ⟨v10, ev10, h⟩ := wp_g h
          refine r_getI hc ev10 fl_X7_355 rfl dX7_keep_164 ?_
          have h := wp_v h
          exact r_iret hc h dX7_keep_167
  · have h := wp_t c h
    refine r_iconst hc (v := (-1)) (by decide) dX7_keep_9 ?_
    have h := wp_v h
    exact r_iret hc h dX7_keep_10
theorem c_X7_keep {l : Launch} {x0 : Nat} {σ σ' : Hp} {r : Int32} (h : f_X7_keep x0 σ = some (r, σ')) : Mt l yX7_keep cX7_keep 2 (some .int) 1 shM (fun ad => [.ref (ad x0)]) σ (fun ad => some (.int r)) σ' := mt_i (own := RX7) (by decide) rfl (fun _ => Nat.le_of_ble_eq_true rfl) (fun γ ad K hc hk => t_X7_keep hc ⟨_, _, h, hk⟩)

-- NetMapsModel.undo()I
theorem dX7_undo_0 : decode cX7_undo 0 = .ok (.aload_n 0, 1) := by decide +kernel
theorem dX7_undo_1 : decode cX7_undo 1 = .ok (.getfield 355, 3) := by decide +kernel
theorem dX7_undo_4 : decode cX7_undo 4 = .ok (.ifCond .ne 5, 3) := by decide +kernel
theorem dX7_undo_7 : decode cX7_undo 7 = .ok (.iconst (-1), 1) := by decide +kernel
theorem dX7_undo_8 : decode cX7_undo 8 = .ok (.ireturn, 1) := by decide +kernel
theorem dX7_undo_9 : decode cX7_undo 9 = .ok (.aload_n 0, 1) := by decide +kernel
theorem dX7_undo_10 : decode cX7_undo 10 = .ok (.aload_n 0, 1) := by decide +kernel
theorem dX7_undo_11 : decode cX7_undo 11 = .ok (.getfield 355, 3) := by decide +kernel
theorem dX7_undo_14 : decode cX7_undo 14 = .ok (.iconst 1, 1) := by decide +kernel
theorem dX7_undo_15 : decode cX7_undo 15 = .ok (.isub, 1) := by decide +kernel
theorem dX7_undo_16 : decode cX7_undo 16 = .ok (.putfield 355, 3) := by decide +kernel
theorem dX7_undo_19 : decode cX7_undo 19 = .ok (.iconst 0, 1) := by decide +kernel
theorem dX7_undo_20 : decode cX7_undo 20 = .ok (.istore_n 1, 1) := by decide +kernel
theorem dX7_undo_21 : decode cX7_undo 21 = .ok (.iload_n 1, 1) := by decide +kernel
theorem dX7_undo_22 : decode cX7_undo 22 = .ok (.bipush 6, 2) := by decide +kernel
theorem dX7_undo_24 : decode cX7_undo 24 = .ok (.if_icmp .ge 29, 3) := by decide +kernel
theorem dX7_undo_27 : decode cX7_undo 27 = .ok (.aload_n 0, 1) := by decide +kernel
theorem dX7_undo_28 : decode cX7_undo 28 = .ok (.getfield 7, 3) := by decide +kernel
theorem dX7_undo_31 : decode cX7_undo 31 = .ok (.iload_n 1, 1) := by decide +kernel
theorem dX7_undo_32 : decode cX7_undo 32 = .ok (.aload_n 0, 1) := by decide +kernel
theorem dX7_undo_33 : decode cX7_undo 33 = .ok (.getfield 66, 3) := by decide +kernel
theorem dX7_undo_36 : decode cX7_undo 36 = .ok (.bipush 6, 2) := by decide +kernel
theorem dX7_undo_38 : decode cX7_undo 38 = .ok (.aload_n 0, 1) := by decide +kernel
theorem dX7_undo_39 : decode cX7_undo 39 = .ok (.getfield 355, 3) := by decide +kernel
theorem dX7_undo_42 : decode cX7_undo 42 = .ok (.imul, 1) := by decide +kernel
theorem dX7_undo_43 : decode cX7_undo 43 = .ok (.iload_n 1, 1) := by decide +kernel
theorem dX7_undo_44 : decode cX7_undo 44 = .ok (.iadd, 1) := by decide +kernel
theorem dX7_undo_45 : decode cX7_undo 45 = .ok (.iaload, 1) := by decide +kernel
theorem dX7_undo_46 : decode cX7_undo 46 = .ok (.iastore, 1) := by decide +kernel
theorem dX7_undo_47 : decode cX7_undo 47 = .ok (.iinc 1 1, 3) := by decide +kernel
theorem dX7_undo_50 : decode cX7_undo 50 = .ok (.goto (-29), 3) := by decide +kernel
theorem dX7_undo_53 : decode cX7_undo 53 = .ok (.iconst 0, 1) := by decide +kernel
theorem dX7_undo_54 : decode cX7_undo 54 = .ok (.istore_n 1, 1) := by decide +kernel
theorem dX7_undo_55 : decode cX7_undo 55 = .ok (.iload_n 1, 1) := by decide +kernel
theorem dX7_undo_56 : decode cX7_undo 56 = .ok (.bipush 42, 2) := by decide +kernel
theorem dX7_undo_58 : decode cX7_undo 58 = .ok (.if_icmp .ge 49, 3) := by decide +kernel
theorem dX7_undo_61 : decode cX7_undo 61 = .ok (.aload_n 0, 1) := by decide +kernel
theorem dX7_undo_62 : decode cX7_undo 62 = .ok (.getfield 13, 3) := by decide +kernel
theorem dX7_undo_65 : decode cX7_undo 65 = .ok (.iload_n 1, 1) := by decide +kernel
theorem dX7_undo_66 : decode cX7_undo 66 = .ok (.aload_n 0, 1) := by decide +kernel
theorem dX7_undo_67 : decode cX7_undo 67 = .ok (.getfield 69, 3) := by decide +kernel
theorem dX7_undo_70 : decode cX7_undo 70 = .ok (.bipush 42, 2) := by decide +kernel
theorem dX7_undo_72 : decode cX7_undo 72 = .ok (.aload_n 0, 1) := by decide +kernel
theorem dX7_undo_73 : decode cX7_undo 73 = .ok (.getfield 355, 3) := by decide +kernel
theorem dX7_undo_76 : decode cX7_undo 76 = .ok (.imul, 1) := by decide +kernel
theorem dX7_undo_77 : decode cX7_undo 77 = .ok (.iload_n 1, 1) := by decide +kernel
theorem dX7_undo_78 : decode cX7_undo 78 = .ok (.iadd, 1) := by decide +kernel
theorem dX7_undo_79 : decode cX7_undo 79 = .ok (.iaload, 1) := by decide +kernel
theorem dX7_undo_80 : decode cX7_undo 80 = .ok (.iastore, 1) := by decide +kernel
theorem dX7_undo_81 : decode cX7_undo 81 = .ok (.aload_n 0, 1) := by decide +kernel
theorem dX7_undo_82 : decode cX7_undo 82 = .ok (.getfield 16, 3) := by decide +kernel
theorem dX7_undo_85 : decode cX7_undo 85 = .ok (.iload_n 1, 1) := by decide +kernel
theorem dX7_undo_86 : decode cX7_undo 86 = .ok (.aload_n 0, 1) := by decide +kernel
theorem dX7_undo_87 : decode cX7_undo 87 = .ok (.getfield 72, 3) := by decide +kernel
theorem dX7_undo_90 : decode cX7_undo 90 = .ok (.bipush 42, 2) := by decide +kernel
theorem dX7_undo_92 : decode cX7_undo 92 = .ok (.aload_n 0, 1) := by decide +kernel
theorem dX7_undo_93 : decode cX7_undo 93 = .ok (.getfield 355, 3) := by decide +kernel
theorem dX7_undo_96 : decode cX7_undo 96 = .ok (.imul, 1) := by decide +kernel
theorem dX7_undo_97 : decode cX7_undo 97 = .ok (.iload_n 1, 1) := by decide +kernel
theorem dX7_undo_98 : decode cX7_undo 98 = .ok (.iadd, 1) := by decide +kernel
theorem dX7_undo_99 : decode cX7_undo 99 = .ok (.iaload, 1) := by decide +kernel
theorem dX7_undo_100 : decode cX7_undo 100 = .ok (.iastore, 1) := by decide +kernel
theorem dX7_undo_101 : decode cX7_undo 101 = .ok (.iinc 1 1, 3) := by decide +kernel
theorem dX7_undo_104 : decode cX7_undo 104 = .ok (.goto (-49), 3) := by decide +kernel
theorem dX7_undo_107 : decode cX7_undo 107 = .ok (.iconst 0, 1) := by decide +kernel
theorem dX7_undo_108 : decode cX7_undo 108 = .ok (.istore_n 1, 1) := by decide +kernel
theorem dX7_undo_109 : decode cX7_undo 109 = .ok (.iload_n 1, 1) := by decide +kernel
theorem dX7_undo_110 : decode cX7_undo 110 = .ok (.bipush 7, 2) := by decide +kernel
theorem dX7_undo_112 : decode cX7_undo 112 = .ok (.if_icmp .ge 49, 3) := by decide +kernel
theorem dX7_undo_115 : decode cX7_undo 115 = .ok (.aload_n 0, 1) := by decide +kernel
theorem dX7_undo_116 : decode cX7_undo 116 = .ok (.getfield 19, 3) := by decide +kernel
theorem dX7_undo_119 : decode cX7_undo 119 = .ok (.iload_n 1, 1) := by decide +kernel
theorem dX7_undo_120 : decode cX7_undo 120 = .ok (.aload_n 0, 1) := by decide +kernel
theorem dX7_undo_121 : decode cX7_undo 121 = .ok (.getfield 75, 3) := by decide +kernel
theorem dX7_undo_124 : decode cX7_undo 124 = .ok (.bipush 7, 2) := by decide +kernel
theorem dX7_undo_126 : decode cX7_undo 126 = .ok (.aload_n 0, 1) := by decide +kernel
theorem dX7_undo_127 : decode cX7_undo 127 = .ok (.getfield 355, 3) := by decide +kernel
theorem dX7_undo_130 : decode cX7_undo 130 = .ok (.imul, 1) := by decide +kernel
theorem dX7_undo_131 : decode cX7_undo 131 = .ok (.iload_n 1, 1) := by decide +kernel
theorem dX7_undo_132 : decode cX7_undo 132 = .ok (.iadd, 1) := by decide +kernel
theorem dX7_undo_133 : decode cX7_undo 133 = .ok (.iaload, 1) := by decide +kernel
theorem dX7_undo_134 : decode cX7_undo 134 = .ok (.iastore, 1) := by decide +kernel
theorem dX7_undo_135 : decode cX7_undo 135 = .ok (.aload_n 0, 1) := by decide +kernel
theorem dX7_undo_136 : decode cX7_undo 136 = .ok (.getfield 22, 3) := by decide +kernel
theorem dX7_undo_139 : decode cX7_undo 139 = .ok (.iload_n 1, 1) := by decide +kernel
theorem dX7_undo_140 : decode cX7_undo 140 = .ok (.aload_n 0, 1) := by decide +kernel
theorem dX7_undo_141 : decode cX7_undo 141 = .ok (.getfield 78, 3) := by decide +kernel
theorem dX7_undo_144 : decode cX7_undo 144 = .ok (.bipush 7, 2) := by decide +kernel
theorem dX7_undo_146 : decode cX7_undo 146 = .ok (.aload_n 0, 1) := by decide +kernel
theorem dX7_undo_147 : decode cX7_undo 147 = .ok (.getfield 355, 3) := by decide +kernel
theorem dX7_undo_150 : decode cX7_undo 150 = .ok (.imul, 1) := by decide +kernel
theorem dX7_undo_151 : decode cX7_undo 151 = .ok (.iload_n 1, 1) := by decide +kernel
theorem dX7_undo_152 : decode cX7_undo 152 = .ok (.iadd, 1) := by decide +kernel
theorem dX7_undo_153 : decode cX7_undo 153 = .ok (.iaload, 1) := by decide +kernel
theorem dX7_undo_154 : decode cX7_undo 154 = .ok (.iastore, 1) := by decide +kernel
theorem dX7_undo_155 : decode cX7_undo 155 = .ok (.iinc 1 1, 3) := by decide +kernel
theorem dX7_undo_158 : decode cX7_undo 158 = .ok (.goto (-49), 3) := by decide +kernel
theorem dX7_undo_161 : decode cX7_undo 161 = .ok (.aload_n 0, 1) := by decide +kernel
theorem dX7_undo_162 : decode cX7_undo 162 = .ok (.getfield 355, 3) := by decide +kernel
theorem dX7_undo_165 : decode cX7_undo 165 = .ok (.ireturn, 1) := by decide +kernel
noncomputable def f_X7_undo_L21 (x0 : Nat) (v : (Int32)) (σ : Hp) : Option (((Int32) ⊕ (Unit)) × Hp) := if 6 ≤ v then (some (Sum.inr (), σ)) else (gO (getR shM 7 x0 0 σ) fun v1 => gO (getR shM 7 x0 35 σ) fun v2 => gO (getI shM 7 x0 34 σ) fun v3 => gO (aldI shM 0 v2 ((6 * v3) + v) σ) fun v4 => gO (astI shM 0 v1 v v4 σ) fun σ5 => some (Sum.inl (v + 1), σ5))
set_option maxRecDepth 100000 in
set_option maxHeartbeats 4000000 in
theorem t_X7_undo_L21 {l : Launch} {γ : Gm} {ad : Nat → Nat} {K : Option Value → Hp → Prop}  (hc : Cx l γ 1 2 ad shM RX7 cX7_undo (some .int) K) {x0 : Nat} {v : (Int32)} {σ : Hp} {KX : (Unit) → Hp → Prop} (h : wpO (wh (f_X7_undo_L21 x0) v σ) KX) (kx53 : ∀ (v : Unit) (σ : Hp), KX v σ → WW l γ 1 2 ad shM 53 [(0, .ref (ad x0))] [] σ) : WW l γ 1 2 ad shM 21 [(0, .ref (ad x0)), (1, .int v)] [] σ := by
  refine wh_W (P := fun v σ => WW l γ 1 2 ad shM 21 [(0, .ref (ad x0)), (1, .int v)] [] σ) (fun v σ h => ?_) h
  have kn : ∀ (v : (Int32)) (σ : Hp), WW l γ 1 2 ad shM 21 [(0, .ref (ad x0)), (1, .int v)] [] σ → WW l γ 1 2 ad shM 21 [(0, .ref (ad x0)), (1, .int v)] [] σ := fun _ _ h => h
  · unfold f_X7_undo_L21 at h
    refine r_iload_n hc 1 rfl rfl dX7_undo_21 ?_
    refine r_bipush hc (v := 6) (by decide) dX7_undo_22 ?_
    refine r_icmp_ge hc (tgt := 53) dX7_undo_24 (by decide) (fun c => ?_) (fun c => ?_)
    · have h := wp_t c h
      refine r_sub [0] (lv' := [(0, .ref (ad x0))]) rfl ?_
      have h := wp_v h
      exact kx53 () _ h
    · have h := wp_f c h
      refine r_aload_n hc 0 rfl rfl dX7_undo_27 ?_
      obtain ⟨v1, ev1, h⟩ := wp_g h
      refine r_getR hc ev1 fl_X7_7 rfl dX7_undo_28 ?_
      refine r_iload_n hc 1 rfl rfl dX7_undo_31 ?_
      refine r_aload_n hc 0 rfl rfl dX7_undo_32 ?_
      obtain ⟨v2, ev2, h⟩ := wp_g h
      refine r_getR hc ev2 fl_X7_66 rfl dX7_undo_33 ?_
      refine r_bipush hc (v := 6) (by decide) dX7_undo_36 ?_
      refine r_aload_n hc 0 rfl rfl dX7_undo_38 ?_
      obtain ⟨v3, ev3, h⟩ := wp_g h
      refine r_getI hc ev3 fl_X7_355 rfl dX7_undo_39 ?_
      refine r_imul hc dX7_undo_42 ?_
      refine r_iload_n hc 1 rfl rfl dX7_undo_43 ?_
      refine r_iadd hc dX7_undo_44 ?_
      obtain ⟨v4, ev4, h⟩ := wp_g h
      refine r_iald hc ev4 dX7_undo_45 ?_
      obtain ⟨σ5, eσ5, h⟩ := wp_g h
      refine r_iast hc eσ5 dX7_undo_46 ?_
      refine r_iincE hc (j := 1) (w := 1) (lv' := [(1, .int (v + 1)), (0, .ref (ad x0))]) rfl (by decide) rfl (by decide) rfl dX7_undo_47 ?_
      refine r_goto hc (tgt := 21) dX7_undo_50 (by decide) ?_
      refine r_sub [1, 0] (lv' := [(0, .ref (ad x0)), (1, .int (v + 1))]) rfl ?_
      have h := wp_v h
      exact kn (v + 1) _ h
noncomputable def f_X7_undo_L55 (x0 : Nat) (v : (Int32)) (σ : Hp) : Option (((Int32) ⊕ (Unit)) × Hp) := if 42 ≤ v then (some (Sum.inr (), σ)) else (gO (getR shM 7 x0 1 σ) fun v1 => gO (getR shM 7 x0 36 σ) fun v2 => gO (getI shM 7 x0 34 σ) fun v3 => gO (aldI shM 0 v2 ((42 * v3) + v) σ) fun v4 => gO (astI shM 0 v1 v v4 σ) fun σ5 => gO (getR shM 7 x0 2 σ5) fun v6 => gO (getR shM 7 x0 37 σ5) fun v7 => gO (getI shM 7 x0 34 σ5) fun v8 => gO (aldI shM 0 v7 ((42 * v8) + v) σ5) fun v9 => gO (astI shM 0 v6 v v9 σ5) fun σ10 => some (Sum.inl (v + 1), σ10))
set_option maxRecDepth 100000 in
set_option maxHeartbeats 4000000 in
theorem t_X7_undo_L55 {l : Launch} {γ : Gm} {ad : Nat → Nat} {K : Option Value → Hp → Prop}  (hc : Cx l γ 1 2 ad shM RX7 cX7_undo (some .int) K) {x0 : Nat} {v : (Int32)} {σ : Hp} {KX : (Unit) → Hp → Prop} (h : wpO (wh (f_X7_undo_L55 x0) v σ) KX) (kx107 : ∀ (v : Unit) (σ : Hp), KX v σ → WW l γ 1 2 ad shM 107 [(0, .ref (ad x0))] [] σ) : WW l γ 1 2 ad shM 55 [(0, .ref (ad x0)), (1, .int v)] [] σ := by
  refine wh_W (P := fun v σ => WW l γ 1 2 ad shM 55 [(0, .ref (ad x0)), (1, .int v)] [] σ) (fun v σ h => ?_) h
  have kn : ∀ (v : (Int32)) (σ : Hp), WW l γ 1 2 ad shM 55 [(0, .ref (ad x0)), (1, .int v)] [] σ → WW l γ 1 2 ad shM 55 [(0, .ref (ad x0)), (1, .int v)] [] σ := fun _ _ h => h
  · unfold f_X7_undo_L55 at h
    refine r_iload_n hc 1 rfl rfl dX7_undo_55 ?_
    refine r_bipush hc (v := 42) (by decide) dX7_undo_56 ?_
    refine r_icmp_ge hc (tgt := 107) dX7_undo_58 (by decide) (fun c => ?_) (fun c => ?_)
    · have h := wp_t c h
      refine r_sub [0] (lv' := [(0, .ref (ad x0))]) rfl ?_
      have h := wp_v h
      exact kx107 () _ h
    · have h := wp_f c h
      refine r_aload_n hc 0 rfl rfl dX7_undo_61 ?_
      obtain ⟨v1, ev1, h⟩ := wp_g h
      refine r_getR hc ev1 fl_X7_13 rfl dX7_undo_62 ?_
      refine r_iload_n hc 1 rfl rfl dX7_undo_65 ?_
      refine r_aload_n hc 0 rfl rfl dX7_undo_66 ?_
      obtain ⟨v2, ev2, h⟩ := wp_g h
      refine r_getR hc ev2 fl_X7_69 rfl dX7_undo_67 ?_
      refine r_bipush hc (v := 42) (by decide) dX7_undo_70 ?_
      refine r_aload_n hc 0 rfl rfl dX7_undo_72 ?_
      obtain ⟨v3, ev3, h⟩ := wp_g h
      refine r_getI hc ev3 fl_X7_355 rfl dX7_undo_73 ?_
      refine r_imul hc dX7_undo_76 ?_
      refine r_iload_n hc 1 rfl rfl dX7_undo_77 ?_
      refine r_iadd hc dX7_undo_78 ?_
      obtain ⟨v4, ev4, h⟩ := wp_g h
      refine r_iald hc ev4 dX7_undo_79 ?_
      obtain ⟨σ5, eσ5, h⟩ := wp_g h
      refine r_iast hc eσ5 dX7_undo_80 ?_
      refine r_aload_n hc 0 rfl rfl dX7_undo_81 ?_
      obtain ⟨v6, ev6, h⟩ := wp_g h
      refine r_getR hc ev6 fl_X7_16 rfl dX7_undo_82 ?_
      refine r_iload_n hc 1 rfl rfl dX7_undo_85 ?_
      refine r_aload_n hc 0 rfl rfl dX7_undo_86 ?_
      obtain ⟨v7, ev7, h⟩ := wp_g h
      refine r_getR hc ev7 fl_X7_72 rfl dX7_undo_87 ?_
      refine r_bipush hc (v := 42) (by decide) dX7_undo_90 ?_
      refine r_aload_n hc 0 rfl rfl dX7_undo_92 ?_
      obtain ⟨v8, ev8, h⟩ := wp_g h
      refine r_getI hc ev8 fl_X7_355 rfl dX7_undo_93 ?_
      refine r_imul hc dX7_undo_96 ?_
      refine r_iload_n hc 1 rfl rfl dX7_undo_97 ?_
      refine r_iadd hc dX7_undo_98 ?_
      obtain ⟨v9, ev9, h⟩ := wp_g h
      refine r_iald hc ev9 dX7_undo_99 ?_
      obtain ⟨σ10, eσ10, h⟩ := wp_g h
      refine r_iast hc eσ10 dX7_undo_100 ?_
      refine r_iincE hc (j := 1) (w := 1) (lv' := [(1, .int (v + 1)), (0, .ref (ad x0))]) rfl (by decide) rfl (by decide) rfl dX7_undo_101 ?_
      refine r_goto hc (tgt := 55) dX7_undo_104 (by decide) ?_
      refine r_sub [1, 0] (lv' := [(0, .ref (ad x0)), (1, .int (v + 1))]) rfl ?_
      have h := wp_v h
      exact kn (v + 1) _ h
noncomputable def f_X7_undo_L109 (x0 : Nat) (v : (Int32)) (σ : Hp) : Option (((Int32) ⊕ (Unit)) × Hp) := if 7 ≤ v then (some (Sum.inr (), σ)) else (gO (getR shM 7 x0 3 σ) fun v1 => gO (getR shM 7 x0 38 σ) fun v2 => gO (getI shM 7 x0 34 σ) fun v3 => gO (aldI shM 0 v2 ((7 * v3) + v) σ) fun v4 => gO (astI shM 0 v1 v v4 σ) fun σ5 => gO (getR shM 7 x0 4 σ5) fun v6 => gO (getR shM 7 x0 39 σ5) fun v7 => gO (getI shM 7 x0 34 σ5) fun v8 => gO (aldI shM 0 v7 ((7 * v8) + v) σ5) fun v9 => gO (astI shM 0 v6 v v9 σ5) fun σ10 => some (Sum.inl (v + 1), σ10))
set_option maxRecDepth 100000 in
set_option maxHeartbeats 4000000 in
theorem t_X7_undo_L109 {l : Launch} {γ : Gm} {ad : Nat → Nat} {K : Option Value → Hp → Prop}  (hc : Cx l γ 1 2 ad shM RX7 cX7_undo (some .int) K) {x0 : Nat} {v : (Int32)} {σ : Hp} {KX : (Unit) → Hp → Prop} (h : wpO (wh (f_X7_undo_L109 x0) v σ) KX) (kx161 : ∀ (v : Unit) (σ : Hp), KX v σ → WW l γ 1 2 ad shM 161 [(0, .ref (ad x0))] [] σ) : WW l γ 1 2 ad shM 109 [(0, .ref (ad x0)), (1, .int v)] [] σ := by
  refine wh_W (P := fun v σ => WW l γ 1 2 ad shM 109 [(0, .ref (ad x0)), (1, .int v)] [] σ) (fun v σ h => ?_) h
  have kn : ∀ (v : (Int32)) (σ : Hp), WW l γ 1 2 ad shM 109 [(0, .ref (ad x0)), (1, .int v)] [] σ → WW l γ 1 2 ad shM 109 [(0, .ref (ad x0)), (1, .int v)] [] σ := fun _ _ h => h
  · unfold f_X7_undo_L109 at h
    refine r_iload_n hc 1 rfl rfl dX7_undo_109 ?_
    refine r_bipush hc (v := 7) (by decide) dX7_undo_110 ?_
    refine r_icmp_ge hc (tgt := 161) dX7_undo_112 (by decide) (fun c => ?_) (fun c => ?_)
    · have h := wp_t c h
      refine r_sub [0] (lv' := [(0, .ref (ad x0))]) rfl ?_
      have h := wp_v h
      exact kx161 () _ h
    · have h := wp_f c h
      refine r_aload_n hc 0 rfl rfl dX7_undo_115 ?_
      obtain ⟨v1, ev1, h⟩ := wp_g h
      refine r_getR hc ev1 fl_X7_19 rfl dX7_undo_116 ?_
      refine r_iload_n hc 1 rfl rfl dX7_undo_119 ?_
      refine r_aload_n hc 0 rfl rfl dX7_undo_120 ?_
      obtain ⟨v2, ev2, h⟩ := wp_g h
      refine r_getR hc ev2 fl_X7_75 rfl dX7_undo_121 ?_
      refine r_bipush hc (v := 7) (by decide) dX7_undo_124 ?_
      refine r_aload_n hc 0 rfl rfl dX7_undo_126 ?_
      obtain ⟨v3, ev3, h⟩ := wp_g h
      refine r_getI hc ev3 fl_X7_355 rfl dX7_undo_127 ?_
      refine r_imul hc dX7_undo_130 ?_
      refine r_iload_n hc 1 rfl rfl dX7_undo_131 ?_
      refine r_iadd hc dX7_undo_132 ?_
      obtain ⟨v4, ev4, h⟩ := wp_g h
      refine r_iald hc ev4 dX7_undo_133 ?_
      obtain ⟨σ5, eσ5, h⟩ := wp_g h
      refine r_iast hc eσ5 dX7_undo_134 ?_
      refine r_aload_n hc 0 rfl rfl dX7_undo_135 ?_
      obtain ⟨v6, ev6, h⟩ := wp_g h
      refine r_getR hc ev6 fl_X7_22 rfl dX7_undo_136 ?_
      refine r_iload_n hc 1 rfl rfl dX7_undo_139 ?_
      refine r_aload_n hc 0 rfl rfl dX7_undo_140 ?_
      obtain ⟨v7, ev7, h⟩ := wp_g h
      refine r_getR hc ev7 fl_X7_78 rfl dX7_undo_141 ?_
      refine r_bipush hc (v := 7) (by decide) dX7_undo_144 ?_
      refine r_aload_n hc 0 rfl rfl dX7_undo_146 ?_
      obtain ⟨v8, ev8, h⟩ := wp_g h
      refine r_getI hc ev8 fl_X7_355 rfl dX7_undo_147 ?_
      refine r_imul hc dX7_undo_150 ?_
      refine r_iload_n hc 1 rfl rfl dX7_undo_151 ?_
      refine r_iadd hc dX7_undo_152 ?_
      obtain ⟨v9, ev9, h⟩ := wp_g h
      refine r_iald hc ev9 dX7_undo_153 ?_
      obtain ⟨σ10, eσ10, h⟩ := wp_g h
      refine r_iast hc eσ10 dX7_undo_154 ?_
      refine r_iincE hc (j := 1) (w := 1) (lv' := [(1, .int (v + 1)), (0, .ref (ad x0))]) rfl (by decide) rfl (by decide) rfl dX7_undo_155 ?_
      refine r_goto hc (tgt := 109) dX7_undo_158 (by decide) ?_
      refine r_sub [1, 0] (lv' := [(0, .ref (ad x0)), (1, .int (v + 1))]) rfl ?_
      have h := wp_v h
      exact kn (v + 1) _ h
noncomputable def f_X7_undo (x0 : Nat) (σ : Hp) : Option (Int32 × Hp) := gO (getI shM 7 x0 34 σ) fun v1 => if v1 = 0 then (some ((-1), σ)) else (gO (getI shM 7 x0 34 σ) fun v2 => gO (putI shM 7 x0 34 (v2 - 1) σ) fun σ3 => bO (wh (f_X7_undo_L21 x0) 0 σ3) fun y4 σ5 => (bO (wh (f_X7_undo_L55 x0) 0 σ5) fun y6 σ7 => (bO (wh (f_X7_undo_L109 x0) 0 σ7) fun y8 σ9 => (gO (getI shM 7 x0 34 σ9) fun v10 => some (v10, σ9)))))
set_option maxRecDepth 100000 in
set_option maxHeartbeats 4000000 in
theorem t_X7_undo {l : Launch} {γ : Gm} {ad : Nat → Nat} {K : Option Value → Hp → Prop} (hc : Cx l γ 1 2 ad shM RX7 cX7_undo (some .int) K) {x0 : Nat} {σ : Hp} (h : wpO (f_X7_undo x0 σ) (KI K)) : WW l γ 1 2 ad shM 0 [(0, .ref (ad x0))] [] σ := by
  unfold f_X7_undo at h
  refine r_aload_n hc 0 rfl rfl dX7_undo_0 ?_
  obtain ⟨v1, ev1, h⟩ := wp_g h
  refine r_getI hc ev1 fl_X7_355 rfl dX7_undo_1 ?_
  refine r_if_ne hc (tgt := 9) dX7_undo_4 (by decide) (fun c => ?_) (fun c => ?_)
  · have h := wp_f c h
    refine r_aload_n hc 0 rfl rfl dX7_undo_9 ?_
    refine r_aload_n hc 0 rfl rfl dX7_undo_10 ?_
    obtain ⟨v2, ev2, h⟩ := wp_g h
    refine r_getI hc ev2 fl_X7_355 rfl dX7_undo_11 ?_
    refine r_iconst hc (v := 1) (by decide) dX7_undo_14 ?_
    refine r_isub hc dX7_undo_15 ?_
    obtain ⟨σ3, eσ3, h⟩ := wp_g h
    refine r_putI hc eσ3 fp_X7_355 rfl dX7_undo_16 ?_
    refine r_iconst hc (v := 0) (by decide) dX7_undo_19 ?_
    refine r_istore_nE hc (i := 1) (lv' := [(1, .int 0), (0, .ref (ad x0))]) rfl rfl (by decide) rfl dX7_undo_20 ?_
    refine r_sub [1, 0] (lv' := [(0, .ref (ad x0)), (1, .int 0)]) rfl ?_
    refine t_X7_undo_L21 hc (wp_bb h) ?_
    · intro y4 σ5 h
      refine r_iconst hc (v := 0) (by decide) dX7_undo_53 ?_
      refine r_istore_nE hc (i := 1) (lv' := [(1, .int 0), (0, .ref (ad x0))]) rfl rfl (by decide) rfl dX7_undo_54 ?_
      refine r_sub [1, 0] (lv' := [(0, .ref (ad x0)), (1, .int 0)]) rfl ?_
      refine t_X7_undo_L55 hc (wp_bb h) ?_
      · intro y6 σ7 h
        refine r_iconst hc (v := 0) (by decide) dX7_undo_107 ?_
        refine r_istore_nE hc (i := 1) (lv' := [(1, .int 0), (0, .ref (ad x0))]) rfl rfl (by decide) rfl dX7_undo_108 ?_
        refine r_sub [1, 0] (lv' := [(0, .ref (ad x0)), (1, .int 0)]) rfl ?_
        refine t_X7_undo_L109 hc (wp_bb h) ?_
        · intro y8 σ9 h
          refine r_aload_n hc 0 rfl rfl dX7_undo_161 ?_
          obtain ⟨v10, ev10, h⟩ := wp_g h
          refine r_getI hc ev10 fl_X7_355 rfl dX7_undo_162 ?_
          have h := wp_v h
          exact r_iret hc h dX7_undo_165
  · have h := wp_t c h
    refine r_iconst hc (v := (-1)) (by decide) dX7_undo_7 ?_
    have h := wp_v h
    exact r_iret hc h dX7_undo_8
theorem c_X7_undo {l : Launch} {x0 : Nat} {σ σ' : Hp} {r : Int32} (h : f_X7_undo x0 σ = some (r, σ')) : Mt l yX7_undo cX7_undo 2 (some .int) 1 shM (fun ad => [.ref (ad x0)]) σ (fun ad => some (.int r)) σ' := mt_i (own := RX7) (by decide) rfl (fun _ => Nat.le_of_ble_eq_true rfl) (fun γ ad K hc hk => t_X7_undo hc ⟨_, _, h, hk⟩)
