-- NetMaps.feedInt(I)V
theorem dX6_feedInt_0 : decode cX6_feedInt 0 = .ok (.bipush 24, 2) := by decide +kernel
theorem dX6_feedInt_2 : decode cX6_feedInt 2 = .ok (.istore_n 2, 1) := by decide +kernel
theorem dX6_feedInt_3 : decode cX6_feedInt 3 = .ok (.iload_n 2, 1) := by decide +kernel
theorem dX6_feedInt_4 : decode cX6_feedInt 4 = .ok (.ifCond .lt 45, 3) := by decide +kernel
theorem dX6_feedInt_7 : decode cX6_feedInt 7 = .ok (.aload_n 0, 1) := by decide +kernel
theorem dX6_feedInt_8 : decode cX6_feedInt 8 = .ok (.getfield 68, 3) := by decide +kernel
theorem dX6_feedInt_11 : decode cX6_feedInt 11 = .ok (.sipush 160, 3) := by decide +kernel
theorem dX6_feedInt_14 : decode cX6_feedInt 14 = .ok (.if_icmp .ge 29, 3) := by decide +kernel
theorem dX6_feedInt_17 : decode cX6_feedInt 17 = .ok (.aload_n 0, 1) := by decide +kernel
theorem dX6_feedInt_18 : decode cX6_feedInt 18 = .ok (.getfield 20, 3) := by decide +kernel
theorem dX6_feedInt_21 : decode cX6_feedInt 21 = .ok (.aload_n 0, 1) := by decide +kernel
theorem dX6_feedInt_22 : decode cX6_feedInt 22 = .ok (.getfield 68, 3) := by decide +kernel
theorem dX6_feedInt_25 : decode cX6_feedInt 25 = .ok (.iload_n 1, 1) := by decide +kernel
theorem dX6_feedInt_26 : decode cX6_feedInt 26 = .ok (.iload_n 2, 1) := by decide +kernel
theorem dX6_feedInt_27 : decode cX6_feedInt 27 = .ok (.iushr, 1) := by decide +kernel
theorem dX6_feedInt_28 : decode cX6_feedInt 28 = .ok (.sipush 255, 3) := by decide +kernel
theorem dX6_feedInt_31 : decode cX6_feedInt 31 = .ok (.iand, 1) := by decide +kernel
theorem dX6_feedInt_32 : decode cX6_feedInt 32 = .ok (.iastore, 1) := by decide +kernel
theorem dX6_feedInt_33 : decode cX6_feedInt 33 = .ok (.aload_n 0, 1) := by decide +kernel
theorem dX6_feedInt_34 : decode cX6_feedInt 34 = .ok (.dup, 1) := by decide +kernel
theorem dX6_feedInt_35 : decode cX6_feedInt 35 = .ok (.getfield 68, 3) := by decide +kernel
theorem dX6_feedInt_38 : decode cX6_feedInt 38 = .ok (.iconst 1, 1) := by decide +kernel
theorem dX6_feedInt_39 : decode cX6_feedInt 39 = .ok (.iadd, 1) := by decide +kernel
theorem dX6_feedInt_40 : decode cX6_feedInt 40 = .ok (.putfield 68, 3) := by decide +kernel
theorem dX6_feedInt_43 : decode cX6_feedInt 43 = .ok (.iinc 2 (-8), 3) := by decide +kernel
theorem dX6_feedInt_46 : decode cX6_feedInt 46 = .ok (.goto (-43), 3) := by decide +kernel
theorem dX6_feedInt_49 : decode cX6_feedInt 49 = .ok (.return_, 1) := by decide +kernel
noncomputable def f_X6_feedInt_b43 (x0 : Nat) (x1 : Int32) (x2 : Int32) (σ : Hp) : Option (((Int32) ⊕ (Unit)) × Hp) := some (Sum.inl (x2 + (-8)), σ)
set_option maxRecDepth 100000 in
set_option maxHeartbeats 4000000 in
theorem t_X6_feedInt_b43 {l : Launch} {γ : Gm} {ad : Nat → Nat} {K : Option Value → Hp → Prop} (hc : Cx l γ 1 3 ad shC RX6 cX6_feedInt none K) {x0 : Nat} {x1 : Int32} {x2 : Int32}  {σ : Hp} {KL : ((Int32) ⊕ (Unit)) → Hp → Prop} (h : wpO (f_X6_feedInt_b43 x0 x1 x2 σ) KL) (kn : ∀ (v : (Int32)) (σ : Hp), KL (Sum.inl v) σ → WW l γ 1 3 ad shC 3 [(0, .ref (ad x0)), (1, .int x1), (2, .int v)] [] σ) (kx49 : ∀ (v : Unit) (σ : Hp), KL (Sum.inr v) σ → WW l γ 1 3 ad shC 49 [] [] σ) : WW l γ 1 3 ad shC 43 [(0, .ref (ad x0)), (1, .int x1), (2, .int x2)] [] σ := by
  unfold f_X6_feedInt_b43 at h
  refine r_iincE hc (j := 2) (w := (-8)) (lv' := [(2, .int (x2 + (-8))), (0, .ref (ad x0)), (1, .int x1)]) rfl (by decide) rfl (by decide) rfl dX6_feedInt_43 ?_
  refine r_goto hc (tgt := 3) dX6_feedInt_46 (by decide) ?_
  refine r_sub [1, 2, 0] (lv' := [(0, .ref (ad x0)), (1, .int x1), (2, .int (x2 + (-8)))]) rfl ?_
  have h := wp_v h
  exact kn (x2 + (-8)) _ h
noncomputable def f_X6_feedInt_L3 (x0 : Nat) (x1 : Int32) (v : (Int32)) (σ : Hp) : Option (((Int32) ⊕ (Unit)) × Hp) := if v < 0 then (some (Sum.inr (), σ)) else (gO (getI shC 6 x0 4 σ) fun v1 => if 160 ≤ v1 then (f_X6_feedInt_b43 x0 x1 v σ) else (gO (getR shC 6 x0 3 σ) fun v2 => gO (getI shC 6 x0 4 σ) fun v3 => gO (astI shC 0 v2 v3 ((ushr' x1 v) &&& 255) σ) fun σ4 => gO (getI shC 6 x0 4 σ4) fun v5 => gO (putI shC 6 x0 4 (v5 + 1) σ4) fun σ6 => f_X6_feedInt_b43 x0 x1 v σ6))
set_option maxRecDepth 100000 in
set_option maxHeartbeats 4000000 in
theorem t_X6_feedInt_L3 {l : Launch} {γ : Gm} {ad : Nat → Nat} {K : Option Value → Hp → Prop}  (hc : Cx l γ 1 3 ad shC RX6 cX6_feedInt none K) {x0 : Nat} {x1 : Int32} {v : (Int32)} {σ : Hp} {KX : (Unit) → Hp → Prop} (h : wpO (wh (f_X6_feedInt_L3 x0 x1) v σ) KX) (kx49 : ∀ (v : Unit) (σ : Hp), KX v σ → WW l γ 1 3 ad shC 49 [] [] σ) : WW l γ 1 3 ad shC 3 [(0, .ref (ad x0)), (1, .int x1), (2, .int v)] [] σ := by
  refine wh_W (P := fun v σ => WW l γ 1 3 ad shC 3 [(0, .ref (ad x0)), (1, .int x1), (2, .int v)] [] σ) (fun v σ h => ?_) h
  have kn : ∀ (v : (Int32)) (σ : Hp), WW l γ 1 3 ad shC 3 [(0, .ref (ad x0)), (1, .int x1), (2, .int v)] [] σ → WW l γ 1 3 ad shC 3 [(0, .ref (ad x0)), (1, .int x1), (2, .int v)] [] σ := fun _ _ h => h
  · unfold f_X6_feedInt_L3 at h
    refine r_iload_n hc 2 rfl rfl dX6_feedInt_3 ?_
    refine r_if_lt hc (tgt := 49) dX6_feedInt_4 (by decide) (fun c => ?_) (fun c => ?_)
    · have h := wp_t c h
      refine r_sub [] (lv' := []) rfl ?_
      have h := wp_v h
      exact kx49 () _ h
    · have h := wp_f c h
      refine r_aload_n hc 0 rfl rfl dX6_feedInt_7 ?_
      obtain ⟨v1, ev1, h⟩ := wp_g h
      refine r_getI hc ev1 fl_X6_68 rfl dX6_feedInt_8 ?_
      refine r_sipush hc (v := 160) (by decide) dX6_feedInt_11 ?_
      refine r_icmp_ge hc (tgt := 43) dX6_feedInt_14 (by decide) (fun c => ?_) (fun c => ?_)
      · have h := wp_t c h
        exact t_X6_feedInt_b43 hc h kn kx49
      · have h := wp_f c h
        refine r_aload_n hc 0 rfl rfl dX6_feedInt_17 ?_
        obtain ⟨v2, ev2, h⟩ := wp_g h
        refine r_getR hc ev2 fl_X6_20 rfl dX6_feedInt_18 ?_
        refine r_aload_n hc 0 rfl rfl dX6_feedInt_21 ?_
        obtain ⟨v3, ev3, h⟩ := wp_g h
        refine r_getI hc ev3 fl_X6_68 rfl dX6_feedInt_22 ?_
        refine r_iload_n hc 1 rfl rfl dX6_feedInt_25 ?_
        refine r_iload_n hc 2 rfl rfl dX6_feedInt_26 ?_
        refine r_iushr hc dX6_feedInt_27 ?_
        refine r_sipush hc (v := 255) (by decide) dX6_feedInt_28 ?_
        refine r_iand hc dX6_feedInt_31 ?_
        obtain ⟨σ4, eσ4, h⟩ := wp_g h
        refine r_iast hc eσ4 dX6_feedInt_32 ?_
        refine r_aload_n hc 0 rfl rfl dX6_feedInt_33 ?_
        refine r_dup hc rfl dX6_feedInt_34 ?_
        obtain ⟨v5, ev5, h⟩ := wp_g h
        refine r_getI hc ev5 fl_X6_68 rfl dX6_feedInt_35 ?_
        refine r_iconst hc (v := 1) (by decide) dX6_feedInt_38 ?_
        refine r_iadd hc dX6_feedInt_39 ?_
        obtain ⟨σ6, eσ6, h⟩ := wp_g h
        refine r_putI hc eσ6 fp_X6_68 rfl dX6_feedInt_40 ?_
        exact t_X6_feedInt_b43 hc h kn kx49
noncomputable def f_X6_feedInt (x0 : Nat) (x1 : Int32) (σ : Hp) : Option (Unit × Hp) := bO (wh (f_X6_feedInt_L3 x0 x1) 24 σ) fun y1 σ2 => (some ((), σ2))
set_option maxRecDepth 100000 in
set_option maxHeartbeats 4000000 in
theorem t_X6_feedInt {l : Launch} {γ : Gm} {ad : Nat → Nat} {K : Option Value → Hp → Prop} (hc : Cx l γ 1 3 ad shC RX6 cX6_feedInt none K) {x0 : Nat} {x1 : Int32} {σ : Hp} (h : wpO (f_X6_feedInt x0 x1 σ) (KU K)) : WW l γ 1 3 ad shC 0 [(0, .ref (ad x0)), (1, .int x1)] [] σ := by
  unfold f_X6_feedInt at h
  refine r_bipush hc (v := 24) (by decide) dX6_feedInt_0 ?_
  refine r_istore_nE hc (i := 2) (lv' := [(2, .int 24), (0, .ref (ad x0)), (1, .int x1)]) rfl rfl (by decide) rfl dX6_feedInt_2 ?_
  refine r_sub [1, 2, 0] (lv' := [(0, .ref (ad x0)), (1, .int x1), (2, .int 24)]) rfl ?_
  refine t_X6_feedInt_L3 hc (wp_bb h) ?_
  · intro y1 σ2 h
    have h := wp_v h
    exact r_vret hc h dX6_feedInt_49
theorem c_X6_feedInt {l : Launch} {x0 : Nat} {x1 : Int32} {σ σ' : Hp} {r : Unit} (h : f_X6_feedInt x0 x1 σ = some (r, σ')) : Mt l yX6_feedInt cX6_feedInt 3 none 1 shC (fun ad => [.ref (ad x0), .int x1]) σ (fun ad => none) σ' := mt_i (own := RX6) (by decide) rfl (fun _ => Nat.le_of_ble_eq_true rfl) (fun γ ad K hc hk => t_X6_feedInt hc ⟨_, _, h, hk⟩)

-- NetMaps.feed(IIIII)I
theorem dX6_feed_0 : decode cX6_feed 0 = .ok (.aload_n 0, 1) := by decide +kernel
theorem dX6_feed_1 : decode cX6_feed 1 = .ok (.getfield 68, 3) := by decide +kernel
theorem dX6_feed_4 : decode cX6_feed 4 = .ok (.sipush 140, 3) := by decide +kernel
theorem dX6_feed_7 : decode cX6_feed 7 = .ok (.if_icmp .le 5, 3) := by decide +kernel
theorem dX6_feed_10 : decode cX6_feed 10 = .ok (.iconst (-1), 1) := by decide +kernel
theorem dX6_feed_11 : decode cX6_feed 11 = .ok (.ireturn, 1) := by decide +kernel
theorem dX6_feed_12 : decode cX6_feed 12 = .ok (.aload_n 0, 1) := by decide +kernel
theorem dX6_feed_13 : decode cX6_feed 13 = .ok (.iload_n 1, 1) := by decide +kernel
theorem dX6_feed_14 : decode cX6_feed 14 = .ok (.invokevirtual 72, 3) := by decide +kernel
theorem dX6_feed_17 : decode cX6_feed 17 = .ok (.aload_n 0, 1) := by decide +kernel
theorem dX6_feed_18 : decode cX6_feed 18 = .ok (.iload_n 2, 1) := by decide +kernel
theorem dX6_feed_19 : decode cX6_feed 19 = .ok (.invokevirtual 72, 3) := by decide +kernel
theorem dX6_feed_22 : decode cX6_feed 22 = .ok (.aload_n 0, 1) := by decide +kernel
theorem dX6_feed_23 : decode cX6_feed 23 = .ok (.iload_n 3, 1) := by decide +kernel
theorem dX6_feed_24 : decode cX6_feed 24 = .ok (.invokevirtual 72, 3) := by decide +kernel
theorem dX6_feed_27 : decode cX6_feed 27 = .ok (.aload_n 0, 1) := by decide +kernel
theorem dX6_feed_28 : decode cX6_feed 28 = .ok (.iload 4, 2) := by decide +kernel
theorem dX6_feed_30 : decode cX6_feed 30 = .ok (.invokevirtual 72, 3) := by decide +kernel
theorem dX6_feed_33 : decode cX6_feed 33 = .ok (.aload_n 0, 1) := by decide +kernel
theorem dX6_feed_34 : decode cX6_feed 34 = .ok (.iload 5, 2) := by decide +kernel
theorem dX6_feed_36 : decode cX6_feed 36 = .ok (.invokevirtual 72, 3) := by decide +kernel
theorem dX6_feed_39 : decode cX6_feed 39 = .ok (.aload_n 0, 1) := by decide +kernel
theorem dX6_feed_40 : decode cX6_feed 40 = .ok (.getfield 68, 3) := by decide +kernel
theorem dX6_feed_43 : decode cX6_feed 43 = .ok (.ireturn, 1) := by decide +kernel
noncomputable def f_X6_feed (x0 : Nat) (x1 : Int32) (x2 : Int32) (x3 : Int32) (x4 : Int32) (x5 : Int32) (σ : Hp) : Option (Int32 × Hp) := gO (getI shC 6 x0 4 σ) fun v1 => if v1 ≤ 140 then (gO (chk shC x0 6) fun _ => bO (f_X6_feedInt x0 x1 σ) fun _ σ3 => gO (chk shC x0 6) fun _ => bO (f_X6_feedInt x0 x2 σ3) fun _ σ6 => gO (chk shC x0 6) fun _ => bO (f_X6_feedInt x0 x3 σ6) fun _ σ9 => gO (chk shC x0 6) fun _ => bO (f_X6_feedInt x0 x4 σ9) fun _ σ12 => gO (chk shC x0 6) fun _ => bO (f_X6_feedInt x0 x5 σ12) fun _ σ15 => gO (getI shC 6 x0 4 σ15) fun v17 => some (v17, σ15)) else (some ((-1), σ))
set_option maxRecDepth 100000 in
set_option maxHeartbeats 4000000 in
theorem t_X6_feed {l : Launch} {γ : Gm} {ad : Nat → Nat} {K : Option Value → Hp → Prop} (hc : Cx l γ 2 6 ad shC RX6 cX6_feed (some .int) K) {x0 : Nat} {x1 : Int32} {x2 : Int32} {x3 : Int32} {x4 : Int32} {x5 : Int32} {σ : Hp} (h : wpO (f_X6_feed x0 x1 x2 x3 x4 x5 σ) (KI K)) : WW l γ 2 6 ad shC 0 [(0, .ref (ad x0)), (1, .int x1), (2, .int x2), (3, .int x3), (4, .int x4), (5, .int x5)] [] σ := by
  unfold f_X6_feed at h
  refine r_aload_n hc 0 rfl rfl dX6_feed_0 ?_
  obtain ⟨v1, ev1, h⟩ := wp_g h
  refine r_getI hc ev1 fl_X6_68 rfl dX6_feed_1 ?_
  refine r_sipush hc (v := 140) (by decide) dX6_feed_4 ?_
  refine r_icmp_le hc (tgt := 12) dX6_feed_7 (by decide) (fun c => ?_) (fun c => ?_)
  · have h := wp_t c h
    refine r_aload_n hc 0 rfl rfl dX6_feed_12 ?_
    refine r_iload_n hc 1 rfl rfl dX6_feed_13 ?_
    obtain ⟨_, ek4, h⟩ := wp_g h
    obtain ⟨_, σ3, er2, h⟩ := wp_b h
    refine r_callV hc (k0 := x0) mv_X6_feedInt ml_X6_72 (c_X6_feedInt er2) (chk_of ek4) cls_6.1 rfl rfl rfl (by decide) rfl (Nat.le_of_ble_eq_true rfl) dX6_feed_14 ?_
    refine r_aload_n hc 0 rfl rfl dX6_feed_17 ?_
    refine r_iload_n hc 2 rfl rfl dX6_feed_18 ?_
    obtain ⟨_, ek7, h⟩ := wp_g h
    obtain ⟨_, σ6, er5, h⟩ := wp_b h
    refine r_callV hc (k0 := x0) mv_X6_feedInt ml_X6_72 (c_X6_feedInt er5) (chk_of ek7) cls_6.1 rfl rfl rfl (by decide) rfl (Nat.le_of_ble_eq_true rfl) dX6_feed_19 ?_
    refine r_aload_n hc 0 rfl rfl dX6_feed_22 ?_
    refine r_iload_n hc 3 rfl rfl dX6_feed_23 ?_
    obtain ⟨_, ek10, h⟩ := wp_g h
    obtain ⟨_, σ9, er8, h⟩ := wp_b h
    refine r_callV hc (k0 := x0) mv_X6_feedInt ml_X6_72 (c_X6_feedInt er8) (chk_of ek10) cls_6.1 rfl rfl rfl (by decide) rfl (Nat.le_of_ble_eq_true rfl) dX6_feed_24 ?_
    refine r_aload_n hc 0 rfl rfl dX6_feed_27 ?_
    refine r_iload hc 4 rfl dX6_feed_28 ?_
    obtain ⟨_, ek13, h⟩ := wp_g h
    obtain ⟨_, σ12, er11, h⟩ := wp_b h
    refine r_callV hc (k0 := x0) mv_X6_feedInt ml_X6_72 (c_X6_feedInt er11) (chk_of ek13) cls_6.1 rfl rfl rfl (by decide) rfl (Nat.le_of_ble_eq_true rfl) dX6_feed_30 ?_
    refine r_aload_n hc 0 rfl rfl dX6_feed_33 ?_
    refine r_iload hc 5 rfl dX6_feed_34 ?_
    obtain ⟨_, ek16, h⟩ := wp_g h
    obtain ⟨_, σ15, er14, h⟩ := wp_b h
    refine r_callV hc (k0 := x0) mv_X6_feedInt ml_X6_72 (c_X6_feedInt er14) (chk_of ek16) cls_6.1 rfl rfl rfl (by decide) rfl (Nat.le_of_ble_eq_true rfl) dX6_feed_36 ?_
    refine r_aload_n hc 0 rfl rfl dX6_feed_39 ?_
    obtain ⟨v17, ev17, h⟩ := wp_g h
    refine r_getI hc ev17 fl_X6_68 rfl dX6_feed_40 ?_
    have h := wp_v h
    exact r_iret hc h dX6_feed_43
  · have h := wp_f c h
    refine r_iconst hc (v := (-1)) (by decide) dX6_feed_10 ?_
    have h := wp_v h
    exact r_iret hc h dX6_feed_11
theorem c_X6_feed {l : Launch} {x0 : Nat} {x1 : Int32} {x2 : Int32} {x3 : Int32} {x4 : Int32} {x5 : Int32} {σ σ' : Hp} {r : Int32} (h : f_X6_feed x0 x1 x2 x3 x4 x5 σ = some (r, σ')) : Mt l yX6_feed cX6_feed 6 (some .int) 2 shC (fun ad => [.ref (ad x0), .int x1, .int x2, .int x3, .int x4, .int x5]) σ (fun ad => some (.int r)) σ' := mt_i (own := RX6) (by decide) rfl (fun _ => Nat.le_of_ble_eq_true rfl) (fun γ ad K hc hk => t_X6_feed hc ⟨_, _, h, hk⟩)

-- NetMaps.in(I)LNetMaps$Net;
theorem dX6_in_0 : decode cX6_in 0 = .ok (.aload_n 0, 1) := by decide +kernel
theorem dX6_in_1 : decode cX6_in 1 = .ok (.getfield 10, 3) := by decide +kernel
theorem dX6_in_4 : decode cX6_in 4 = .ok (.getfield 376, 3) := by decide +kernel
theorem dX6_in_7 : decode cX6_in 7 = .ok (.iload_n 1, 1) := by decide +kernel
theorem dX6_in_8 : decode cX6_in 8 = .ok (.aaload, 1) := by decide +kernel
theorem dX6_in_9 : decode cX6_in 9 = .ok (.areturn, 1) := by decide +kernel
noncomputable def f_X6_in (x0 : Nat) (x1 : Int32) (σ : Hp) : Option (Nat × Hp) := gO (getR shC 6 x0 0 σ) fun v1 => gO (getR shC 5 v1 0 σ) fun v2 => gO (aldR shC 3 v2 x1 σ) fun v3 => some (v3, σ)
set_option maxRecDepth 100000 in
set_option maxHeartbeats 4000000 in
theorem t_X6_in {l : Launch} {γ : Gm} {ad : Nat → Nat} {K : Option Value → Hp → Prop} (hc : Cx l γ 1 2 ad shC RX6 cX6_in (some (.object "NetMaps$Net")) K) {x0 : Nat} {x1 : Int32} {σ : Hp} (h : wpO (f_X6_in x0 x1 σ) (KA ad K)) : WW l γ 1 2 ad shC 0 [(0, .ref (ad x0)), (1, .int x1)] [] σ := by
  unfold f_X6_in at h
  refine r_aload_n hc 0 rfl rfl dX6_in_0 ?_
  obtain ⟨v1, ev1, h⟩ := wp_g h
  refine r_getR hc ev1 fl_X6_10 rfl dX6_in_1 ?_
  obtain ⟨v2, ev2, h⟩ := wp_g h
  refine r_getR hc ev2 fl_X6_376 rfl dX6_in_4 ?_
  refine r_iload_n hc 1 rfl rfl dX6_in_7 ?_
  obtain ⟨v3, ev3, h⟩ := wp_g h
  refine r_aald3 hc ev3 dX6_in_8 ?_
  have h := wp_v h
  exact r_aret hc h dX6_in_9
theorem c_X6_in {l : Launch} {x0 : Nat} {x1 : Int32} {σ σ' : Hp} {r : Nat} (h : f_X6_in x0 x1 σ = some (r, σ')) : Mt l yX6_in cX6_in 2 (some (.object "NetMaps$Net")) 1 shC (fun ad => [.ref (ad x0), .int x1]) σ (fun ad => some (.ref (ad r))) σ' := mt_i (own := RX6) (by decide) rfl (fun _ => Nat.le_of_ble_eq_true rfl) (fun γ ad K hc hk => t_X6_in hc ⟨_, _, h, hk⟩)

-- NetMaps.noDrawer(I)Z
theorem dX6_noDrawer_0 : decode cX6_noDrawer 0 = .ok (.iload_n 0, 1) := by decide +kernel
theorem dX6_noDrawer_1 : decode cX6_noDrawer 1 = .ok (.ifCond .lt 9, 3) := by decide +kernel
theorem dX6_noDrawer_4 : decode cX6_noDrawer 4 = .ok (.iload_n 0, 1) := by decide +kernel
theorem dX6_noDrawer_5 : decode cX6_noDrawer 5 = .ok (.bipush 6, 2) := by decide +kernel
theorem dX6_noDrawer_7 : decode cX6_noDrawer 7 = .ok (.if_icmp .lt 7, 3) := by decide +kernel
theorem dX6_noDrawer_10 : decode cX6_noDrawer 10 = .ok (.iconst 1, 1) := by decide +kernel
theorem dX6_noDrawer_11 : decode cX6_noDrawer 11 = .ok (.goto 4, 3) := by decide +kernel
theorem dX6_noDrawer_14 : decode cX6_noDrawer 14 = .ok (.iconst 0, 1) := by decide +kernel
theorem dX6_noDrawer_15 : decode cX6_noDrawer 15 = .ok (.ireturn, 1) := by decide +kernel
noncomputable def f_X6_noDrawer_b15 (s0 : Int32) (σ : Hp) : Option (Int32 × Hp) := gO (zz s0) fun _ => some (s0, σ)
set_option maxRecDepth 100000 in
set_option maxHeartbeats 4000000 in
theorem t_X6_noDrawer_b15 {l : Launch} {γ : Gm} {ad : Nat → Nat} {K : Option Value → Hp → Prop} (hc : Cx l γ 1 1 ad shC RX6 cX6_noDrawer (some .boolean) K) {s0 : Int32} {σ : Hp} (h : wpO (f_X6_noDrawer_b15 s0 σ) (KI K)) : WW l γ 1 1 ad shC 15 [] [.int s0] σ := by
  unfold f_X6_noDrawer_b15 at h
  obtain ⟨_, ek1, h⟩ := wp_g h
  have h := wp_v h
  exact r_zret hc h (zz_of ek1) dX6_noDrawer_15
noncomputable def f_X6_noDrawer_b10  (σ : Hp) : Option (Int32 × Hp) := f_X6_noDrawer_b15 1 σ
set_option maxRecDepth 100000 in
set_option maxHeartbeats 4000000 in
theorem t_X6_noDrawer_b10 {l : Launch} {γ : Gm} {ad : Nat → Nat} {K : Option Value → Hp → Prop} (hc : Cx l γ 1 1 ad shC RX6 cX6_noDrawer (some .boolean) K)  {σ : Hp} (h : wpO (f_X6_noDrawer_b10  σ) (KI K)) : WW l γ 1 1 ad shC 10 [] [] σ := by
  unfold f_X6_noDrawer_b10 at h
  refine r_iconst hc (v := 1) (by decide) dX6_noDrawer_10 ?_
  refine r_goto hc (tgt := 15) dX6_noDrawer_11 (by decide) ?_
  exact t_X6_noDrawer_b15 hc h
noncomputable def f_X6_noDrawer (x0 : Int32) (σ : Hp) : Option (Int32 × Hp) := if x0 < 0 then (f_X6_noDrawer_b10  σ) else (if x0 < 6 then (f_X6_noDrawer_b15 0 σ) else (f_X6_noDrawer_b10  σ))
set_option maxRecDepth 100000 in
set_option maxHeartbeats 4000000 in
theorem t_X6_noDrawer {l : Launch} {γ : Gm} {ad : Nat → Nat} {K : Option Value → Hp → Prop} (hc : Cx l γ 1 1 ad shC RX6 cX6_noDrawer (some .boolean) K) {x0 : Int32} {σ : Hp} (h : wpO (f_X6_noDrawer x0 σ) (KI K)) : WW l γ 1 1 ad shC 0 [(0, .int x0)] [] σ := by
  unfold f_X6_noDrawer at h
  refine r_iload_n hc 0 rfl rfl dX6_noDrawer_0 ?_
  refine r_if_lt hc (tgt := 10) dX6_noDrawer_1 (by decide) (fun c => ?_) (fun c => ?_)
  · have h := wp_t c h
    refine r_sub [] (lv' := []) rfl ?_
    exact t_X6_noDrawer_b10 hc h
  · have h := wp_f c h
    refine r_iload_n hc 0 rfl rfl dX6_noDrawer_4 ?_
    refine r_bipush hc (v := 6) (by decide) dX6_noDrawer_5 ?_
    refine r_icmp_lt hc (tgt := 14) dX6_noDrawer_7 (by decide) (fun c => ?_) (fun c => ?_)
    · have h := wp_t c h
      refine r_iconst hc (v := 0) (by decide) dX6_noDrawer_14 ?_
      refine r_sub [] (lv' := []) rfl ?_
      exact t_X6_noDrawer_b15 hc h
    · have h := wp_f c h
      refine r_sub [] (lv' := []) rfl ?_
      exact t_X6_noDrawer_b10 hc h
theorem c_X6_noDrawer {l : Launch} {x0 : Int32} {σ σ' : Hp} {r : Int32} (h : f_X6_noDrawer x0 σ = some (r, σ')) : Mt l yX6_noDrawer cX6_noDrawer 1 (some .boolean) 1 shC (fun ad => [.int x0]) σ (fun ad => some (.int r)) σ' := mt_i (own := RX6) (by decide) rfl (fun _ => Nat.le_of_ble_eq_true rfl) (fun γ ad K hc hk => t_X6_noDrawer hc ⟨_, _, h, hk⟩)

-- NetMaps$Net.like(LNetMaps$Net;)V
theorem dX1_like_0 : decode cX1_like 0 = .ok (.aload_n 0, 1) := by decide +kernel
theorem dX1_like_1 : decode cX1_like 1 = .ok (.aload_n 1, 1) := by decide +kernel
theorem dX1_like_2 : decode cX1_like 2 = .ok (.getfield 18, 3) := by decide +kernel
theorem dX1_like_5 : decode cX1_like 5 = .ok (.putfield 18, 3) := by decide +kernel
theorem dX1_like_8 : decode cX1_like 8 = .ok (.iconst 0, 1) := by decide +kernel
theorem dX1_like_9 : decode cX1_like 9 = .ok (.istore_n 2, 1) := by decide +kernel
theorem dX1_like_10 : decode cX1_like 10 = .ok (.iload_n 2, 1) := by decide +kernel
theorem dX1_like_11 : decode cX1_like 11 = .ok (.bipush 27, 2) := by decide +kernel
theorem dX1_like_13 : decode cX1_like 13 = .ok (.if_icmp .ge 33, 3) := by decide +kernel
theorem dX1_like_16 : decode cX1_like 16 = .ok (.aload_n 0, 1) := by decide +kernel
theorem dX1_like_17 : decode cX1_like 17 = .ok (.getfield 9, 3) := by decide +kernel
theorem dX1_like_20 : decode cX1_like 20 = .ok (.iload_n 2, 1) := by decide +kernel
theorem dX1_like_21 : decode cX1_like 21 = .ok (.aload_n 1, 1) := by decide +kernel
theorem dX1_like_22 : decode cX1_like 22 = .ok (.getfield 9, 3) := by decide +kernel
theorem dX1_like_25 : decode cX1_like 25 = .ok (.iload_n 2, 1) := by decide +kernel
theorem dX1_like_26 : decode cX1_like 26 = .ok (.iaload, 1) := by decide +kernel
theorem dX1_like_27 : decode cX1_like 27 = .ok (.iastore, 1) := by decide +kernel
theorem dX1_like_28 : decode cX1_like 28 = .ok (.aload_n 0, 1) := by decide +kernel
theorem dX1_like_29 : decode cX1_like 29 = .ok (.getfield 15, 3) := by decide +kernel
theorem dX1_like_32 : decode cX1_like 32 = .ok (.iload_n 2, 1) := by decide +kernel
theorem dX1_like_33 : decode cX1_like 33 = .ok (.aload_n 1, 1) := by decide +kernel
theorem dX1_like_34 : decode cX1_like 34 = .ok (.getfield 15, 3) := by decide +kernel
theorem dX1_like_37 : decode cX1_like 37 = .ok (.iload_n 2, 1) := by decide +kernel
theorem dX1_like_38 : decode cX1_like 38 = .ok (.iaload, 1) := by decide +kernel
theorem dX1_like_39 : decode cX1_like 39 = .ok (.iastore, 1) := by decide +kernel
theorem dX1_like_40 : decode cX1_like 40 = .ok (.iinc 2 1, 3) := by decide +kernel
theorem dX1_like_43 : decode cX1_like 43 = .ok (.goto (-33), 3) := by decide +kernel
theorem dX1_like_46 : decode cX1_like 46 = .ok (.return_, 1) := by decide +kernel
noncomputable def f_X1_like_L10 (x0 : Nat) (x1 : Nat) (v : (Int32)) (σ : Hp) : Option (((Int32) ⊕ (Unit)) × Hp) := if 27 ≤ v then (some (Sum.inr (), σ)) else (gO (getR shC 1 x0 1 σ) fun v1 => gO (getR shC 1 x1 1 σ) fun v2 => gO (aldI shC 0 v2 v σ) fun v3 => gO (astI shC 0 v1 v v3 σ) fun σ4 => gO (getR shC 1 x0 2 σ4) fun v5 => gO (getR shC 1 x1 2 σ4) fun v6 => gO (aldI shC 0 v6 v σ4) fun v7 => gO (astI shC 0 v5 v v7 σ4) fun σ8 => some (Sum.inl (v + 1), σ8))
set_option maxRecDepth 100000 in
set_option maxHeartbeats 4000000 in
theorem t_X1_like_L10 {l : Launch} {γ : Gm} {ad : Nat → Nat} {K : Option Value → Hp → Prop}  (hc : Cx l γ 1 3 ad shC RX1 cX1_like none K) {x0 : Nat} {x1 : Nat} {v : (Int32)} {σ : Hp} {KX : (Unit) → Hp → Prop} (h : wpO (wh (f_X1_like_L10 x0 x1) v σ) KX) (kx46 : ∀ (v : Unit) (σ : Hp), KX v σ → WW l γ 1 3 ad shC 46 [] [] σ) : WW l γ 1 3 ad shC 10 [(0, .ref (ad x0)), (1, .ref (ad x1)), (2, .int v)] [] σ := by
  refine wh_W (P := fun v σ => WW l γ 1 3 ad shC 10 [(0, .ref (ad x0)), (1, .ref (ad x1)), (2, .int v)] [] σ) (fun v σ h => ?_) h
  have kn : ∀ (v : (Int32)) (σ : Hp), WW l γ 1 3 ad shC 10 [(0, .ref (ad x0)), (1, .ref (ad x1)), (2, .int v)] [] σ → WW l γ 1 3 ad shC 10 [(0, .ref (ad x0)), (1, .ref (ad x1)), (2, .int v)] [] σ := fun _ _ h => h
  · unfold f_X1_like_L10 at h
    refine r_iload_n hc 2 rfl rfl dX1_like_10 ?_
    refine r_bipush hc (v := 27) (by decide) dX1_like_11 ?_
    refine r_icmp_ge hc (tgt := 46) dX1_like_13 (by decide) (fun c => ?_) (fun c => ?_)
    · have h := wp_t c h
      refine r_sub [] (lv' := []) rfl ?_
      have h := wp_v h
      exact kx46 () _ h
    · have h := wp_f c h
      refine r_aload_n hc 0 rfl rfl dX1_like_16 ?_
      obtain ⟨v1, ev1, h⟩ := wp_g h
      refine r_getR hc ev1 fl_X1_9 rfl dX1_like_17 ?_
      refine r_iload_n hc 2 rfl rfl dX1_like_20 ?_
      refine r_aload_n hc 1 rfl rfl dX1_like_21 ?_
      obtain ⟨v2, ev2, h⟩ := wp_g h
      refine r_getR hc ev2 fl_X1_9 rfl dX1_like_22 ?_
      refine r_iload_n hc 2 rfl rfl dX1_like_25 ?_
      obtain ⟨v3, ev3, h⟩ := wp_g h
      refine r_iald hc ev3 dX1_like_26 ?_
      obtain ⟨σ4, eσ4, h⟩ := wp_g h
      refine r_iast hc eσ4 dX1_like_27 ?_
      refine r_aload_n hc 0 rfl rfl dX1_like_28 ?_
      obtain ⟨v5, ev5, h⟩ := wp_g h
      refine r_getR hc ev5 fl_X1_15 rfl dX1_like_29 ?_
      refine r_iload_n hc 2 rfl rfl dX1_like_32 ?_
      refine r_aload_n hc 1 rfl rfl dX1_like_33 ?_
      obtain ⟨v6, ev6, h⟩ := wp_g h
      refine r_getR hc ev6 fl_X1_15 rfl dX1_like_34 ?_
      refine r_iload_n hc 2 rfl rfl dX1_like_37 ?_
      obtain ⟨v7, ev7, h⟩ := wp_g h
      refine r_iald hc ev7 dX1_like_38 ?_
      obtain ⟨σ8, eσ8, h⟩ := wp_g h
      refine r_iast hc eσ8 dX1_like_39 ?_
      refine r_iincE hc (j := 2) (w := 1) (lv' := [(2, .int (v + 1)), (0, .ref (ad x0)), (1, .ref (ad x1))]) rfl (by decide) rfl (by decide) rfl dX1_like_40 ?_
      refine r_goto hc (tgt := 10) dX1_like_43 (by decide) ?_
      refine r_sub [1, 2, 0] (lv' := [(0, .ref (ad x0)), (1, .ref (ad x1)), (2, .int (v + 1))]) rfl ?_
      have h := wp_v h
      exact kn (v + 1) _ h
noncomputable def f_X1_like (x0 : Nat) (x1 : Nat) (σ : Hp) : Option (Unit × Hp) := gO (getI shC 1 x1 0 σ) fun v1 => gO (putI shC 1 x0 0 v1 σ) fun σ2 => bO (wh (f_X1_like_L10 x0 x1) 0 σ2) fun y3 σ4 => (some ((), σ4))
set_option maxRecDepth 100000 in
set_option maxHeartbeats 4000000 in
theorem t_X1_like {l : Launch} {γ : Gm} {ad : Nat → Nat} {K : Option Value → Hp → Prop} (hc : Cx l γ 1 3 ad shC RX1 cX1_like none K) {x0 : Nat} {x1 : Nat} {σ : Hp} (h : wpO (f_X1_like x0 x1 σ) (KU K)) : WW l γ 1 3 ad shC 0 [(0, .ref (ad x0)), (1, .ref (ad x1))] [] σ := by
  unfold f_X1_like at h
  refine r_aload_n hc 0 rfl rfl dX1_like_0 ?_
  refine r_aload_n hc 1 rfl rfl dX1_like_1 ?_
  obtain ⟨v1, ev1, h⟩ := wp_g h
  refine r_getI hc ev1 fl_X1_18 rfl dX1_like_2 ?_
  obtain ⟨σ2, eσ2, h⟩ := wp_g h
  refine r_putI hc eσ2 fp_X1_18 rfl dX1_like_5 ?_
  refine r_iconst hc (v := 0) (by decide) dX1_like_8 ?_
  refine r_istore_nE hc (i := 2) (lv' := [(2, .int 0), (0, .ref (ad x0)), (1, .ref (ad x1))]) rfl rfl (by decide) rfl dX1_like_9 ?_
  refine r_sub [1, 2, 0] (lv' := [(0, .ref (ad x0)), (1, .ref (ad x1)), (2, .int 0)]) rfl ?_
  refine t_X1_like_L10 hc (wp_bb h) ?_
  · intro y3 σ4 h
    have h := wp_v h
    exact r_vret hc h dX1_like_46
theorem c_X1_like {l : Launch} {x0 : Nat} {x1 : Nat} {σ σ' : Hp} {r : Unit} (h : f_X1_like x0 x1 σ = some (r, σ')) : Mt l yX1_like cX1_like 3 none 1 shC (fun ad => [.ref (ad x0), .ref (ad x1)]) σ (fun ad => none) σ' := mt_i (own := RX1) (by decide) rfl (fun _ => Nat.le_of_ble_eq_true rfl) (fun γ ad K hc hk => t_X1_like hc ⟨_, _, h, hk⟩)

-- java/lang/Integer.bitCount(I)I
theorem dJ6_bitCount_0f7a4_0 : decode cJ6_bitCount_0f7a4 0 = .ok (.iload_n 0, 1) := by decide +kernel
theorem dJ6_bitCount_0f7a4_1 : decode cJ6_bitCount_0f7a4 1 = .ok (.iload_n 0, 1) := by decide +kernel
theorem dJ6_bitCount_0f7a4_2 : decode cJ6_bitCount_0f7a4 2 = .ok (.iconst 1, 1) := by decide +kernel
theorem dJ6_bitCount_0f7a4_3 : decode cJ6_bitCount_0f7a4 3 = .ok (.iushr, 1) := by decide +kernel
theorem dJ6_bitCount_0f7a4_4 : decode cJ6_bitCount_0f7a4 4 = .ok (.ldc_w 265, 3) := by decide +kernel
theorem dJ6_bitCount_0f7a4_7 : decode cJ6_bitCount_0f7a4 7 = .ok (.iand, 1) := by decide +kernel
theorem dJ6_bitCount_0f7a4_8 : decode cJ6_bitCount_0f7a4 8 = .ok (.isub, 1) := by decide +kernel
theorem dJ6_bitCount_0f7a4_9 : decode cJ6_bitCount_0f7a4 9 = .ok (.istore_n 0, 1) := by decide +kernel
theorem dJ6_bitCount_0f7a4_10 : decode cJ6_bitCount_0f7a4 10 = .ok (.iload_n 0, 1) := by decide +kernel
theorem dJ6_bitCount_0f7a4_11 : decode cJ6_bitCount_0f7a4 11 = .ok (.ldc_w 266, 3) := by decide +kernel
theorem dJ6_bitCount_0f7a4_14 : decode cJ6_bitCount_0f7a4 14 = .ok (.iand, 1) := by decide +kernel
theorem dJ6_bitCount_0f7a4_15 : decode cJ6_bitCount_0f7a4 15 = .ok (.iload_n 0, 1) := by decide +kernel
theorem dJ6_bitCount_0f7a4_16 : decode cJ6_bitCount_0f7a4 16 = .ok (.iconst 2, 1) := by decide +kernel
theorem dJ6_bitCount_0f7a4_17 : decode cJ6_bitCount_0f7a4 17 = .ok (.iushr, 1) := by decide +kernel
theorem dJ6_bitCount_0f7a4_18 : decode cJ6_bitCount_0f7a4 18 = .ok (.ldc_w 266, 3) := by decide +kernel
theorem dJ6_bitCount_0f7a4_21 : decode cJ6_bitCount_0f7a4 21 = .ok (.iand, 1) := by decide +kernel
theorem dJ6_bitCount_0f7a4_22 : decode cJ6_bitCount_0f7a4 22 = .ok (.iadd, 1) := by decide +kernel
theorem dJ6_bitCount_0f7a4_23 : decode cJ6_bitCount_0f7a4 23 = .ok (.istore_n 0, 1) := by decide +kernel
theorem dJ6_bitCount_0f7a4_24 : decode cJ6_bitCount_0f7a4 24 = .ok (.iload_n 0, 1) := by decide +kernel
theorem dJ6_bitCount_0f7a4_25 : decode cJ6_bitCount_0f7a4 25 = .ok (.iload_n 0, 1) := by decide +kernel
theorem dJ6_bitCount_0f7a4_26 : decode cJ6_bitCount_0f7a4 26 = .ok (.iconst 4, 1) := by decide +kernel
theorem dJ6_bitCount_0f7a4_27 : decode cJ6_bitCount_0f7a4 27 = .ok (.iushr, 1) := by decide +kernel
theorem dJ6_bitCount_0f7a4_28 : decode cJ6_bitCount_0f7a4 28 = .ok (.iadd, 1) := by decide +kernel
theorem dJ6_bitCount_0f7a4_29 : decode cJ6_bitCount_0f7a4 29 = .ok (.ldc_w 267, 3) := by decide +kernel
theorem dJ6_bitCount_0f7a4_32 : decode cJ6_bitCount_0f7a4 32 = .ok (.iand, 1) := by decide +kernel
theorem dJ6_bitCount_0f7a4_33 : decode cJ6_bitCount_0f7a4 33 = .ok (.istore_n 0, 1) := by decide +kernel
theorem dJ6_bitCount_0f7a4_34 : decode cJ6_bitCount_0f7a4 34 = .ok (.iload_n 0, 1) := by decide +kernel
theorem dJ6_bitCount_0f7a4_35 : decode cJ6_bitCount_0f7a4 35 = .ok (.iload_n 0, 1) := by decide +kernel
theorem dJ6_bitCount_0f7a4_36 : decode cJ6_bitCount_0f7a4 36 = .ok (.bipush 8, 2) := by decide +kernel
theorem dJ6_bitCount_0f7a4_38 : decode cJ6_bitCount_0f7a4 38 = .ok (.iushr, 1) := by decide +kernel
theorem dJ6_bitCount_0f7a4_39 : decode cJ6_bitCount_0f7a4 39 = .ok (.iadd, 1) := by decide +kernel
theorem dJ6_bitCount_0f7a4_40 : decode cJ6_bitCount_0f7a4 40 = .ok (.istore_n 0, 1) := by decide +kernel
theorem dJ6_bitCount_0f7a4_41 : decode cJ6_bitCount_0f7a4 41 = .ok (.iload_n 0, 1) := by decide +kernel
theorem dJ6_bitCount_0f7a4_42 : decode cJ6_bitCount_0f7a4 42 = .ok (.iload_n 0, 1) := by decide +kernel
theorem dJ6_bitCount_0f7a4_43 : decode cJ6_bitCount_0f7a4 43 = .ok (.bipush 16, 2) := by decide +kernel
theorem dJ6_bitCount_0f7a4_45 : decode cJ6_bitCount_0f7a4 45 = .ok (.iushr, 1) := by decide +kernel
theorem dJ6_bitCount_0f7a4_46 : decode cJ6_bitCount_0f7a4 46 = .ok (.iadd, 1) := by decide +kernel
theorem dJ6_bitCount_0f7a4_47 : decode cJ6_bitCount_0f7a4 47 = .ok (.istore_n 0, 1) := by decide +kernel
theorem dJ6_bitCount_0f7a4_48 : decode cJ6_bitCount_0f7a4 48 = .ok (.iload_n 0, 1) := by decide +kernel
theorem dJ6_bitCount_0f7a4_49 : decode cJ6_bitCount_0f7a4 49 = .ok (.bipush 63, 2) := by decide +kernel
theorem dJ6_bitCount_0f7a4_51 : decode cJ6_bitCount_0f7a4 51 = .ok (.iand, 1) := by decide +kernel
theorem dJ6_bitCount_0f7a4_52 : decode cJ6_bitCount_0f7a4 52 = .ok (.ireturn, 1) := by decide +kernel
noncomputable def f_J6_bitCount_0f7a4 (sh : List Shp) (x0 : Int32) (σ : Hp) : Option (Int32 × Hp) := lt' ((x0 - ((ushr' x0 1) &&& 1431655765))) fun t1 => lt' (((t1 &&& 858993459) + ((ushr' t1 2) &&& 858993459))) fun t2 => lt' (((t2 + (ushr' t2 4)) &&& 252645135)) fun t3 => lt' (((t3 + (ushr' t3 8)) + (ushr' (t3 + (ushr' t3 8)) 16))) fun t4 => some ((t4 &&& 63), σ)
set_option maxRecDepth 100000 in
set_option maxHeartbeats 4000000 in
theorem t_J6_bitCount_0f7a4 {l : Launch} {γ : Gm} {ad : Nat → Nat} {sh : List Shp} {K : Option Value → Hp → Prop} (hc : Cx l γ 1 1 ad sh RJ6 cJ6_bitCount_0f7a4 (some .int) K) {x0 : Int32} {σ : Hp} (h : wpO (f_J6_bitCount_0f7a4 sh x0 σ) (KI K)) : WW l γ 1 1 ad sh 0 [(0, .int x0)] [] σ := by
  unfold f_J6_bitCount_0f7a4 at h
  refine r_iload_n hc 0 rfl rfl dJ6_bitCount_0f7a4_0 ?_
  refine r_iload_n hc 0 rfl rfl dJ6_bitCount_0f7a4_1 ?_
  refine r_iconst hc (v := 1) (by decide) dJ6_bitCount_0f7a4_2 ?_
  refine r_iushr hc dJ6_bitCount_0f7a4_3 ?_
  refine r_ldcw hc kc_J6_265 dJ6_bitCount_0f7a4_4 ?_
  refine r_iand hc dJ6_bitCount_0f7a4_7 ?_
  refine r_isub hc dJ6_bitCount_0f7a4_8 ?_
  obtain ⟨t1, et1, h⟩ := wp_l h
  refine r_istore_nE hc (i := 0) (lv' := [(0, .int t1)]) et1 rfl (by decide) rfl dJ6_bitCount_0f7a4_9 ?_
  refine r_iload_n hc 0 rfl rfl dJ6_bitCount_0f7a4_10 ?_
  refine r_ldcw hc kc_J6_266 dJ6_bitCount_0f7a4_11 ?_
  refine r_iand hc dJ6_bitCount_0f7a4_14 ?_
  refine r_iload_n hc 0 rfl rfl dJ6_bitCount_0f7a4_15 ?_
  refine r_iconst hc (v := 2) (by decide) dJ6_bitCount_0f7a4_16 ?_
  refine r_iushr hc dJ6_bitCount_0f7a4_17 ?_
  refine r_ldcw hc kc_J6_266 dJ6_bitCount_0f7a4_18 ?_
  refine r_iand hc dJ6_bitCount_0f7a4_21 ?_
  refine r_iadd hc dJ6_bitCount_0f7a4_22 ?_
  obtain ⟨t2, et2, h⟩ := wp_l h
  refine r_istore_nE hc (i := 0) (lv' := [(0, .int t2)]) et2 rfl (by decide) rfl dJ6_bitCount_0f7a4_23 ?_
  refine r_iload_n hc 0 rfl rfl dJ6_bitCount_0f7a4_24 ?_
  refine r_iload_n hc 0 rfl rfl dJ6_bitCount_0f7a4_25 ?_
  refine r_iconst hc (v := 4) (by decide) dJ6_bitCount_0f7a4_26 ?_
  refine r_iushr hc dJ6_bitCount_0f7a4_27 ?_
  refine r_iadd hc dJ6_bitCount_0f7a4_28 ?_
  refine r_ldcw hc kc_J6_267 dJ6_bitCount_0f7a4_29 ?_
  refine r_iand hc dJ6_bitCount_0f7a4_32 ?_
  obtain ⟨t3, et3, h⟩ := wp_l h
  refine r_istore_nE hc (i := 0) (lv' := [(0, .int t3)]) et3 rfl (by decide) rfl dJ6_bitCount_0f7a4_33 ?_
  refine r_iload_n hc 0 rfl rfl dJ6_bitCount_0f7a4_34 ?_
  refine r_iload_n hc 0 rfl rfl dJ6_bitCount_0f7a4_35 ?_
  refine r_bipush hc (v := 8) (by decide) dJ6_bitCount_0f7a4_36 ?_
  refine r_iushr hc dJ6_bitCount_0f7a4_38 ?_
  refine r_iadd hc dJ6_bitCount_0f7a4_39 ?_
  refine r_istore_nE hc (i := 0) (lv' := [(0, .int (t3 + (ushr' t3 8)))]) rfl rfl (by decide) rfl dJ6_bitCount_0f7a4_40 ?_
  refine r_iload_n hc 0 rfl rfl dJ6_bitCount_0f7a4_41 ?_
  refine r_iload_n hc 0 rfl rfl dJ6_bitCount_0f7a4_42 ?_
  refine r_bipush hc (v := 16) (by decide) dJ6_bitCount_0f7a4_43 ?_
  refine r_iushr hc dJ6_bitCount_0f7a4_45 ?_
  refine r_iadd hc dJ6_bitCount_0f7a4_46 ?_
  obtain ⟨t4, et4, h⟩ := wp_l h
  refine r_istore_nE hc (i := 0) (lv' := [(0, .int t4)]) et4 rfl (by decide) rfl dJ6_bitCount_0f7a4_47 ?_
  refine r_iload_n hc 0 rfl rfl dJ6_bitCount_0f7a4_48 ?_
  refine r_bipush hc (v := 63) (by decide) dJ6_bitCount_0f7a4_49 ?_
  refine r_iand hc dJ6_bitCount_0f7a4_51 ?_
  have h := wp_v h
  exact r_iret hc h dJ6_bitCount_0f7a4_52
theorem c_J6_bitCount_0f7a4 {l : Launch} {sh : List Shp} {x0 : Int32} {σ σ' : Hp} {r : Int32} (h : f_J6_bitCount_0f7a4 sh x0 σ = some (r, σ')) : Mt l yJ6_bitCount_0f7a4 cJ6_bitCount_0f7a4 1 (some .int) 1 sh (fun ad => [.int x0]) σ (fun ad => some (.int r)) σ' := mt_i (own := RJ6) (by decide) rfl (fun _ => Nat.le_of_ble_eq_true rfl) (fun γ ad K hc hk => t_J6_bitCount_0f7a4 hc ⟨_, _, h, hk⟩)

-- NetMaps$Net.lines()I
theorem dX1_lines_0 : decode cX1_lines 0 = .ok (.iconst 0, 1) := by decide +kernel
theorem dX1_lines_1 : decode cX1_lines 1 = .ok (.istore_n 1, 1) := by decide +kernel
theorem dX1_lines_2 : decode cX1_lines 2 = .ok (.iconst 0, 1) := by decide +kernel
theorem dX1_lines_3 : decode cX1_lines 3 = .ok (.istore_n 2, 1) := by decide +kernel
theorem dX1_lines_4 : decode cX1_lines 4 = .ok (.iload_n 2, 1) := by decide +kernel
theorem dX1_lines_5 : decode cX1_lines 5 = .ok (.aload_n 0, 1) := by decide +kernel
theorem dX1_lines_6 : decode cX1_lines 6 = .ok (.getfield 18, 3) := by decide +kernel
theorem dX1_lines_9 : decode cX1_lines 9 = .ok (.if_icmp .ge 21, 3) := by decide +kernel
theorem dX1_lines_12 : decode cX1_lines 12 = .ok (.iload_n 1, 1) := by decide +kernel
theorem dX1_lines_13 : decode cX1_lines 13 = .ok (.aload_n 0, 1) := by decide +kernel
theorem dX1_lines_14 : decode cX1_lines 14 = .ok (.getfield 9, 3) := by decide +kernel
theorem dX1_lines_17 : decode cX1_lines 17 = .ok (.iload_n 2, 1) := by decide +kernel
theorem dX1_lines_18 : decode cX1_lines 18 = .ok (.iaload, 1) := by decide +kernel
theorem dX1_lines_19 : decode cX1_lines 19 = .ok (.invokestatic 34, 3) := by decide +kernel
theorem dX1_lines_22 : decode cX1_lines 22 = .ok (.iadd, 1) := by decide +kernel
theorem dX1_lines_23 : decode cX1_lines 23 = .ok (.istore_n 1, 1) := by decide +kernel
theorem dX1_lines_24 : decode cX1_lines 24 = .ok (.iinc 2 1, 3) := by decide +kernel
theorem dX1_lines_27 : decode cX1_lines 27 = .ok (.goto (-23), 3) := by decide +kernel
theorem dX1_lines_30 : decode cX1_lines 30 = .ok (.iload_n 1, 1) := by decide +kernel
theorem dX1_lines_31 : decode cX1_lines 31 = .ok (.ireturn, 1) := by decide +kernel
noncomputable def f_X1_lines_L4 (x0 : Nat) (v : (Int32 × Int32)) (σ : Hp) : Option (((Int32 × Int32) ⊕ (Int32)) × Hp) := gO (getI shC 1 x0 0 σ) fun v1 => if v1 ≤ v.2 then (some (Sum.inr v.1, σ)) else (gO (getR shC 1 x0 1 σ) fun v2 => gO (aldI shC 0 v2 v.2 σ) fun v3 => bO (f_J6_bitCount_0f7a4 shC v3 σ) fun r4 σ5 => some (Sum.inl ((v.1 + r4), (v.2 + 1)), σ5))
set_option maxRecDepth 100000 in
set_option maxHeartbeats 4000000 in
theorem t_X1_lines_L4 {l : Launch} {γ : Gm} {ad : Nat → Nat} {K : Option Value → Hp → Prop}  (hc : Cx l γ 2 3 ad shC RX1 cX1_lines (some .int) K) {x0 : Nat} {v : (Int32 × Int32)} {σ : Hp} {KX : (Int32) → Hp → Prop} (h : wpO (wh (f_X1_lines_L4 x0) v σ) KX) (kx30 : ∀ (v : Int32) (σ : Hp), KX v σ → WW l γ 2 3 ad shC 30 [(1, .int v)] [] σ) : WW l γ 2 3 ad shC 4 [(0, .ref (ad x0)), (1, .int v.1), (2, .int v.2)] [] σ := by
  refine wh_W (P := fun v σ => WW l γ 2 3 ad shC 4 [(0, .ref (ad x0)), (1, .int v.1), (2, .int v.2)] [] σ) (fun v σ h => ?_) h
  have kn : ∀ (v : (Int32 × Int32)) (σ : Hp), WW l γ 2 3 ad shC 4 [(0, .ref (ad x0)), (1, .int v.1), (2, .int v.2)] [] σ → WW l γ 2 3 ad shC 4 [(0, .ref (ad x0)), (1, .int v.1), (2, .int v.2)] [] σ := fun _ _ h => h
  · unfold f_X1_lines_L4 at h
    refine r_iload_n hc 2 rfl rfl dX1_lines_4 ?_
    refine r_aload_n hc 0 rfl rfl dX1_lines_5 ?_
    obtain ⟨v1, ev1, h⟩ := wp_g h
    refine r_getI hc ev1 fl_X1_18 rfl dX1_lines_6 ?_
    refine r_icmp_ge hc (tgt := 30) dX1_lines_9 (by decide) (fun c => ?_) (fun c => ?_)
    · have h := wp_t c h
      refine r_sub [1] (lv' := [(1, .int v.1)]) rfl ?_
      have h := wp_v h
      exact kx30 v.1 _ h
    · have h := wp_f c h
      refine r_iload_n hc 1 rfl rfl dX1_lines_12 ?_
      refine r_aload_n hc 0 rfl rfl dX1_lines_13 ?_
      obtain ⟨v2, ev2, h⟩ := wp_g h
      refine r_getR hc ev2 fl_X1_9 rfl dX1_lines_14 ?_
      refine r_iload_n hc 2 rfl rfl dX1_lines_17 ?_
      obtain ⟨v3, ev3, h⟩ := wp_g h
      refine r_iald hc ev3 dX1_lines_18 ?_
      obtain ⟨r4, σ5, er4, h⟩ := wp_b h
      refine r_callS hc ms_J6_bitCount_0f7a4 ml_X1_34 (c_J6_bitCount_0f7a4 er4) rfl rfl (by decide) rfl (Nat.le_of_ble_eq_true rfl) dX1_lines_19 ?_
      refine r_iadd hc dX1_lines_22 ?_
      refine r_istore_nE hc (i := 1) (lv' := [(1, .int (v.1 + r4)), (0, .ref (ad x0)), (2, .int v.2)]) rfl rfl (by decide) rfl dX1_lines_23 ?_
      refine r_iincE hc (j := 2) (w := 1) (lv' := [(2, .int (v.2 + 1)), (1, .int (v.1 + r4)), (0, .ref (ad x0))]) rfl (by decide) rfl (by decide) rfl dX1_lines_24 ?_
      refine r_goto hc (tgt := 4) dX1_lines_27 (by decide) ?_
      refine r_sub [2, 1, 0] (lv' := [(0, .ref (ad x0)), (1, .int (v.1 + r4)), (2, .int (v.2 + 1))]) rfl ?_
      have h := wp_v h
      exact kn ((v.1 + r4), (v.2 + 1)) _ h
noncomputable def f_X1_lines (x0 : Nat) (σ : Hp) : Option (Int32 × Hp) := bO (wh (f_X1_lines_L4 x0) (0, 0) σ) fun y1 σ2 => (some (y1, σ2))
set_option maxRecDepth 100000 in
set_option maxHeartbeats 4000000 in
theorem t_X1_lines {l : Launch} {γ : Gm} {ad : Nat → Nat} {K : Option Value → Hp → Prop} (hc : Cx l γ 2 3 ad shC RX1 cX1_lines (some .int) K) {x0 : Nat} {σ : Hp} (h : wpO (f_X1_lines x0 σ) (KI K)) : WW l γ 2 3 ad shC 0 [(0, .ref (ad x0))] [] σ := by
  unfold f_X1_lines at h
  refine r_iconst hc (v := 0) (by decide) dX1_lines_0 ?_
  refine r_istore_nE hc (i := 1) (lv' := [(1, .int 0), (0, .ref (ad x0))]) rfl rfl (by decide) rfl dX1_lines_1 ?_
  refine r_iconst hc (v := 0) (by decide) dX1_lines_2 ?_
  refine r_istore_nE hc (i := 2) (lv' := [(2, .int 0), (1, .int 0), (0, .ref (ad x0))]) rfl rfl (by decide) rfl dX1_lines_3 ?_
  refine r_sub [2, 1, 0] (lv' := [(0, .ref (ad x0)), (1, .int 0), (2, .int 0)]) rfl ?_
  refine t_X1_lines_L4 hc (wp_bb h) ?_
  · intro y1 σ2 h
    refine r_iload_n hc 0 rfl rfl dX1_lines_30 ?_
    have h := wp_v h
    exact r_iret hc h dX1_lines_31
theorem c_X1_lines {l : Launch} {x0 : Nat} {σ σ' : Hp} {r : Int32} (h : f_X1_lines x0 σ = some (r, σ')) : Mt l yX1_lines cX1_lines 3 (some .int) 2 shC (fun ad => [.ref (ad x0)]) σ (fun ad => some (.int r)) σ' := mt_i (own := RX1) (by decide) rfl (fun _ => Nat.le_of_ble_eq_true rfl) (fun γ ad K hc hk => t_X1_lines hc ⟨_, _, h, hk⟩)

-- NetMaps$Reader.isDigit(I)Z
theorem dX2_isDigit_0 : decode cX2_isDigit 0 = .ok (.iload_n 0, 1) := by decide +kernel
theorem dX2_isDigit_1 : decode cX2_isDigit 1 = .ok (.bipush 48, 2) := by decide +kernel
theorem dX2_isDigit_3 : decode cX2_isDigit 3 = .ok (.if_icmp .lt 13, 3) := by decide +kernel
theorem dX2_isDigit_6 : decode cX2_isDigit 6 = .ok (.iload_n 0, 1) := by decide +kernel
theorem dX2_isDigit_7 : decode cX2_isDigit 7 = .ok (.bipush 57, 2) := by decide +kernel
theorem dX2_isDigit_9 : decode cX2_isDigit 9 = .ok (.if_icmp .gt 7, 3) := by decide +kernel
theorem dX2_isDigit_12 : decode cX2_isDigit 12 = .ok (.iconst 1, 1) := by decide +kernel
theorem dX2_isDigit_13 : decode cX2_isDigit 13 = .ok (.goto 4, 3) := by decide +kernel
theorem dX2_isDigit_16 : decode cX2_isDigit 16 = .ok (.iconst 0, 1) := by decide +kernel
theorem dX2_isDigit_17 : decode cX2_isDigit 17 = .ok (.ireturn, 1) := by decide +kernel
noncomputable def f_X2_isDigit_b17 (s0 : Int32) (σ : Hp) : Option (Int32 × Hp) := gO (zz s0) fun _ => some (s0, σ)
set_option maxRecDepth 100000 in
set_option maxHeartbeats 4000000 in
theorem t_X2_isDigit_b17 {l : Launch} {γ : Gm} {ad : Nat → Nat} {K : Option Value → Hp → Prop} (hc : Cx l γ 1 1 ad shC RX2 cX2_isDigit (some .boolean) K) {s0 : Int32} {σ : Hp} (h : wpO (f_X2_isDigit_b17 s0 σ) (KI K)) : WW l γ 1 1 ad shC 17 [] [.int s0] σ := by
  unfold f_X2_isDigit_b17 at h
  obtain ⟨_, ek1, h⟩ := wp_g h
  have h := wp_v h
  exact r_zret hc h (zz_of ek1) dX2_isDigit_17
noncomputable def f_X2_isDigit_b16  (σ : Hp) : Option (Int32 × Hp) := f_X2_isDigit_b17 0 σ
set_option maxRecDepth 100000 in
set_option maxHeartbeats 4000000 in
theorem t_X2_isDigit_b16 {l : Launch} {γ : Gm} {ad : Nat → Nat} {K : Option Value → Hp → Prop} (hc : Cx l γ 1 1 ad shC RX2 cX2_isDigit (some .boolean) K)  {σ : Hp} (h : wpO (f_X2_isDigit_b16  σ) (KI K)) : WW l γ 1 1 ad shC 16 [] [] σ := by
  unfold f_X2_isDigit_b16 at h
  refine r_iconst hc (v := 0) (by decide) dX2_isDigit_16 ?_
  exact t_X2_isDigit_b17 hc h
noncomputable def f_X2_isDigit (x0 : Int32) (σ : Hp) : Option (Int32 × Hp) := if x0 < 48 then (f_X2_isDigit_b16  σ) else (if 57 < x0 then (f_X2_isDigit_b16  σ) else (f_X2_isDigit_b17 1 σ))
set_option maxRecDepth 100000 in
set_option maxHeartbeats 4000000 in
theorem t_X2_isDigit {l : Launch} {γ : Gm} {ad : Nat → Nat} {K : Option Value → Hp → Prop} (hc : Cx l γ 1 1 ad shC RX2 cX2_isDigit (some .boolean) K) {x0 : Int32} {σ : Hp} (h : wpO (f_X2_isDigit x0 σ) (KI K)) : WW l γ 1 1 ad shC 0 [(0, .int x0)] [] σ := by
  unfold f_X2_isDigit at h
  refine r_iload_n hc 0 rfl rfl dX2_isDigit_0 ?_
  refine r_bipush hc (v := 48) (by decide) dX2_isDigit_1 ?_
  refine r_icmp_lt hc (tgt := 16) dX2_isDigit_3 (by decide) (fun c => ?_) (fun c => ?_)
  · have h := wp_t c h
    refine r_sub [] (lv' := []) rfl ?_
    exact t_X2_isDigit_b16 hc h
  · have h := wp_f c h
    refine r_iload_n hc 0 rfl rfl dX2_isDigit_6 ?_
    refine r_bipush hc (v := 57) (by decide) dX2_isDigit_7 ?_
    refine r_icmp_gt hc (tgt := 16) dX2_isDigit_9 (by decide) (fun c => ?_) (fun c => ?_)
    · have h := wp_t c h
      refine r_sub [] (lv' := []) rfl ?_
      exact t_X2_isDigit_b16 hc h
    · have h := wp_f c h
      refine r_iconst hc (v := 1) (by decide) dX2_isDigit_12 ?_
      refine r_goto hc (tgt := 17) dX2_isDigit_13 (by decide) ?_
      refine r_sub [] (lv' := []) rfl ?_
      exact t_X2_isDigit_b17 hc h
theorem c_X2_isDigit {l : Launch} {x0 : Int32} {σ σ' : Hp} {r : Int32} (h : f_X2_isDigit x0 σ = some (r, σ')) : Mt l yX2_isDigit cX2_isDigit 1 (some .boolean) 1 shC (fun ad => [.int x0]) σ (fun ad => some (.int r)) σ' := mt_i (own := RX2) (by decide) rfl (fun _ => Nat.le_of_ble_eq_true rfl) (fun γ ad K hc hk => t_X2_isDigit hc ⟨_, _, h, hk⟩)

-- NetMaps$Reader.nodeFault(I)I
theorem dX2_nodeFault_0 : decode cX2_nodeFault 0 = .ok (.iload_n 1, 1) := by decide +kernel
theorem dX2_nodeFault_1 : decode cX2_nodeFault 1 = .ok (.invokestatic 43, 3) := by decide +kernel
theorem dX2_nodeFault_4 : decode cX2_nodeFault 4 = .ok (.ifCond .ne 5, 3) := by decide +kernel
theorem dX2_nodeFault_7 : decode cX2_nodeFault 7 = .ok (.iconst 1, 1) := by decide +kernel
theorem dX2_nodeFault_8 : decode cX2_nodeFault 8 = .ok (.ireturn, 1) := by decide +kernel
theorem dX2_nodeFault_9 : decode cX2_nodeFault 9 = .ok (.iload_n 1, 1) := by decide +kernel
theorem dX2_nodeFault_10 : decode cX2_nodeFault 10 = .ok (.bipush 48, 2) := by decide +kernel
theorem dX2_nodeFault_12 : decode cX2_nodeFault 12 = .ok (.isub, 1) := by decide +kernel
theorem dX2_nodeFault_13 : decode cX2_nodeFault 13 = .ok (.aload_n 0, 1) := by decide +kernel
theorem dX2_nodeFault_14 : decode cX2_nodeFault 14 = .ok (.getfield 12, 3) := by decide +kernel
theorem dX2_nodeFault_17 : decode cX2_nodeFault 17 = .ok (.getfield 55, 3) := by decide +kernel
theorem dX2_nodeFault_20 : decode cX2_nodeFault 20 = .ok (.if_icmp .ge 7, 3) := by decide +kernel
theorem dX2_nodeFault_23 : decode cX2_nodeFault 23 = .ok (.iconst 0, 1) := by decide +kernel
theorem dX2_nodeFault_24 : decode cX2_nodeFault 24 = .ok (.goto 4, 3) := by decide +kernel
theorem dX2_nodeFault_27 : decode cX2_nodeFault 27 = .ok (.iconst 2, 1) := by decide +kernel
theorem dX2_nodeFault_28 : decode cX2_nodeFault 28 = .ok (.ireturn, 1) := by decide +kernel
noncomputable def f_X2_nodeFault_b28 (s0 : Int32) (σ : Hp) : Option (Int32 × Hp) := some (s0, σ)
set_option maxRecDepth 100000 in
set_option maxHeartbeats 4000000 in
theorem t_X2_nodeFault_b28 {l : Launch} {γ : Gm} {ad : Nat → Nat} {K : Option Value → Hp → Prop} (hc : Cx l γ 2 2 ad shC RX2 cX2_nodeFault (some .int) K) {s0 : Int32} {σ : Hp} (h : wpO (f_X2_nodeFault_b28 s0 σ) (KI K)) : WW l γ 2 2 ad shC 28 [] [.int s0] σ := by
  unfold f_X2_nodeFault_b28 at h
  have h := wp_v h
  exact r_iret hc h dX2_nodeFault_28
noncomputable def f_X2_nodeFault (x0 : Nat) (x1 : Int32) (σ : Hp) : Option (Int32 × Hp) := bO (f_X2_isDigit x1 σ) fun r1 σ2 => if r1 = 0 then (some (1, σ2)) else (gO (getR shC 2 x0 0 σ2) fun v3 => gO (getI shC 1 v3 0 σ2) fun v4 => if v4 ≤ (x1 - 48) then (f_X2_nodeFault_b28 2 σ2) else (f_X2_nodeFault_b28 0 σ2))
set_option maxRecDepth 100000 in
set_option maxHeartbeats 4000000 in
theorem t_X2_nodeFault {l : Launch} {γ : Gm} {ad : Nat → Nat} {K : Option Value → Hp → Prop} (hc : Cx l γ 2 2 ad shC RX2 cX2_nodeFault (some .int) K) {x0 : Nat} {x1 : Int32} {σ : Hp} (h : wpO (f_X2_nodeFault x0 x1 σ) (KI K)) : WW l γ 2 2 ad shC 0 [(0, .ref (ad x0)), (1, .int x1)] [] σ := by
  unfold f_X2_nodeFault at h
  refine r_iload_n hc 1 rfl rfl dX2_nodeFault_0 ?_
  obtain ⟨r1, σ2, er1, h⟩ := wp_b h
  refine r_callS hc ms_X2_isDigit ml_X2_43 (c_X2_isDigit er1) rfl rfl (by decide) rfl (Nat.le_of_ble_eq_true rfl) dX2_nodeFault_1 ?_
  refine r_if_ne hc (tgt := 9) dX2_nodeFault_4 (by decide) (fun c => ?_) (fun c => ?_)
  · have h := wp_f c h
    refine r_iload_n hc 1 rfl rfl dX2_nodeFault_9 ?_
    refine r_bipush hc (v := 48) (by decide) dX2_nodeFault_10 ?_
    refine r_isub hc dX2_nodeFault_12 ?_
    refine r_aload_n hc 0 rfl rfl dX2_nodeFault_13 ?_
    obtain ⟨v3, ev3, h⟩ := wp_g h
    refine r_getR hc ev3 fl_X2_12 rfl dX2_nodeFault_14 ?_
    obtain ⟨v4, ev4, h⟩ := wp_g h
    refine r_getI hc ev4 fl_X2_55 rfl dX2_nodeFault_17 ?_
    refine r_icmp_ge hc (tgt := 27) dX2_nodeFault_20 (by decide) (fun c => ?_) (fun c => ?_)
    · have h := wp_t c h
      refine r_iconst hc (v := 2) (by decide) dX2_nodeFault_27 ?_
      refine r_sub [] (lv' := []) rfl ?_
      exact t_X2_nodeFault_b28 hc h
    · have h := wp_f c h
      refine r_iconst hc (v := 0) (by decide) dX2_nodeFault_23 ?_
      refine r_goto hc (tgt := 28) dX2_nodeFault_24 (by decide) ?_
      refine r_sub [] (lv' := []) rfl ?_
      exact t_X2_nodeFault_b28 hc h
  · have h := wp_t c h
    refine r_iconst hc (v := 1) (by decide) dX2_nodeFault_7 ?_
    have h := wp_v h
    exact r_iret hc h dX2_nodeFault_8
theorem c_X2_nodeFault {l : Launch} {x0 : Nat} {x1 : Int32} {σ σ' : Hp} {r : Int32} (h : f_X2_nodeFault x0 x1 σ = some (r, σ')) : Mt l yX2_nodeFault cX2_nodeFault 2 (some .int) 2 shC (fun ad => [.ref (ad x0), .int x1]) σ (fun ad => some (.int r)) σ' := mt_i (own := RX2) (by decide) rfl (fun _ => Nat.le_of_ble_eq_true rfl) (fun γ ad K hc hk => t_X2_nodeFault hc ⟨_, _, h, hk⟩)

-- NetMaps$Net.begin(I)V
theorem dX1_begin_0 : decode cX1_begin 0 = .ok (.aload_n 0, 1) := by decide +kernel
theorem dX1_begin_1 : decode cX1_begin 1 = .ok (.iload_n 1, 1) := by decide +kernel
theorem dX1_begin_2 : decode cX1_begin 2 = .ok (.putfield 18, 3) := by decide +kernel
theorem dX1_begin_5 : decode cX1_begin 5 = .ok (.iconst 0, 1) := by decide +kernel
theorem dX1_begin_6 : decode cX1_begin 6 = .ok (.istore_n 2, 1) := by decide +kernel
theorem dX1_begin_7 : decode cX1_begin 7 = .ok (.iload_n 2, 1) := by decide +kernel
theorem dX1_begin_8 : decode cX1_begin 8 = .ok (.bipush 27, 2) := by decide +kernel
theorem dX1_begin_10 : decode cX1_begin 10 = .ok (.if_icmp .ge 23, 3) := by decide +kernel
theorem dX1_begin_13 : decode cX1_begin 13 = .ok (.aload_n 0, 1) := by decide +kernel
theorem dX1_begin_14 : decode cX1_begin 14 = .ok (.getfield 9, 3) := by decide +kernel
theorem dX1_begin_17 : decode cX1_begin 17 = .ok (.iload_n 2, 1) := by decide +kernel
theorem dX1_begin_18 : decode cX1_begin 18 = .ok (.iconst 0, 1) := by decide +kernel
theorem dX1_begin_19 : decode cX1_begin 19 = .ok (.iastore, 1) := by decide +kernel
theorem dX1_begin_20 : decode cX1_begin 20 = .ok (.aload_n 0, 1) := by decide +kernel
theorem dX1_begin_21 : decode cX1_begin 21 = .ok (.getfield 15, 3) := by decide +kernel
theorem dX1_begin_24 : decode cX1_begin 24 = .ok (.iload_n 2, 1) := by decide +kernel
theorem dX1_begin_25 : decode cX1_begin 25 = .ok (.iconst 0, 1) := by decide +kernel
theorem dX1_begin_26 : decode cX1_begin 26 = .ok (.iastore, 1) := by decide +kernel
theorem dX1_begin_27 : decode cX1_begin 27 = .ok (.iinc 2 1, 3) := by decide +kernel
theorem dX1_begin_30 : decode cX1_begin 30 = .ok (.goto (-23), 3) := by decide +kernel
theorem dX1_begin_33 : decode cX1_begin 33 = .ok (.return_, 1) := by decide +kernel
noncomputable def f_X1_begin_L7 (x0 : Nat) (v : (Int32)) (σ : Hp) : Option (((Int32) ⊕ (Unit)) × Hp) := if 27 ≤ v then (some (Sum.inr (), σ)) else (gO (getR shC 1 x0 1 σ) fun v1 => gO (astI shC 0 v1 v 0 σ) fun σ2 => gO (getR shC 1 x0 2 σ2) fun v3 => gO (astI shC 0 v3 v 0 σ2) fun σ4 => some (Sum.inl (v + 1), σ4))
set_option maxRecDepth 100000 in
set_option maxHeartbeats 4000000 in
theorem t_X1_begin_L7 {l : Launch} {γ : Gm} {ad : Nat → Nat} {K : Option Value → Hp → Prop}  (hc : Cx l γ 1 3 ad shC RX1 cX1_begin none K) {x0 : Nat} {v : (Int32)} {σ : Hp} {KX : (Unit) → Hp → Prop} (h : wpO (wh (f_X1_begin_L7 x0) v σ) KX) (kx33 : ∀ (v : Unit) (σ : Hp), KX v σ → WW l γ 1 3 ad shC 33 [] [] σ) : WW l γ 1 3 ad shC 7 [(0, .ref (ad x0)), (2, .int v)] [] σ := by
  refine wh_W (P := fun v σ => WW l γ 1 3 ad shC 7 [(0, .ref (ad x0)), (2, .int v)] [] σ) (fun v σ h => ?_) h
  have kn : ∀ (v : (Int32)) (σ : Hp), WW l γ 1 3 ad shC 7 [(0, .ref (ad x0)), (2, .int v)] [] σ → WW l γ 1 3 ad shC 7 [(0, .ref (ad x0)), (2, .int v)] [] σ := fun _ _ h => h
  · unfold f_X1_begin_L7 at h
    refine r_iload_n hc 1 rfl rfl dX1_begin_7 ?_
    refine r_bipush hc (v := 27) (by decide) dX1_begin_8 ?_
    refine r_icmp_ge hc (tgt := 33) dX1_begin_10 (by decide) (fun c => ?_) (fun c => ?_)
    · have h := wp_t c h
      refine r_sub [] (lv' := []) rfl ?_
      have h := wp_v h
      exact kx33 () _ h
    · have h := wp_f c h
      refine r_aload_n hc 0 rfl rfl dX1_begin_13 ?_
      obtain ⟨v1, ev1, h⟩ := wp_g h
      refine r_getR hc ev1 fl_X1_9 rfl dX1_begin_14 ?_
      refine r_iload_n hc 1 rfl rfl dX1_begin_17 ?_
      refine r_iconst hc (v := 0) (by decide) dX1_begin_18 ?_
      obtain ⟨σ2, eσ2, h⟩ := wp_g h
      refine r_iast hc eσ2 dX1_begin_19 ?_
      refine r_aload_n hc 0 rfl rfl dX1_begin_20 ?_
      obtain ⟨v3, ev3, h⟩ := wp_g h
      refine r_getR hc ev3 fl_X1_15 rfl dX1_begin_21 ?_
      refine r_iload_n hc 1 rfl rfl dX1_begin_24 ?_
      refine r_iconst hc (v := 0) (by decide) dX1_begin_25 ?_
      obtain ⟨σ4, eσ4, h⟩ := wp_g h
      refine r_iast hc eσ4 dX1_begin_26 ?_
      refine r_iincE hc (j := 1) (w := 1) (lv' := [(2, .int (v + 1)), (0, .ref (ad x0))]) rfl (by decide) rfl (by decide) rfl dX1_begin_27 ?_
      refine r_goto hc (tgt := 7) dX1_begin_30 (by decide) ?_
      refine r_sub [1, 0] (lv' := [(0, .ref (ad x0)), (2, .int (v + 1))]) rfl ?_
      have h := wp_v h
      exact kn (v + 1) _ h
noncomputable def f_X1_begin (x0 : Nat) (x1 : Int32) (σ : Hp) : Option (Unit × Hp) := gO (putI shC 1 x0 0 x1 σ) fun σ1 => bO (wh (f_X1_begin_L7 x0) 0 σ1) fun y2 σ3 => (some ((), σ3))
set_option maxRecDepth 100000 in
set_option maxHeartbeats 4000000 in
theorem t_X1_begin {l : Launch} {γ : Gm} {ad : Nat → Nat} {K : Option Value → Hp → Prop} (hc : Cx l γ 1 3 ad shC RX1 cX1_begin none K) {x0 : Nat} {x1 : Int32} {σ : Hp} (h : wpO (f_X1_begin x0 x1 σ) (KU K)) : WW l γ 1 3 ad shC 0 [(0, .ref (ad x0)), (1, .int x1)] [] σ := by
  unfold f_X1_begin at h
  refine r_aload_n hc 0 rfl rfl dX1_begin_0 ?_
  refine r_iload_n hc 1 rfl rfl dX1_begin_1 ?_
  obtain ⟨σ1, eσ1, h⟩ := wp_g h
  refine r_putI hc eσ1 fp_X1_18 rfl dX1_begin_2 ?_
  refine r_iconst hc (v := 0) (by decide) dX1_begin_5 ?_
  refine r_istore_nE hc (i := 2) (lv' := [(2, .int 0), (0, .ref (ad x0)), (1, .int x1)]) rfl rfl (by decide) rfl dX1_begin_6 ?_
  refine r_sub [1, 0] (lv' := [(0, .ref (ad x0)), (2, .int 0)]) rfl ?_
  refine t_X1_begin_L7 hc (wp_bb h) ?_
  · intro y2 σ3 h
    have h := wp_v h
    exact r_vret hc h dX1_begin_33
theorem c_X1_begin {l : Launch} {x0 : Nat} {x1 : Int32} {σ σ' : Hp} {r : Unit} (h : f_X1_begin x0 x1 σ = some (r, σ')) : Mt l yX1_begin cX1_begin 3 none 1 shC (fun ad => [.ref (ad x0), .int x1]) σ (fun ad => none) σ' := mt_i (own := RX1) (by decide) rfl (fun _ => Nat.le_of_ble_eq_true rfl) (fun γ ad K hc hk => t_X1_begin hc ⟨_, _, h, hk⟩)

-- NetMaps$Reader.readNodes(I)I
theorem dX2_readNodes_0 : decode cX2_readNodes 0 = .ok (.iload_n 1, 1) := by decide +kernel
theorem dX2_readNodes_1 : decode cX2_readNodes 1 = .ok (.invokestatic 43, 3) := by decide +kernel
theorem dX2_readNodes_4 : decode cX2_readNodes 4 = .ok (.ifCond .ne 5, 3) := by decide +kernel
theorem dX2_readNodes_7 : decode cX2_readNodes 7 = .ok (.iconst 1, 1) := by decide +kernel
theorem dX2_readNodes_8 : decode cX2_readNodes 8 = .ok (.ireturn, 1) := by decide +kernel
theorem dX2_readNodes_9 : decode cX2_readNodes 9 = .ok (.iload_n 1, 1) := by decide +kernel
theorem dX2_readNodes_10 : decode cX2_readNodes 10 = .ok (.bipush 48, 2) := by decide +kernel
theorem dX2_readNodes_12 : decode cX2_readNodes 12 = .ok (.isub, 1) := by decide +kernel
theorem dX2_readNodes_13 : decode cX2_readNodes 13 = .ok (.istore_n 2, 1) := by decide +kernel
theorem dX2_readNodes_14 : decode cX2_readNodes 14 = .ok (.iload_n 2, 1) := by decide +kernel
theorem dX2_readNodes_15 : decode cX2_readNodes 15 = .ok (.iconst 1, 1) := by decide +kernel
theorem dX2_readNodes_16 : decode cX2_readNodes 16 = .ok (.if_icmp .lt 9, 3) := by decide +kernel
theorem dX2_readNodes_19 : decode cX2_readNodes 19 = .ok (.iload_n 2, 1) := by decide +kernel
theorem dX2_readNodes_20 : decode cX2_readNodes 20 = .ok (.bipush 7, 2) := by decide +kernel
theorem dX2_readNodes_22 : decode cX2_readNodes 22 = .ok (.if_icmp .le 5, 3) := by decide +kernel
theorem dX2_readNodes_25 : decode cX2_readNodes 25 = .ok (.iconst 2, 1) := by decide +kernel
theorem dX2_readNodes_26 : decode cX2_readNodes 26 = .ok (.ireturn, 1) := by decide +kernel
theorem dX2_readNodes_27 : decode cX2_readNodes 27 = .ok (.aload_n 0, 1) := by decide +kernel
theorem dX2_readNodes_28 : decode cX2_readNodes 28 = .ok (.getfield 12, 3) := by decide +kernel
theorem dX2_readNodes_31 : decode cX2_readNodes 31 = .ok (.iload_n 2, 1) := by decide +kernel
theorem dX2_readNodes_32 : decode cX2_readNodes 32 = .ok (.invokevirtual 18, 3) := by decide +kernel
theorem dX2_readNodes_35 : decode cX2_readNodes 35 = .ok (.aload_n 0, 1) := by decide +kernel
theorem dX2_readNodes_36 : decode cX2_readNodes 36 = .ok (.iconst 1, 1) := by decide +kernel
theorem dX2_readNodes_37 : decode cX2_readNodes 37 = .ok (.putfield 22, 3) := by decide +kernel
theorem dX2_readNodes_40 : decode cX2_readNodes 40 = .ok (.iconst 0, 1) := by decide +kernel
theorem dX2_readNodes_41 : decode cX2_readNodes 41 = .ok (.ireturn, 1) := by decide +kernel
noncomputable def f_X2_readNodes_b25  (σ : Hp) : Option (Int32 × Hp) := some (2, σ)
set_option maxRecDepth 100000 in
set_option maxHeartbeats 4000000 in
theorem t_X2_readNodes_b25 {l : Launch} {γ : Gm} {ad : Nat → Nat} {K : Option Value → Hp → Prop} (hc : Cx l γ 2 3 ad shC RX2 cX2_readNodes (some .int) K)  {σ : Hp} (h : wpO (f_X2_readNodes_b25  σ) (KI K)) : WW l γ 2 3 ad shC 25 [] [] σ := by
  unfold f_X2_readNodes_b25 at h
  refine r_iconst hc (v := 2) (by decide) dX2_readNodes_25 ?_
  have h := wp_v h
  exact r_iret hc h dX2_readNodes_26
noncomputable def f_X2_readNodes (x0 : Nat) (x1 : Int32) (σ : Hp) : Option (Int32 × Hp) := bO (f_X2_isDigit x1 σ) fun r1 σ2 => if r1 = 0 then (some (1, σ2)) else (if (x1 - 48) < 1 then (f_X2_readNodes_b25  σ2) else (if (x1 - 48) ≤ 7 then (gO (getR shC 2 x0 0 σ2) fun v3 => gO (chk shC v3 1) fun _ => bO (f_X1_begin v3 (x1 - 48) σ2) fun _ σ5 => gO (putI shC 2 x0 1 1 σ5) fun σ7 => some (0, σ7)) else (f_X2_readNodes_b25  σ2)))
set_option maxRecDepth 100000 in
set_option maxHeartbeats 4000000 in
theorem t_X2_readNodes {l : Launch} {γ : Gm} {ad : Nat → Nat} {K : Option Value → Hp → Prop} (hc : Cx l γ 2 3 ad shC RX2 cX2_readNodes (some .int) K) {x0 : Nat} {x1 : Int32} {σ : Hp} (h : wpO (f_X2_readNodes x0 x1 σ) (KI K)) : WW l γ 2 3 ad shC 0 [(0, .ref (ad x0)), (1, .int x1)] [] σ := by
  unfold f_X2_readNodes at h
  refine r_iload_n hc 1 rfl rfl dX2_readNodes_0 ?_
  obtain ⟨r1, σ2, er1, h⟩ := wp_b h
  refine r_callS hc ms_X2_isDigit ml_X2_43 (c_X2_isDigit er1) rfl rfl (by decide) rfl (Nat.le_of_ble_eq_true rfl) dX2_readNodes_1 ?_
  refine r_if_ne hc (tgt := 9) dX2_readNodes_4 (by decide) (fun c => ?_) (fun c => ?_)
  · have h := wp_f c h
    refine r_iload_n hc 1 rfl rfl dX2_readNodes_9 ?_
    refine r_bipush hc (v := 48) (by decide) dX2_readNodes_10 ?_
    refine r_isub hc dX2_readNodes_12 ?_
    refine r_istore_nE hc (i := 2) (lv' := [(2, .int (x1 - 48)), (0, .ref (ad x0)), (1, .int x1)]) rfl rfl (by decide) rfl dX2_readNodes_13 ?_
    refine r_iload_n hc 0 rfl rfl dX2_readNodes_14 ?_
    refine r_iconst hc (v := 1) (by decide) dX2_readNodes_15 ?_
    refine r_icmp_lt hc (tgt := 25) dX2_readNodes_16 (by decide) (fun c => ?_) (fun c => ?_)
    · have h := wp_t c h
      refine r_sub [] (lv' := []) rfl ?_
      exact t_X2_readNodes_b25 hc h
    · have h := wp_f c h
      refine r_iload_n hc 0 rfl rfl dX2_readNodes_19 ?_
      refine r_bipush hc (v := 7) (by decide) dX2_readNodes_20 ?_
      refine r_icmp_le hc (tgt := 27) dX2_readNodes_22 (by decide) (fun c => ?_) (fun c => ?_)
      · have h := wp_t c h
        refine r_aload_n hc 1 rfl rfl dX2_readNodes_27 ?_
        obtain ⟨v3, ev3, h⟩ := wp_g h
        refine r_getR hc ev3 fl_X2_12 rfl dX2_readNodes_28 ?_
        refine r_iload_n hc 0 rfl rfl dX2_readNodes_31 ?_
        obtain ⟨_, ek6, h⟩ := wp_g h
        obtain ⟨_, σ5, er4, h⟩ := wp_b h
        refine r_callV hc (k0 := v3) mv_X1_begin ml_X2_18 (c_X1_begin er4) (chk_of ek6) cls_1.1 rfl rfl rfl (by decide) rfl (Nat.le_of_ble_eq_true rfl) dX2_readNodes_32 ?_
        refine r_aload_n hc 1 rfl rfl dX2_readNodes_35 ?_
        refine r_iconst hc (v := 1) (by decide) dX2_readNodes_36 ?_
        obtain ⟨σ7, eσ7, h⟩ := wp_g h
        refine r_putI hc eσ7 fp_X2_22 rfl dX2_readNodes_37 ?_
        refine r_iconst hc (v := 0) (by decide) dX2_readNodes_40 ?_
        have h := wp_v h
        exact r_iret hc h dX2_readNodes_41
      · have h := wp_f c h
        refine r_sub [] (lv' := []) rfl ?_
        exact t_X2_readNodes_b25 hc h
  · have h := wp_t c h
    refine r_iconst hc (v := 1) (by decide) dX2_readNodes_7 ?_
    have h := wp_v h
    exact r_iret hc h dX2_readNodes_8
theorem c_X2_readNodes {l : Launch} {x0 : Nat} {x1 : Int32} {σ σ' : Hp} {r : Int32} (h : f_X2_readNodes x0 x1 σ = some (r, σ')) : Mt l yX2_readNodes cX2_readNodes 3 (some .int) 2 shC (fun ad => [.ref (ad x0), .int x1]) σ (fun ad => some (.int r)) σ' := mt_i (own := RX2) (by decide) rfl (fun _ => Nat.le_of_ble_eq_true rfl) (fun γ ad K hc hk => t_X2_readNodes hc ⟨_, _, h, hk⟩)

-- NetMaps$Net.join(II)V
theorem dX1_join_0 : decode cX1_join 0 = .ok (.aload_n 0, 1) := by decide +kernel
theorem dX1_join_1 : decode cX1_join 1 = .ok (.getfield 9, 3) := by decide +kernel
theorem dX1_join_4 : decode cX1_join 4 = .ok (.iload_n 1, 1) := by decide +kernel
theorem dX1_join_5 : decode cX1_join 5 = .ok (.dup2, 1) := by decide +kernel
theorem dX1_join_6 : decode cX1_join 6 = .ok (.iaload, 1) := by decide +kernel
theorem dX1_join_7 : decode cX1_join 7 = .ok (.iconst 1, 1) := by decide +kernel
theorem dX1_join_8 : decode cX1_join 8 = .ok (.iload_n 2, 1) := by decide +kernel
theorem dX1_join_9 : decode cX1_join 9 = .ok (.ishl, 1) := by decide +kernel
theorem dX1_join_10 : decode cX1_join 10 = .ok (.ior, 1) := by decide +kernel
theorem dX1_join_11 : decode cX1_join 11 = .ok (.iastore, 1) := by decide +kernel
theorem dX1_join_12 : decode cX1_join 12 = .ok (.aload_n 0, 1) := by decide +kernel
theorem dX1_join_13 : decode cX1_join 13 = .ok (.getfield 15, 3) := by decide +kernel
theorem dX1_join_16 : decode cX1_join 16 = .ok (.iload_n 2, 1) := by decide +kernel
theorem dX1_join_17 : decode cX1_join 17 = .ok (.dup2, 1) := by decide +kernel
theorem dX1_join_18 : decode cX1_join 18 = .ok (.iaload, 1) := by decide +kernel
theorem dX1_join_19 : decode cX1_join 19 = .ok (.iconst 1, 1) := by decide +kernel
theorem dX1_join_20 : decode cX1_join 20 = .ok (.iload_n 1, 1) := by decide +kernel
theorem dX1_join_21 : decode cX1_join 21 = .ok (.ishl, 1) := by decide +kernel
theorem dX1_join_22 : decode cX1_join 22 = .ok (.ior, 1) := by decide +kernel
theorem dX1_join_23 : decode cX1_join 23 = .ok (.iastore, 1) := by decide +kernel
theorem dX1_join_24 : decode cX1_join 24 = .ok (.return_, 1) := by decide +kernel
noncomputable def f_X1_join (x0 : Nat) (x1 : Int32) (x2 : Int32) (σ : Hp) : Option (Unit × Hp) := gO (getR shC 1 x0 1 σ) fun v1 => gO (aldI shC 0 v1 x1 σ) fun v2 => gO (astI shC 0 v1 x1 (v2 ||| ((1 : Int32) <<< (x2 &&& 31))) σ) fun σ3 => gO (getR shC 1 x0 2 σ3) fun v4 => gO (aldI shC 0 v4 x2 σ3) fun v5 => gO (astI shC 0 v4 x2 (v5 ||| ((1 : Int32) <<< (x1 &&& 31))) σ3) fun σ6 => some ((), σ6)
set_option maxRecDepth 100000 in
set_option maxHeartbeats 4000000 in
theorem t_X1_join {l : Launch} {γ : Gm} {ad : Nat → Nat} {K : Option Value → Hp → Prop} (hc : Cx l γ 1 3 ad shC RX1 cX1_join none K) {x0 : Nat} {x1 : Int32} {x2 : Int32} {σ : Hp} (h : wpO (f_X1_join x0 x1 x2 σ) (KU K)) : WW l γ 1 3 ad shC 0 [(0, .ref (ad x0)), (1, .int x1), (2, .int x2)] [] σ := by
  unfold f_X1_join at h
  refine r_aload_n hc 0 rfl rfl dX1_join_0 ?_
  obtain ⟨v1, ev1, h⟩ := wp_g h
  refine r_getR hc ev1 fl_X1_9 rfl dX1_join_1 ?_
  refine r_iload_n hc 1 rfl rfl dX1_join_4 ?_
  refine r_dup2 hc rfl rfl dX1_join_5 ?_
  obtain ⟨v2, ev2, h⟩ := wp_g h
  refine r_iald hc ev2 dX1_join_6 ?_
  refine r_iconst hc (v := 1) (by decide) dX1_join_7 ?_
  refine r_iload_n hc 2 rfl rfl dX1_join_8 ?_
  refine r_ishl hc dX1_join_9 ?_
  refine r_ior hc dX1_join_10 ?_
  obtain ⟨σ3, eσ3, h⟩ := wp_g h
  refine r_iast hc eσ3 dX1_join_11 ?_
  refine r_aload_n hc 0 rfl rfl dX1_join_12 ?_
  obtain ⟨v4, ev4, h⟩ := wp_g h
  refine r_getR hc ev4 fl_X1_15 rfl dX1_join_13 ?_
  refine r_iload_n hc 2 rfl rfl dX1_join_16 ?_
  refine r_dup2 hc rfl rfl dX1_join_17 ?_
  obtain ⟨v5, ev5, h⟩ := wp_g h
  refine r_iald hc ev5 dX1_join_18 ?_
  refine r_iconst hc (v := 1) (by decide) dX1_join_19 ?_
  refine r_iload_n hc 1 rfl rfl dX1_join_20 ?_
  refine r_ishl hc dX1_join_21 ?_
  refine r_ior hc dX1_join_22 ?_
  obtain ⟨σ6, eσ6, h⟩ := wp_g h
  refine r_iast hc eσ6 dX1_join_23 ?_
  have h := wp_v h
  exact r_vret hc h dX1_join_24
theorem c_X1_join {l : Launch} {x0 : Nat} {x1 : Int32} {x2 : Int32} {σ σ' : Hp} {r : Unit} (h : f_X1_join x0 x1 x2 σ = some (r, σ')) : Mt l yX1_join cX1_join 3 none 1 shC (fun ad => [.ref (ad x0), .int x1, .int x2]) σ (fun ad => none) σ' := mt_i (own := RX1) (by decide) rfl (fun _ => Nat.le_of_ble_eq_true rfl) (fun γ ad K hc hk => t_X1_join hc ⟨_, _, h, hk⟩)

-- NetMaps.has(II)Z
theorem dX6_has_0 : decode cX6_has 0 = .ok (.iload_n 0, 1) := by decide +kernel
theorem dX6_has_1 : decode cX6_has 1 = .ok (.iload_n 1, 1) := by decide +kernel
theorem dX6_has_2 : decode cX6_has 2 = .ok (.ishr, 1) := by decide +kernel
theorem dX6_has_3 : decode cX6_has 3 = .ok (.iconst 1, 1) := by decide +kernel
theorem dX6_has_4 : decode cX6_has 4 = .ok (.iand, 1) := by decide +kernel
theorem dX6_has_5 : decode cX6_has 5 = .ok (.ifCond .eq 7, 3) := by decide +kernel
theorem dX6_has_8 : decode cX6_has 8 = .ok (.iconst 1, 1) := by decide +kernel
theorem dX6_has_9 : decode cX6_has 9 = .ok (.goto 4, 3) := by decide +kernel
theorem dX6_has_12 : decode cX6_has 12 = .ok (.iconst 0, 1) := by decide +kernel
theorem dX6_has_13 : decode cX6_has 13 = .ok (.ireturn, 1) := by decide +kernel
noncomputable def f_X6_has_b13 (s0 : Int32) (σ : Hp) : Option (Int32 × Hp) := gO (zz s0) fun _ => some (s0, σ)
set_option maxRecDepth 100000 in
set_option maxHeartbeats 4000000 in
theorem t_X6_has_b13 {l : Launch} {γ : Gm} {ad : Nat → Nat} {K : Option Value → Hp → Prop} (hc : Cx l γ 1 2 ad shC RX6 cX6_has (some .boolean) K) {s0 : Int32} {σ : Hp} (h : wpO (f_X6_has_b13 s0 σ) (KI K)) : WW l γ 1 2 ad shC 13 [] [.int s0] σ := by
  unfold f_X6_has_b13 at h
  obtain ⟨_, ek1, h⟩ := wp_g h
  have h := wp_v h
  exact r_zret hc h (zz_of ek1) dX6_has_13
noncomputable def f_X6_has (x0 : Int32) (x1 : Int32) (σ : Hp) : Option (Int32 × Hp) := if ((x0 >>> (x1 &&& 31)) &&& 1) = 0 then (f_X6_has_b13 0 σ) else (f_X6_has_b13 1 σ)
set_option maxRecDepth 100000 in
set_option maxHeartbeats 4000000 in
theorem t_X6_has {l : Launch} {γ : Gm} {ad : Nat → Nat} {K : Option Value → Hp → Prop} (hc : Cx l γ 1 2 ad shC RX6 cX6_has (some .boolean) K) {x0 : Int32} {x1 : Int32} {σ : Hp} (h : wpO (f_X6_has x0 x1 σ) (KI K)) : WW l γ 1 2 ad shC 0 [(0, .int x0), (1, .int x1)] [] σ := by
  unfold f_X6_has at h
  refine r_iload_n hc 0 rfl rfl dX6_has_0 ?_
  refine r_iload_n hc 1 rfl rfl dX6_has_1 ?_
  refine r_ishr hc dX6_has_2 ?_
  refine r_iconst hc (v := 1) (by decide) dX6_has_3 ?_
  refine r_iand hc dX6_has_4 ?_
  refine r_if_eq hc (tgt := 12) dX6_has_5 (by decide) (fun c => ?_) (fun c => ?_)
  · have h := wp_t c h
    refine r_iconst hc (v := 0) (by decide) dX6_has_12 ?_
    refine r_sub [] (lv' := []) rfl ?_
    exact t_X6_has_b13 hc h
  · have h := wp_f c h
    refine r_iconst hc (v := 1) (by decide) dX6_has_8 ?_
    refine r_goto hc (tgt := 13) dX6_has_9 (by decide) ?_
    refine r_sub [] (lv' := []) rfl ?_
    exact t_X6_has_b13 hc h
theorem c_X6_has {l : Launch} {x0 : Int32} {x1 : Int32} {σ σ' : Hp} {r : Int32} (h : f_X6_has x0 x1 σ = some (r, σ')) : Mt l yX6_has cX6_has 2 (some .boolean) 1 shC (fun ad => [.int x0, .int x1]) σ (fun ad => some (.int r)) σ' := mt_i (own := RX6) (by decide) rfl (fun _ => Nat.le_of_ble_eq_true rfl) (fun γ ad K hc hk => t_X6_has hc ⟨_, _, h, hk⟩)

-- NetMaps$Net.joins(II)Z
theorem dX1_joins_0 : decode cX1_joins 0 = .ok (.aload_n 0, 1) := by decide +kernel
theorem dX1_joins_1 : decode cX1_joins 1 = .ok (.getfield 9, 3) := by decide +kernel
theorem dX1_joins_4 : decode cX1_joins 4 = .ok (.iload_n 1, 1) := by decide +kernel
theorem dX1_joins_5 : decode cX1_joins 5 = .ok (.iaload, 1) := by decide +kernel
theorem dX1_joins_6 : decode cX1_joins 6 = .ok (.iload_n 2, 1) := by decide +kernel
theorem dX1_joins_7 : decode cX1_joins 7 = .ok (.invokestatic 26, 3) := by decide +kernel
theorem dX1_joins_10 : decode cX1_joins 10 = .ok (.ireturn, 1) := by decide +kernel
noncomputable def f_X1_joins (x0 : Nat) (x1 : Int32) (x2 : Int32) (σ : Hp) : Option (Int32 × Hp) := gO (getR shC 1 x0 1 σ) fun v1 => gO (aldI shC 0 v1 x1 σ) fun v2 => bO (f_X6_has v2 x2 σ) fun r3 σ4 => gO (zz r3) fun _ => some (r3, σ4)
set_option maxRecDepth 100000 in
set_option maxHeartbeats 4000000 in
theorem t_X1_joins {l : Launch} {γ : Gm} {ad : Nat → Nat} {K : Option Value → Hp → Prop} (hc : Cx l γ 2 3 ad shC RX1 cX1_joins (some .boolean) K) {x0 : Nat} {x1 : Int32} {x2 : Int32} {σ : Hp} (h : wpO (f_X1_joins x0 x1 x2 σ) (KI K)) : WW l γ 2 3 ad shC 0 [(0, .ref (ad x0)), (1, .int x1), (2, .int x2)] [] σ := by
  unfold f_X1_joins at h
  refine r_aload_n hc 0 rfl rfl dX1_joins_0 ?_
  obtain ⟨v1, ev1, h⟩ := wp_g h
  refine r_getR hc ev1 fl_X1_9 rfl dX1_joins_1 ?_
  refine r_iload_n hc 1 rfl rfl dX1_joins_4 ?_
  obtain ⟨v2, ev2, h⟩ := wp_g h
  refine r_iald hc ev2 dX1_joins_5 ?_
  refine r_iload_n hc 2 rfl rfl dX1_joins_6 ?_
  obtain ⟨r3, σ4, er3, h⟩ := wp_b h
  refine r_callSN hc ms_X6_has nl_X1_26 (c_X6_has er3) rfl rfl (by decide) rfl (Nat.le_of_ble_eq_true rfl) dX1_joins_7 ?_
  obtain ⟨_, ek5, h⟩ := wp_g h
  have h := wp_v h
  exact r_zret hc h (zz_of ek5) dX1_joins_10
theorem c_X1_joins {l : Launch} {x0 : Nat} {x1 : Int32} {x2 : Int32} {σ σ' : Hp} {r : Int32} (h : f_X1_joins x0 x1 x2 σ = some (r, σ')) : Mt l yX1_joins cX1_joins 3 (some .boolean) 2 shC (fun ad => [.ref (ad x0), .int x1, .int x2]) σ (fun ad => some (.int r)) σ' := mt_i (own := RX1) (by decide) rfl (fun _ => Nat.le_of_ble_eq_true rfl) (fun γ ad K hc hk => t_X1_joins hc ⟨_, _, h, hk⟩)

-- NetMaps$Reader.readSecond(I)I
theorem dX2_readSecond_0 : decode cX2_readSecond 0 = .ok (.aload_n 0, 1) := by decide +kernel
theorem dX2_readSecond_1 : decode cX2_readSecond 1 = .ok (.iload_n 1, 1) := by decide +kernel
theorem dX2_readSecond_2 : decode cX2_readSecond 2 = .ok (.invokevirtual 33, 3) := by decide +kernel
theorem dX2_readSecond_5 : decode cX2_readSecond 5 = .ok (.istore_n 2, 1) := by decide +kernel
theorem dX2_readSecond_6 : decode cX2_readSecond 6 = .ok (.iload_n 2, 1) := by decide +kernel
theorem dX2_readSecond_7 : decode cX2_readSecond 7 = .ok (.ifCond .eq 5, 3) := by decide +kernel
theorem dX2_readSecond_10 : decode cX2_readSecond 10 = .ok (.iload_n 2, 1) := by decide +kernel
theorem dX2_readSecond_11 : decode cX2_readSecond 11 = .ok (.ireturn, 1) := by decide +kernel
theorem dX2_readSecond_12 : decode cX2_readSecond 12 = .ok (.iload_n 1, 1) := by decide +kernel
theorem dX2_readSecond_13 : decode cX2_readSecond 13 = .ok (.bipush 48, 2) := by decide +kernel
theorem dX2_readSecond_15 : decode cX2_readSecond 15 = .ok (.isub, 1) := by decide +kernel
theorem dX2_readSecond_16 : decode cX2_readSecond 16 = .ok (.istore_n 3, 1) := by decide +kernel
theorem dX2_readSecond_17 : decode cX2_readSecond 17 = .ok (.aload_n 0, 1) := by decide +kernel
theorem dX2_readSecond_18 : decode cX2_readSecond 18 = .ok (.getfield 12, 3) := by decide +kernel
theorem dX2_readSecond_21 : decode cX2_readSecond 21 = .ok (.aload_n 0, 1) := by decide +kernel
theorem dX2_readSecond_22 : decode cX2_readSecond 22 = .ok (.getfield 30, 3) := by decide +kernel
theorem dX2_readSecond_25 : decode cX2_readSecond 25 = .ok (.iload_n 3, 1) := by decide +kernel
theorem dX2_readSecond_26 : decode cX2_readSecond 26 = .ok (.invokevirtual 47, 3) := by decide +kernel
theorem dX2_readSecond_29 : decode cX2_readSecond 29 = .ok (.ifCond .eq 27, 3) := by decide +kernel
theorem dX2_readSecond_32 : decode cX2_readSecond 32 = .ok (.aload_n 0, 1) := by decide +kernel
theorem dX2_readSecond_33 : decode cX2_readSecond 33 = .ok (.getfield 36, 3) := by decide +kernel
theorem dX2_readSecond_36 : decode cX2_readSecond 36 = .ok (.ifCond .eq 18, 3) := by decide +kernel
theorem dX2_readSecond_39 : decode cX2_readSecond 39 = .ok (.aload_n 0, 1) := by decide +kernel
theorem dX2_readSecond_40 : decode cX2_readSecond 40 = .ok (.getfield 12, 3) := by decide +kernel
theorem dX2_readSecond_43 : decode cX2_readSecond 43 = .ok (.iload_n 3, 1) := by decide +kernel
theorem dX2_readSecond_44 : decode cX2_readSecond 44 = .ok (.aload_n 0, 1) := by decide +kernel
theorem dX2_readSecond_45 : decode cX2_readSecond 45 = .ok (.getfield 30, 3) := by decide +kernel
theorem dX2_readSecond_48 : decode cX2_readSecond 48 = .ok (.invokevirtual 47, 3) := by decide +kernel
theorem dX2_readSecond_51 : decode cX2_readSecond 51 = .ok (.ifCond .eq 5, 3) := by decide +kernel
theorem dX2_readSecond_54 : decode cX2_readSecond 54 = .ok (.iconst 3, 1) := by decide +kernel
theorem dX2_readSecond_55 : decode cX2_readSecond 55 = .ok (.ireturn, 1) := by decide +kernel
theorem dX2_readSecond_56 : decode cX2_readSecond 56 = .ok (.aload_n 0, 1) := by decide +kernel
theorem dX2_readSecond_57 : decode cX2_readSecond 57 = .ok (.getfield 12, 3) := by decide +kernel
theorem dX2_readSecond_60 : decode cX2_readSecond 60 = .ok (.aload_n 0, 1) := by decide +kernel
theorem dX2_readSecond_61 : decode cX2_readSecond 61 = .ok (.getfield 30, 3) := by decide +kernel
theorem dX2_readSecond_64 : decode cX2_readSecond 64 = .ok (.iload_n 3, 1) := by decide +kernel
theorem dX2_readSecond_65 : decode cX2_readSecond 65 = .ok (.invokevirtual 51, 3) := by decide +kernel
theorem dX2_readSecond_68 : decode cX2_readSecond 68 = .ok (.aload_n 0, 1) := by decide +kernel
theorem dX2_readSecond_69 : decode cX2_readSecond 69 = .ok (.getfield 36, 3) := by decide +kernel
theorem dX2_readSecond_72 : decode cX2_readSecond 72 = .ok (.ifCond .eq 15, 3) := by decide +kernel
theorem dX2_readSecond_75 : decode cX2_readSecond 75 = .ok (.aload_n 0, 1) := by decide +kernel
theorem dX2_readSecond_76 : decode cX2_readSecond 76 = .ok (.getfield 12, 3) := by decide +kernel
theorem dX2_readSecond_79 : decode cX2_readSecond 79 = .ok (.iload_n 3, 1) := by decide +kernel
theorem dX2_readSecond_80 : decode cX2_readSecond 80 = .ok (.aload_n 0, 1) := by decide +kernel
theorem dX2_readSecond_81 : decode cX2_readSecond 81 = .ok (.getfield 30, 3) := by decide +kernel
theorem dX2_readSecond_84 : decode cX2_readSecond 84 = .ok (.invokevirtual 51, 3) := by decide +kernel
theorem dX2_readSecond_87 : decode cX2_readSecond 87 = .ok (.aload_n 0, 1) := by decide +kernel
theorem dX2_readSecond_88 : decode cX2_readSecond 88 = .ok (.iconst 2, 1) := by decide +kernel
theorem dX2_readSecond_89 : decode cX2_readSecond 89 = .ok (.putfield 22, 3) := by decide +kernel
theorem dX2_readSecond_92 : decode cX2_readSecond 92 = .ok (.iconst 0, 1) := by decide +kernel
theorem dX2_readSecond_93 : decode cX2_readSecond 93 = .ok (.ireturn, 1) := by decide +kernel
noncomputable def f_X2_readSecond_b87 (x0 : Nat) (σ : Hp) : Option (Int32 × Hp) := gO (putI shC 2 x0 1 2 σ) fun σ1 => some (0, σ1)
set_option maxRecDepth 100000 in
set_option maxHeartbeats 4000000 in
theorem t_X2_readSecond_b87 {l : Launch} {γ : Gm} {ad : Nat → Nat} {K : Option Value → Hp → Prop} (hc : Cx l γ 3 4 ad shC RX2 cX2_readSecond (some .int) K) {x0 : Nat} {σ : Hp} (h : wpO (f_X2_readSecond_b87 x0 σ) (KI K)) : WW l γ 3 4 ad shC 87 [(0, .ref (ad x0))] [] σ := by
  unfold f_X2_readSecond_b87 at h
  refine r_aload_n hc 0 rfl rfl dX2_readSecond_87 ?_
  refine r_iconst hc (v := 2) (by decide) dX2_readSecond_88 ?_
  obtain ⟨σ1, eσ1, h⟩ := wp_g h
  refine r_putI hc eσ1 fp_X2_22 rfl dX2_readSecond_89 ?_
  refine r_iconst hc (v := 0) (by decide) dX2_readSecond_92 ?_
  have h := wp_v h
  exact r_iret hc h dX2_readSecond_93
noncomputable def f_X2_readSecond_b56 (x0 : Nat) (x3 : Int32) (σ : Hp) : Option (Int32 × Hp) := gO (getR shC 2 x0 0 σ) fun v1 => gO (getI shC 2 x0 2 σ) fun v2 => gO (chk shC v1 1) fun _ => bO (f_X1_join v1 v2 x3 σ) fun _ σ4 => gO (getI shC 2 x0 3 σ4) fun v6 => if v6 = 0 then (f_X2_readSecond_b87 x0 σ4) else (gO (getR shC 2 x0 0 σ4) fun v7 => gO (getI shC 2 x0 2 σ4) fun v8 => gO (chk shC v7 1) fun _ => bO (f_X1_join v7 x3 v8 σ4) fun _ σ10 => f_X2_readSecond_b87 x0 σ10)
set_option maxRecDepth 100000 in
set_option maxHeartbeats 4000000 in
theorem t_X2_readSecond_b56 {l : Launch} {γ : Gm} {ad : Nat → Nat} {K : Option Value → Hp → Prop} (hc : Cx l γ 3 4 ad shC RX2 cX2_readSecond (some .int) K) {x0 : Nat} {x3 : Int32} {σ : Hp} (h : wpO (f_X2_readSecond_b56 x0 x3 σ) (KI K)) : WW l γ 3 4 ad shC 56 [(0, .ref (ad x0)), (3, .int x3)] [] σ := by
  unfold f_X2_readSecond_b56 at h
  refine r_aload_n hc 0 rfl rfl dX2_readSecond_56 ?_
  obtain ⟨v1, ev1, h⟩ := wp_g h
  refine r_getR hc ev1 fl_X2_12 rfl dX2_readSecond_57 ?_
  refine r_aload_n hc 0 rfl rfl dX2_readSecond_60 ?_
  obtain ⟨v2, ev2, h⟩ := wp_g h
  refine r_getI hc ev2 fl_X2_30 rfl dX2_readSecond_61 ?_
  refine r_iload_n hc 1 rfl rfl dX2_readSecond_64 ?_
  obtain ⟨_, ek5, h⟩ := wp_g h
  obtain ⟨_, σ4, er3, h⟩ := wp_b h
  refine r_callV hc (k0 := v1) mv_X1_join ml_X2_51 (c_X1_join er3) (chk_of ek5) cls_1.1 rfl rfl rfl (by decide) rfl (Nat.le_of_ble_eq_true rfl) dX2_readSecond_65 ?_
  refine r_aload_n hc 0 rfl rfl dX2_readSecond_68 ?_
  obtain ⟨v6, ev6, h⟩ := wp_g h
  refine r_getI hc ev6 fl_X2_36 rfl dX2_readSecond_69 ?_
  refine r_if_eq hc (tgt := 87) dX2_readSecond_72 (by decide) (fun c => ?_) (fun c => ?_)
  · have h := wp_t c h
    refine r_sub [0] (lv' := [(0, .ref (ad x0))]) rfl ?_
    exact t_X2_readSecond_b87 hc h
  · have h := wp_f c h
    refine r_aload_n hc 0 rfl rfl dX2_readSecond_75 ?_
    obtain ⟨v7, ev7, h⟩ := wp_g h
    refine r_getR hc ev7 fl_X2_12 rfl dX2_readSecond_76 ?_
    refine r_iload_n hc 1 rfl rfl dX2_readSecond_79 ?_
    refine r_aload_n hc 0 rfl rfl dX2_readSecond_80 ?_
    obtain ⟨v8, ev8, h⟩ := wp_g h
    refine r_getI hc ev8 fl_X2_30 rfl dX2_readSecond_81 ?_
    obtain ⟨_, ek11, h⟩ := wp_g h
    obtain ⟨_, σ10, er9, h⟩ := wp_b h
    refine r_callV hc (k0 := v7) mv_X1_join ml_X2_51 (c_X1_join er9) (chk_of ek11) cls_1.1 rfl rfl rfl (by decide) rfl (Nat.le_of_ble_eq_true rfl) dX2_readSecond_84 ?_
    refine r_sub [0] (lv' := [(0, .ref (ad x0))]) rfl ?_
    exact t_X2_readSecond_b87 hc h
noncomputable def f_X2_readSecond_b54  (σ : Hp) : Option (Int32 × Hp) := some (3, σ)
set_option maxRecDepth 100000 in
set_option maxHeartbeats 4000000 in
theorem t_X2_readSecond_b54 {l : Launch} {γ : Gm} {ad : Nat → Nat} {K : Option Value → Hp → Prop} (hc : Cx l γ 3 4 ad shC RX2 cX2_readSecond (some .int) K)  {σ : Hp} (h : wpO (f_X2_readSecond_b54  σ) (KI K)) : WW l γ 3 4 ad shC 54 [] [] σ := by
  unfold f_X2_readSecond_b54 at h
  refine r_iconst hc (v := 3) (by decide) dX2_readSecond_54 ?_
  have h := wp_v h
  exact r_iret hc h dX2_readSecond_55
noncomputable def f_X2_readSecond (x0 : Nat) (x1 : Int32) (σ : Hp) : Option (Int32 × Hp) := gO (chk shC x0 2) fun _ => bO (f_X2_nodeFault x0 x1 σ) fun r1 σ2 => if r1 = 0 then (gO (getR shC 2 x0 0 σ2) fun v4 => gO (getI shC 2 x0 2 σ2) fun v5 => gO (chk shC v4 1) fun _ => bO (f_X1_joins v4 v5 (x1 - 48) σ2) fun r6 σ7 => if r6 = 0 then (f_X2_readSecond_b56 x0 (x1 - 48) σ7) else (gO (getI shC 2 x0 3 σ7) fun v9 => if v9 = 0 then (f_X2_readSecond_b54  σ7) else (gO (getR shC 2 x0 0 σ7) fun v10 => gO (getI shC 2 x0 2 σ7) fun v11 => gO (chk shC v10 1) fun _ => bO (f_X1_joins v10 (x1 - 48) v11 σ7) fun r12 σ13 => if r12 = 0 then (f_X2_readSecond_b56 x0 (x1 - 48) σ13) else (f_X2_readSecond_b54  σ13)))) else (some (r1, σ2))
set_option maxRecDepth 100000 in
set_option maxHeartbeats 4000000 in
theorem t_X2_readSecond {l : Launch} {γ : Gm} {ad : Nat → Nat} {K : Option Value → Hp → Prop} (hc : Cx l γ 3 4 ad shC RX2 cX2_readSecond (some .int) K) {x0 : Nat} {x1 : Int32} {σ : Hp} (h : wpO (f_X2_readSecond x0 x1 σ) (KI K)) : WW l γ 3 4 ad shC 0 [(0, .ref (ad x0)), (1, .int x1)] [] σ := by
  unfold f_X2_readSecond at h
  refine r_aload_n hc 0 rfl rfl dX2_readSecond_0 ?_
  refine r_iload_n hc 1 rfl rfl dX2_readSecond_1 ?_
  obtain ⟨_, ek3, h⟩ := wp_g h
  obtain ⟨r1, σ2, er1, h⟩ := wp_b h
  refine r_callV hc (k0 := x0) mv_X2_nodeFault ml_X2_33 (c_X2_nodeFault er1) (chk_of ek3) cls_2.1 rfl rfl rfl (by decide) rfl (Nat.le_of_ble_eq_true rfl) dX2_readSecond_2 ?_
  refine r_istore_nE hc (i := 2) (lv' := [(2, .int r1), (0, .ref (ad x0)), (1, .int x1)]) rfl rfl (by decide) rfl dX2_readSecond_5 ?_
  refine r_iload_n hc 0 rfl rfl dX2_readSecond_6 ?_
  refine r_if_eq hc (tgt := 12) dX2_readSecond_7 (by decide) (fun c => ?_) (fun c => ?_)
  · have h := wp_t c h
    refine r_iload_n hc 2 rfl rfl dX2_readSecond_12 ?_
    refine r_bipush hc (v := 48) (by decide) dX2_readSecond_13 ?_
    refine r_isub hc dX2_readSecond_15 ?_
    refine r_istore_nE hc (i := 3) (lv' := [(3, .int (x1 - 48)), (2, .int r1), (0, .ref (ad x0)), (1, .int x1)]) rfl rfl (by decide) rfl dX2_readSecond_16 ?_
    refine r_aload_n hc 2 rfl rfl dX2_readSecond_17 ?_
    obtain ⟨v4, ev4, h⟩ := wp_g h
    refine r_getR hc ev4 fl_X2_12 rfl dX2_readSecond_18 ?_
    refine r_aload_n hc 2 rfl rfl dX2_readSecond_21 ?_
    obtain ⟨v5, ev5, h⟩ := wp_g h
    refine r_getI hc ev5 fl_X2_30 rfl dX2_readSecond_22 ?_
    refine r_iload_n hc 0 rfl rfl dX2_readSecond_25 ?_
    obtain ⟨_, ek8, h⟩ := wp_g h
    obtain ⟨r6, σ7, er6, h⟩ := wp_b h
    refine r_callV hc (k0 := v4) mv_X1_joins ml_X2_47 (c_X1_joins er6) (chk_of ek8) cls_1.1 rfl rfl rfl (by decide) rfl (Nat.le_of_ble_eq_true rfl) dX2_readSecond_26 ?_
    refine r_if_eq hc (tgt := 56) dX2_readSecond_29 (by decide) (fun c => ?_) (fun c => ?_)
    · have h := wp_t c h
      refine r_sub [2, 0] (lv' := [(0, .ref (ad x0)), (3, .int (x1 - 48))]) rfl ?_
      exact t_X2_readSecond_b56 hc h
    · have h := wp_f c h
      refine r_aload_n hc 2 rfl rfl dX2_readSecond_32 ?_
      obtain ⟨v9, ev9, h⟩ := wp_g h
      refine r_getI hc ev9 fl_X2_36 rfl dX2_readSecond_33 ?_
      refine r_if_eq hc (tgt := 54) dX2_readSecond_36 (by decide) (fun c => ?_) (fun c => ?_)
      · have h := wp_t c h
        refine r_sub [] (lv' := []) rfl ?_
        exact t_X2_readSecond_b54 hc h
      · have h := wp_f c h
        refine r_aload_n hc 2 rfl rfl dX2_readSecond_39 ?_
        obtain ⟨v10, ev10, h⟩ := wp_g h
        refine r_getR hc ev10 fl_X2_12 rfl dX2_readSecond_40 ?_
        refine r_iload_n hc 0 rfl rfl dX2_readSecond_43 ?_
        refine r_aload_n hc 2 rfl rfl dX2_readSecond_44 ?_
        obtain ⟨v11, ev11, h⟩ := wp_g h
        refine r_getI hc ev11 fl_X2_30 rfl dX2_readSecond_45 ?_
        obtain ⟨_, ek14, h⟩ := wp_g h
        obtain ⟨r12, σ13, er12, h⟩ := wp_b h
        refine r_callV hc (k0 := v10) mv_X1_joins ml_X2_47 (c_X1_joins er12) (chk_of ek14) cls_1.1 rfl rfl rfl (by decide) rfl (Nat.le_of_ble_eq_true rfl) dX2_readSecond_48 ?_
        refine r_if_eq hc (tgt := 56) dX2_readSecond_51 (by decide) (fun c => ?_) (fun c => ?_)
        · have h := wp_t c h
          refine r_sub [2, 0] (lv' := [(0, .ref (ad x0)), (3, .int (x1 - 48))]) rfl ?_
          exact t_X2_readSecond_b56 hc h
        · have h := wp_f c h
          refine r_sub [] (lv' := []) rfl ?_
          exact t_X2_readSecond_b54 hc h
  · have h := wp_f c h
    refine r_iload_n hc 0 rfl rfl dX2_readSecond_10 ?_
    have h := wp_v h
    exact r_iret hc h dX2_readSecond_11
theorem c_X2_readSecond {l : Launch} {x0 : Nat} {x1 : Int32} {σ σ' : Hp} {r : Int32} (h : f_X2_readSecond x0 x1 σ = some (r, σ')) : Mt l yX2_readSecond cX2_readSecond 4 (some .int) 3 shC (fun ad => [.ref (ad x0), .int x1]) σ (fun ad => some (.int r)) σ' := mt_i (own := RX2) (by decide) rfl (fun _ => Nat.le_of_ble_eq_true rfl) (fun γ ad K hc hk => t_X2_readSecond hc ⟨_, _, h, hk⟩)

-- NetMaps$Reader.faultOf(I)I
theorem dX2_faultOf_0 : decode cX2_faultOf 0 = .ok (.iload_n 1, 1) := by decide +kernel
theorem dX2_faultOf_1 : decode cX2_faultOf 1 = .ok (.bipush 32, 2) := by decide +kernel
theorem dX2_faultOf_3 : decode cX2_faultOf 3 = .ok (.if_icmp .ne 5, 3) := by decide +kernel
theorem dX2_faultOf_6 : decode cX2_faultOf 6 = .ok (.iconst 0, 1) := by decide +kernel
theorem dX2_faultOf_7 : decode cX2_faultOf 7 = .ok (.ireturn, 1) := by decide +kernel
theorem dX2_faultOf_8 : decode cX2_faultOf 8 = .ok (.aload_n 0, 1) := by decide +kernel
theorem dX2_faultOf_9 : decode cX2_faultOf 9 = .ok (.getfield 22, 3) := by decide +kernel
theorem dX2_faultOf_12 : decode cX2_faultOf 12 = .ok (.tableswitch 113 0 3 #[32, 38, 55, 74], 32) := by decide +kernel
theorem dX2_faultOf_44 : decode cX2_faultOf 44 = .ok (.aload_n 0, 1) := by decide +kernel
theorem dX2_faultOf_45 : decode cX2_faultOf 45 = .ok (.iload_n 1, 1) := by decide +kernel
theorem dX2_faultOf_46 : decode cX2_faultOf 46 = .ok (.invokevirtual 26, 3) := by decide +kernel
theorem dX2_faultOf_49 : decode cX2_faultOf 49 = .ok (.ireturn, 1) := by decide +kernel
theorem dX2_faultOf_50 : decode cX2_faultOf 50 = .ok (.aload_n 0, 1) := by decide +kernel
theorem dX2_faultOf_51 : decode cX2_faultOf 51 = .ok (.iconst 2, 1) := by decide +kernel
theorem dX2_faultOf_52 : decode cX2_faultOf 52 = .ok (.putfield 22, 3) := by decide +kernel
theorem dX2_faultOf_55 : decode cX2_faultOf 55 = .ok (.iload_n 1, 1) := by decide +kernel
theorem dX2_faultOf_56 : decode cX2_faultOf 56 = .ok (.bipush 58, 2) := by decide +kernel
theorem dX2_faultOf_58 : decode cX2_faultOf 58 = .ok (.if_icmp .ne 7, 3) := by decide +kernel
theorem dX2_faultOf_61 : decode cX2_faultOf 61 = .ok (.iconst 0, 1) := by decide +kernel
theorem dX2_faultOf_62 : decode cX2_faultOf 62 = .ok (.goto 4, 3) := by decide +kernel
theorem dX2_faultOf_65 : decode cX2_faultOf 65 = .ok (.iconst 1, 1) := by decide +kernel
theorem dX2_faultOf_66 : decode cX2_faultOf 66 = .ok (.ireturn, 1) := by decide +kernel
theorem dX2_faultOf_67 : decode cX2_faultOf 67 = .ok (.aload_n 0, 1) := by decide +kernel
theorem dX2_faultOf_68 : decode cX2_faultOf 68 = .ok (.iload_n 1, 1) := by decide +kernel
theorem dX2_faultOf_69 : decode cX2_faultOf 69 = .ok (.bipush 48, 2) := by decide +kernel
theorem dX2_faultOf_71 : decode cX2_faultOf 71 = .ok (.isub, 1) := by decide +kernel
theorem dX2_faultOf_72 : decode cX2_faultOf 72 = .ok (.putfield 30, 3) := by decide +kernel
theorem dX2_faultOf_75 : decode cX2_faultOf 75 = .ok (.aload_n 0, 1) := by decide +kernel
theorem dX2_faultOf_76 : decode cX2_faultOf 76 = .ok (.iconst 3, 1) := by decide +kernel
theorem dX2_faultOf_77 : decode cX2_faultOf 77 = .ok (.putfield 22, 3) := by decide +kernel
theorem dX2_faultOf_80 : decode cX2_faultOf 80 = .ok (.aload_n 0, 1) := by decide +kernel
theorem dX2_faultOf_81 : decode cX2_faultOf 81 = .ok (.iload_n 1, 1) := by decide +kernel
theorem dX2_faultOf_82 : decode cX2_faultOf 82 = .ok (.invokevirtual 33, 3) := by decide +kernel
theorem dX2_faultOf_85 : decode cX2_faultOf 85 = .ok (.ireturn, 1) := by decide +kernel
theorem dX2_faultOf_86 : decode cX2_faultOf 86 = .ok (.aload_n 0, 1) := by decide +kernel
theorem dX2_faultOf_87 : decode cX2_faultOf 87 = .ok (.iload_n 1, 1) := by decide +kernel
theorem dX2_faultOf_88 : decode cX2_faultOf 88 = .ok (.bipush 45, 2) := by decide +kernel
theorem dX2_faultOf_90 : decode cX2_faultOf 90 = .ok (.if_icmp .ne 7, 3) := by decide +kernel
theorem dX2_faultOf_93 : decode cX2_faultOf 93 = .ok (.iconst 1, 1) := by decide +kernel
theorem dX2_faultOf_94 : decode cX2_faultOf 94 = .ok (.goto 4, 3) := by decide +kernel
theorem dX2_faultOf_97 : decode cX2_faultOf 97 = .ok (.iconst 0, 1) := by decide +kernel
theorem dX2_faultOf_98 : decode cX2_faultOf 98 = .ok (.putfield 36, 3) := by decide +kernel
theorem dX2_faultOf_101 : decode cX2_faultOf 101 = .ok (.aload_n 0, 1) := by decide +kernel
theorem dX2_faultOf_102 : decode cX2_faultOf 102 = .ok (.iconst 4, 1) := by decide +kernel
theorem dX2_faultOf_103 : decode cX2_faultOf 103 = .ok (.putfield 22, 3) := by decide +kernel
theorem dX2_faultOf_106 : decode cX2_faultOf 106 = .ok (.aload_n 0, 1) := by decide +kernel
theorem dX2_faultOf_107 : decode cX2_faultOf 107 = .ok (.getfield 36, 3) := by decide +kernel
theorem dX2_faultOf_110 : decode cX2_faultOf 110 = .ok (.ifCond .ne 9, 3) := by decide +kernel
theorem dX2_faultOf_113 : decode cX2_faultOf 113 = .ok (.iload_n 1, 1) := by decide +kernel
theorem dX2_faultOf_114 : decode cX2_faultOf 114 = .ok (.bipush 62, 2) := by decide +kernel
theorem dX2_faultOf_116 : decode cX2_faultOf 116 = .ok (.if_icmp .ne 7, 3) := by decide +kernel
theorem dX2_faultOf_119 : decode cX2_faultOf 119 = .ok (.iconst 0, 1) := by decide +kernel
theorem dX2_faultOf_120 : decode cX2_faultOf 120 = .ok (.goto 4, 3) := by decide +kernel
theorem dX2_faultOf_123 : decode cX2_faultOf 123 = .ok (.iconst 1, 1) := by decide +kernel
theorem dX2_faultOf_124 : decode cX2_faultOf 124 = .ok (.ireturn, 1) := by decide +kernel
theorem dX2_faultOf_125 : decode cX2_faultOf 125 = .ok (.aload_n 0, 1) := by decide +kernel
theorem dX2_faultOf_126 : decode cX2_faultOf 126 = .ok (.iload_n 1, 1) := by decide +kernel
theorem dX2_faultOf_127 : decode cX2_faultOf 127 = .ok (.invokevirtual 40, 3) := by decide +kernel
theorem dX2_faultOf_130 : decode cX2_faultOf 130 = .ok (.ireturn, 1) := by decide +kernel
noncomputable def f_X2_faultOf_b66 (s0 : Int32) (σ : Hp) : Option (Int32 × Hp) := some (s0, σ)
set_option maxRecDepth 100000 in
set_option maxHeartbeats 4000000 in
theorem t_X2_faultOf_b66 {l : Launch} {γ : Gm} {ad : Nat → Nat} {K : Option Value → Hp → Prop} (hc : Cx l γ 4 2 ad shC RX2 cX2_faultOf (some .int) K) {s0 : Int32} {σ : Hp} (h : wpO (f_X2_faultOf_b66 s0 σ) (KI K)) : WW l γ 4 2 ad shC 66 [] [.int s0] σ := by
  unfold f_X2_faultOf_b66 at h
  have h := wp_v h
  exact r_iret hc h dX2_faultOf_66
noncomputable def f_X2_faultOf_b124 (s0 : Int32) (σ : Hp) : Option (Int32 × Hp) := some (s0, σ)
set_option maxRecDepth 100000 in
set_option maxHeartbeats 4000000 in
theorem t_X2_faultOf_b124 {l : Launch} {γ : Gm} {ad : Nat → Nat} {K : Option Value → Hp → Prop} (hc : Cx l γ 4 2 ad shC RX2 cX2_faultOf (some .int) K) {s0 : Int32} {σ : Hp} (h : wpO (f_X2_faultOf_b124 s0 σ) (KI K)) : WW l γ 4 2 ad shC 124 [] [.int s0] σ := by
  unfold f_X2_faultOf_b124 at h
  have h := wp_v h
  exact r_iret hc h dX2_faultOf_124
noncomputable def f_X2_faultOf_b119  (σ : Hp) : Option (Int32 × Hp) := f_X2_faultOf_b124 0 σ
set_option maxRecDepth 100000 in
set_option maxHeartbeats 4000000 in
theorem t_X2_faultOf_b119 {l : Launch} {γ : Gm} {ad : Nat → Nat} {K : Option Value → Hp → Prop} (hc : Cx l γ 4 2 ad shC RX2 cX2_faultOf (some .int) K)  {σ : Hp} (h : wpO (f_X2_faultOf_b119  σ) (KI K)) : WW l γ 4 2 ad shC 119 [] [] σ := by
  unfold f_X2_faultOf_b119 at h
  refine r_iconst hc (v := 0) (by decide) dX2_faultOf_119 ?_
  refine r_goto hc (tgt := 124) dX2_faultOf_120 (by decide) ?_
  exact t_X2_faultOf_b124 hc h
noncomputable def f_X2_faultOf_b98 (x0 : Nat) (x1 : Int32) (s0 : Nat) (s1 : Int32) (σ : Hp) : Option (Int32 × Hp) := gO (putZ shC 2 s0 3 s1 σ) fun σ1 => gO (putI shC 2 x0 1 4 σ1) fun σ2 => gO (getI shC 2 x0 3 σ2) fun v3 => if v3 = 0 then (if x1 = 62 then (f_X2_faultOf_b119  σ2) else (f_X2_faultOf_b124 1 σ2)) else (f_X2_faultOf_b119  σ2)
set_option maxRecDepth 100000 in
set_option maxHeartbeats 4000000 in
theorem t_X2_faultOf_b98 {l : Launch} {γ : Gm} {ad : Nat → Nat} {K : Option Value → Hp → Prop} (hc : Cx l γ 4 2 ad shC RX2 cX2_faultOf (some .int) K) {x0 : Nat} {x1 : Int32} {s0 : Nat} {s1 : Int32} {σ : Hp} (h : wpO (f_X2_faultOf_b98 x0 x1 s0 s1 σ) (KI K)) : WW l γ 4 2 ad shC 98 [(0, .ref (ad x0)), (1, .int x1)] [.int s1, .ref (ad s0)] σ := by
  unfold f_X2_faultOf_b98 at h
  obtain ⟨σ1, eσ1, h⟩ := wp_g h
  refine r_putZ hc eσ1 fp_X2_36 rfl dX2_faultOf_98 ?_
  refine r_aload_n hc 0 rfl rfl dX2_faultOf_101 ?_
  refine r_iconst hc (v := 4) (by decide) dX2_faultOf_102 ?_
  obtain ⟨σ2, eσ2, h⟩ := wp_g h
  refine r_putI hc eσ2 fp_X2_22 rfl dX2_faultOf_103 ?_
  refine r_aload_n hc 0 rfl rfl dX2_faultOf_106 ?_
  obtain ⟨v3, ev3, h⟩ := wp_g h
  refine r_getI hc ev3 fl_X2_36 rfl dX2_faultOf_107 ?_
  refine r_if_ne hc (tgt := 119) dX2_faultOf_110 (by decide) (fun c => ?_) (fun c => ?_)
  · have h := wp_f c h
    refine r_sub [] (lv' := []) rfl ?_
    exact t_X2_faultOf_b119 hc h
  · have h := wp_t c h
    refine r_iload_n hc 1 rfl rfl dX2_faultOf_113 ?_
    refine r_bipush hc (v := 62) (by decide) dX2_faultOf_114 ?_
    refine r_icmp_ne hc (tgt := 123) dX2_faultOf_116 (by decide) (fun c => ?_) (fun c => ?_)
    · have h := wp_f c h
      refine r_iconst hc (v := 1) (by decide) dX2_faultOf_123 ?_
      refine r_sub [] (lv' := []) rfl ?_
      exact t_X2_faultOf_b124 hc h
    · have h := wp_t c h
      refine r_sub [] (lv' := []) rfl ?_
      exact t_X2_faultOf_b119 hc h
noncomputable def f_X2_faultOf (x0 : Nat) (x1 : Int32) (σ : Hp) : Option (Int32 × Hp) := if x1 = 32 then (some (0, σ)) else (gO (getI shC 2 x0 1 σ) fun v1 => if v1 = 0 then (gO (chk shC x0 2) fun _ => bO (f_X2_readNodes x0 x1 σ) fun r2 σ3 => some (r2, σ3)) else (if v1 = 1 then (gO (putI shC 2 x0 1 2 σ) fun σ5 => if x1 = 58 then (f_X2_faultOf_b66 0 σ5) else (f_X2_faultOf_b66 1 σ5)) else (if v1 = 2 then (gO (putI shC 2 x0 2 (x1 - 48) σ) fun σ6 => gO (putI shC 2 x0 1 3 σ6) fun σ7 => gO (chk shC x0 2) fun _ => bO (f_X2_nodeFault x0 x1 σ7) fun r8 σ9 => some (r8, σ9)) else (if v1 = 3 then (if x1 = 45 then (f_X2_faultOf_b98 x0 x1 x0 1 σ) else (f_X2_faultOf_b98 x0 x1 x0 0 σ)) else (gO (chk shC x0 2) fun _ => bO (f_X2_readSecond x0 x1 σ) fun r11 σ12 => some (r11, σ12))))))
set_option maxRecDepth 100000 in
set_option maxHeartbeats 4000000 in
theorem t_X2_faultOf {l : Launch} {γ : Gm} {ad : Nat → Nat} {K : Option Value → Hp → Prop} (hc : Cx l γ 4 2 ad shC RX2 cX2_faultOf (some .int) K) {x0 : Nat} {x1 : Int32} {σ : Hp} (h : wpO (f_X2_faultOf x0 x1 σ) (KI K)) : WW l γ 4 2 ad shC 0 [(0, .ref (ad x0)), (1, .int x1)] [] σ := by
  unfold f_X2_faultOf at h
  refine r_iload_n hc 1 rfl rfl dX2_faultOf_0 ?_
  refine r_bipush hc (v := 32) (by decide) dX2_faultOf_1 ?_
  refine r_icmp_ne hc (tgt := 8) dX2_faultOf_3 (by decide) (fun c => ?_) (fun c => ?_)
  · have h := wp_f c h
    refine r_aload_n hc 0 rfl rfl dX2_faultOf_8 ?_
    obtain ⟨v1, ev1, h⟩ := wp_g h
    refine r_getI hc ev1 fl_X2_22 rfl dX2_faultOf_9 ?_
    by_cases c0 : v1 = 0
    · have h := wp_t c0 h
      refine r_tabIn hc (off := 32) (tgt := 44) dX2_faultOf_12 c0 (by decide) (by decide) (by decide) (by decide) ?_
      refine r_aload_n hc 0 rfl rfl dX2_faultOf_44 ?_
      refine r_iload_n hc 1 rfl rfl dX2_faultOf_45 ?_
      obtain ⟨_, ek4, h⟩ := wp_g h
      obtain ⟨r2, σ3, er2, h⟩ := wp_b h
      refine r_callV hc (k0 := x0) mv_X2_readNodes ml_X2_26 (c_X2_readNodes er2) (chk_of ek4) cls_2.1 rfl rfl rfl (by decide) rfl (Nat.le_of_ble_eq_true rfl) dX2_faultOf_46 ?_
      have h := wp_v h
      exact r_iret hc h dX2_faultOf_49
    have h := wp_f c0 h
    by_cases c1 : v1 = 1
    · have h := wp_t c1 h
      refine r_tabIn hc (off := 38) (tgt := 50) dX2_faultOf_12 c1 (by decide) (by decide) (by decide) (by decide) ?_
      refine r_aload_n hc 0 rfl rfl dX2_faultOf_50 ?_
      refine r_iconst hc (v := 2) (by decide) dX2_faultOf_51 ?_
      obtain ⟨σ5, eσ5, h⟩ := wp_g h
      refine r_putI hc eσ5 fp_X2_22 rfl dX2_faultOf_52 ?_
      refine r_iload_n hc 1 rfl rfl dX2_faultOf_55 ?_
      refine r_bipush hc (v := 58) (by decide) dX2_faultOf_56 ?_
      refine r_icmp_ne hc (tgt := 65) dX2_faultOf_58 (by decide) (fun c => ?_) (fun c => ?_)
      · have h := wp_f c h
        refine r_iconst hc (v := 1) (by decide) dX2_faultOf_65 ?_
        refine r_sub [] (lv' := []) rfl ?_
        exact t_X2_faultOf_b66 hc h
      · have h := wp_t c h
        refine r_iconst hc (v := 0) (by decide) dX2_faultOf_61 ?_
        refine r_goto hc (tgt := 66) dX2_faultOf_62 (by decide) ?_
        refine r_sub [] (lv' := []) rfl ?_
        exact t_X2_faultOf_b66 hc h
    have h := wp_f c1 h
    by_cases c2 : v1 = 2
    · have h := wp_t c2 h
      refine r_tabIn hc (off := 55) (tgt := 67) dX2_faultOf_12 c2 (by decide) (by decide) (by decide) (by decide) ?_
      refine r_aload_n hc 0 rfl rfl dX2_faultOf_67 ?_
      refine r_iload_n hc 1 rfl rfl dX2_faultOf_68 ?_
      refine r_bipush hc (v := 48) (by decide) dX2_faultOf_69 ?_
      refine r_isub hc dX2_faultOf_71 ?_
      obtain ⟨σ6, eσ6, h⟩ := wp_g h
      refine r_putI hc eσ6 fp_X2_30 rfl dX2_faultOf_72 ?_
      refine r_aload_n hc 0 rfl rfl dX2_faultOf_75 ?_
      refine r_iconst hc (v := 3) (by decide) dX2_faultOf_76 ?_
      obtain ⟨σ7, eσ7, h⟩ := wp_g h
      refine r_putI hc eσ7 fp_X2_22 rfl dX2_faultOf_77 ?_
      refine r_aload_n hc 0 rfl rfl dX2_faultOf_80 ?_
      refine r_iload_n hc 1 rfl rfl dX2_faultOf_81 ?_
      obtain ⟨_, ek10, h⟩ := wp_g h
      obtain ⟨r8, σ9, er8, h⟩ := wp_b h
      refine r_callV hc (k0 := x0) mv_X2_nodeFault ml_X2_33 (c_X2_nodeFault er8) (chk_of ek10) cls_2.1 rfl rfl rfl (by decide) rfl (Nat.le_of_ble_eq_true rfl) dX2_faultOf_82 ?_
      have h := wp_v h
      exact r_iret hc h dX2_faultOf_85
    have h := wp_f c2 h
    by_cases c3 : v1 = 3
    · have h := wp_t c3 h
      refine r_tabIn hc (off := 74) (tgt := 86) dX2_faultOf_12 c3 (by decide) (by decide) (by decide) (by decide) ?_
      refine r_aload_n hc 0 rfl rfl dX2_faultOf_86 ?_
      refine r_iload_n hc 1 rfl rfl dX2_faultOf_87 ?_
      refine r_bipush hc (v := 45) (by decide) dX2_faultOf_88 ?_
      refine r_icmp_ne hc (tgt := 97) dX2_faultOf_90 (by decide) (fun c => ?_) (fun c => ?_)
      · have h := wp_f c h
        refine r_iconst hc (v := 0) (by decide) dX2_faultOf_97 ?_
        exact t_X2_faultOf_b98 hc h
      · have h := wp_t c h
        refine r_iconst hc (v := 1) (by decide) dX2_faultOf_93 ?_
        refine r_goto hc (tgt := 98) dX2_faultOf_94 (by decide) ?_
        exact t_X2_faultOf_b98 hc h
    have h := wp_f c3 h
    refine r_tabOut hc (tgt := 125) dX2_faultOf_12 (sw_out 0 4 (fun i hi => by rcases (show i = 0 ∨ i = 1 ∨ i = 2 ∨ i = 3 by omega) with rfl | rfl | rfl | rfl <;> assumption)) (by decide) ?_
    refine r_aload_n hc 0 rfl rfl dX2_faultOf_125 ?_
    refine r_iload_n hc 1 rfl rfl dX2_faultOf_126 ?_
    obtain ⟨_, ek13, h⟩ := wp_g h
    obtain ⟨r11, σ12, er11, h⟩ := wp_b h
    refine r_callV hc (k0 := x0) mv_X2_readSecond ml_X2_40 (c_X2_readSecond er11) (chk_of ek13) cls_2.1 rfl rfl rfl (by decide) rfl (Nat.le_of_ble_eq_true rfl) dX2_faultOf_127 ?_
    have h := wp_v h
    exact r_iret hc h dX2_faultOf_130
  · have h := wp_t c h
    refine r_iconst hc (v := 0) (by decide) dX2_faultOf_6 ?_
    have h := wp_v h
    exact r_iret hc h dX2_faultOf_7
theorem c_X2_faultOf {l : Launch} {x0 : Nat} {x1 : Int32} {σ σ' : Hp} {r : Int32} (h : f_X2_faultOf x0 x1 σ = some (r, σ')) : Mt l yX2_faultOf cX2_faultOf 2 (some .int) 4 shC (fun ad => [.ref (ad x0), .int x1]) σ (fun ad => some (.int r)) σ' := mt_i (own := RX2) (by decide) rfl (fun _ => Nat.le_of_ble_eq_true rfl) (fun γ ad K hc hk => t_X2_faultOf hc ⟨_, _, h, hk⟩)

-- NetMaps$Reader.mayEnd()Z
theorem dX2_mayEnd_0 : decode cX2_mayEnd 0 = .ok (.aload_n 0, 1) := by decide +kernel
theorem dX2_mayEnd_1 : decode cX2_mayEnd 1 = .ok (.getfield 22, 3) := by decide +kernel
theorem dX2_mayEnd_4 : decode cX2_mayEnd 4 = .ok (.iconst 2, 1) := by decide +kernel
theorem dX2_mayEnd_5 : decode cX2_mayEnd 5 = .ok (.if_icmp .ne 7, 3) := by decide +kernel
theorem dX2_mayEnd_8 : decode cX2_mayEnd 8 = .ok (.iconst 1, 1) := by decide +kernel
theorem dX2_mayEnd_9 : decode cX2_mayEnd 9 = .ok (.goto 4, 3) := by decide +kernel
theorem dX2_mayEnd_12 : decode cX2_mayEnd 12 = .ok (.iconst 0, 1) := by decide +kernel
theorem dX2_mayEnd_13 : decode cX2_mayEnd 13 = .ok (.ireturn, 1) := by decide +kernel
noncomputable def f_X2_mayEnd_b13 (s0 : Int32) (σ : Hp) : Option (Int32 × Hp) := gO (zz s0) fun _ => some (s0, σ)
set_option maxRecDepth 100000 in
set_option maxHeartbeats 4000000 in
theorem t_X2_mayEnd_b13 {l : Launch} {γ : Gm} {ad : Nat → Nat} {K : Option Value → Hp → Prop} (hc : Cx l γ 1 1 ad shC RX2 cX2_mayEnd (some .boolean) K) {s0 : Int32} {σ : Hp} (h : wpO (f_X2_mayEnd_b13 s0 σ) (KI K)) : WW l γ 1 1 ad shC 13 [] [.int s0] σ := by
  unfold f_X2_mayEnd_b13 at h
  obtain ⟨_, ek1, h⟩ := wp_g h
  have h := wp_v h
  exact r_zret hc h (zz_of ek1) dX2_mayEnd_13
noncomputable def f_X2_mayEnd (x0 : Nat) (σ : Hp) : Option (Int32 × Hp) := gO (getI shC 2 x0 1 σ) fun v1 => if v1 = 2 then (f_X2_mayEnd_b13 1 σ) else (f_X2_mayEnd_b13 0 σ)
set_option maxRecDepth 100000 in
set_option maxHeartbeats 4000000 in
theorem t_X2_mayEnd {l : Launch} {γ : Gm} {ad : Nat → Nat} {K : Option Value → Hp → Prop} (hc : Cx l γ 1 1 ad shC RX2 cX2_mayEnd (some .boolean) K) {x0 : Nat} {σ : Hp} (h : wpO (f_X2_mayEnd x0 σ) (KI K)) : WW l γ 1 1 ad shC 0 [(0, .ref (ad x0))] [] σ := by
  unfold f_X2_mayEnd at h
  refine r_aload_n hc 0 rfl rfl dX2_mayEnd_0 ?_
  obtain ⟨v1, ev1, h⟩ := wp_g h
  refine r_getI hc ev1 fl_X2_22 rfl dX2_mayEnd_1 ?_
  refine r_iconst hc (v := 2) (by decide) dX2_mayEnd_4 ?_
  refine r_icmp_ne hc (tgt := 12) dX2_mayEnd_5 (by decide) (fun c => ?_) (fun c => ?_)
  · have h := wp_f c h
    refine r_iconst hc (v := 0) (by decide) dX2_mayEnd_12 ?_
    refine r_sub [] (lv' := []) rfl ?_
    exact t_X2_mayEnd_b13 hc h
  · have h := wp_t c h
    refine r_iconst hc (v := 1) (by decide) dX2_mayEnd_8 ?_
    refine r_goto hc (tgt := 13) dX2_mayEnd_9 (by decide) ?_
    refine r_sub [] (lv' := []) rfl ?_
    exact t_X2_mayEnd_b13 hc h
theorem c_X2_mayEnd {l : Launch} {x0 : Nat} {σ σ' : Hp} {r : Int32} (h : f_X2_mayEnd x0 σ = some (r, σ')) : Mt l yX2_mayEnd cX2_mayEnd 1 (some .boolean) 1 shC (fun ad => [.ref (ad x0)]) σ (fun ad => some (.int r)) σ' := mt_i (own := RX2) (by decide) rfl (fun _ => Nat.le_of_ble_eq_true rfl) (fun γ ad K hc hk => t_X2_mayEnd hc ⟨_, _, h, hk⟩)

-- NetMaps$Reader.start()V
theorem dX2_start_0 : decode cX2_start 0 = .ok (.aload_n 0, 1) := by decide +kernel
theorem dX2_start_1 : decode cX2_start 1 = .ok (.getfield 12, 3) := by decide +kernel
theorem dX2_start_4 : decode cX2_start 4 = .ok (.iconst 0, 1) := by decide +kernel
theorem dX2_start_5 : decode cX2_start 5 = .ok (.invokevirtual 18, 3) := by decide +kernel
theorem dX2_start_8 : decode cX2_start 8 = .ok (.aload_n 0, 1) := by decide +kernel
theorem dX2_start_9 : decode cX2_start 9 = .ok (.iconst 0, 1) := by decide +kernel
theorem dX2_start_10 : decode cX2_start 10 = .ok (.putfield 22, 3) := by decide +kernel
theorem dX2_start_13 : decode cX2_start 13 = .ok (.return_, 1) := by decide +kernel
noncomputable def f_X2_start (x0 : Nat) (σ : Hp) : Option (Unit × Hp) := gO (getR shC 2 x0 0 σ) fun v1 => gO (chk shC v1 1) fun _ => bO (f_X1_begin v1 0 σ) fun _ σ3 => gO (putI shC 2 x0 1 0 σ3) fun σ5 => some ((), σ5)
set_option maxRecDepth 100000 in
set_option maxHeartbeats 4000000 in
theorem t_X2_start {l : Launch} {γ : Gm} {ad : Nat → Nat} {K : Option Value → Hp → Prop} (hc : Cx l γ 2 1 ad shC RX2 cX2_start none K) {x0 : Nat} {σ : Hp} (h : wpO (f_X2_start x0 σ) (KU K)) : WW l γ 2 1 ad shC 0 [(0, .ref (ad x0))] [] σ := by
  unfold f_X2_start at h
  refine r_aload_n hc 0 rfl rfl dX2_start_0 ?_
  obtain ⟨v1, ev1, h⟩ := wp_g h
  refine r_getR hc ev1 fl_X2_12 rfl dX2_start_1 ?_
  refine r_iconst hc (v := 0) (by decide) dX2_start_4 ?_
  obtain ⟨_, ek4, h⟩ := wp_g h
  obtain ⟨_, σ3, er2, h⟩ := wp_b h
  refine r_callV hc (k0 := v1) mv_X1_begin ml_X2_18 (c_X1_begin er2) (chk_of ek4) cls_1.1 rfl rfl rfl (by decide) rfl (Nat.le_of_ble_eq_true rfl) dX2_start_5 ?_
  refine r_aload_n hc 0 rfl rfl dX2_start_8 ?_
  refine r_iconst hc (v := 0) (by decide) dX2_start_9 ?_
  obtain ⟨σ5, eσ5, h⟩ := wp_g h
  refine r_putI hc eσ5 fp_X2_22 rfl dX2_start_10 ?_
  have h := wp_v h
  exact r_vret hc h dX2_start_13
theorem c_X2_start {l : Launch} {x0 : Nat} {σ σ' : Hp} {r : Unit} (h : f_X2_start x0 σ = some (r, σ')) : Mt l yX2_start cX2_start 1 none 2 shC (fun ad => [.ref (ad x0)]) σ (fun ad => none) σ' := mt_i (own := RX2) (by decide) rfl (fun _ => Nat.le_of_ble_eq_true rfl) (fun γ ad K hc hk => t_X2_start hc ⟨_, _, h, hk⟩)

-- NetMaps.net(II)I
theorem dX6_net_0 : decode cX6_net 0 = .ok (.iload_n 1, 1) := by decide +kernel
theorem dX6_net_1 : decode cX6_net 1 = .ok (.invokestatic 76, 3) := by decide +kernel
theorem dX6_net_4 : decode cX6_net 4 = .ok (.ifCond .ne 22, 3) := by decide +kernel
theorem dX6_net_7 : decode cX6_net 7 = .ok (.iload_n 2, 1) := by decide +kernel
theorem dX6_net_8 : decode cX6_net 8 = .ok (.iconst 1, 1) := by decide +kernel
theorem dX6_net_9 : decode cX6_net 9 = .ok (.if_icmp .lt 17, 3) := by decide +kernel
theorem dX6_net_12 : decode cX6_net 12 = .ok (.iload_n 2, 1) := by decide +kernel
theorem dX6_net_13 : decode cX6_net 13 = .ok (.bipush 80, 2) := by decide +kernel
theorem dX6_net_15 : decode cX6_net 15 = .ok (.if_icmp .gt 11, 3) := by decide +kernel
theorem dX6_net_18 : decode cX6_net 18 = .ok (.iload_n 2, 1) := by decide +kernel
theorem dX6_net_19 : decode cX6_net 19 = .ok (.aload_n 0, 1) := by decide +kernel
theorem dX6_net_20 : decode cX6_net 20 = .ok (.getfield 68, 3) := by decide +kernel
theorem dX6_net_23 : decode cX6_net 23 = .ok (.if_icmp .le 5, 3) := by decide +kernel
theorem dX6_net_26 : decode cX6_net 26 = .ok (.iconst (-1), 1) := by decide +kernel
theorem dX6_net_27 : decode cX6_net 27 = .ok (.ireturn, 1) := by decide +kernel
theorem dX6_net_28 : decode cX6_net 28 = .ok (.aload_n 0, 1) := by decide +kernel
theorem dX6_net_29 : decode cX6_net 29 = .ok (.iconst 0, 1) := by decide +kernel
theorem dX6_net_30 : decode cX6_net 30 = .ok (.putfield 68, 3) := by decide +kernel
theorem dX6_net_33 : decode cX6_net 33 = .ok (.aload_n 0, 1) := by decide +kernel
theorem dX6_net_34 : decode cX6_net 34 = .ok (.getfield 27, 3) := by decide +kernel
theorem dX6_net_37 : decode cX6_net 37 = .ok (.invokevirtual 80, 3) := by decide +kernel
theorem dX6_net_40 : decode cX6_net 40 = .ok (.iconst 0, 1) := by decide +kernel
theorem dX6_net_41 : decode cX6_net 41 = .ok (.istore_n 3, 1) := by decide +kernel
theorem dX6_net_42 : decode cX6_net 42 = .ok (.iload_n 3, 1) := by decide +kernel
theorem dX6_net_43 : decode cX6_net 43 = .ok (.iload_n 2, 1) := by decide +kernel
theorem dX6_net_44 : decode cX6_net 44 = .ok (.if_icmp .ge 38, 3) := by decide +kernel
theorem dX6_net_47 : decode cX6_net 47 = .ok (.aload_n 0, 1) := by decide +kernel
theorem dX6_net_48 : decode cX6_net 48 = .ok (.getfield 27, 3) := by decide +kernel
theorem dX6_net_51 : decode cX6_net 51 = .ok (.aload_n 0, 1) := by decide +kernel
theorem dX6_net_52 : decode cX6_net 52 = .ok (.getfield 20, 3) := by decide +kernel
theorem dX6_net_55 : decode cX6_net 55 = .ok (.iload_n 3, 1) := by decide +kernel
theorem dX6_net_56 : decode cX6_net 56 = .ok (.iaload, 1) := by decide +kernel
theorem dX6_net_57 : decode cX6_net 57 = .ok (.invokevirtual 83, 3) := by decide +kernel
theorem dX6_net_60 : decode cX6_net 60 = .ok (.istore 4, 2) := by decide +kernel
theorem dX6_net_62 : decode cX6_net 62 = .ok (.iload 4, 2) := by decide +kernel
theorem dX6_net_64 : decode cX6_net 64 = .ok (.ifCond .eq 12, 3) := by decide +kernel
theorem dX6_net_67 : decode cX6_net 67 = .ok (.sipush (-1000), 3) := by decide +kernel
theorem dX6_net_70 : decode cX6_net 70 = .ok (.iload 4, 2) := by decide +kernel
theorem dX6_net_72 : decode cX6_net 72 = .ok (.imul, 1) := by decide +kernel
theorem dX6_net_73 : decode cX6_net 73 = .ok (.iload_n 3, 1) := by decide +kernel
theorem dX6_net_74 : decode cX6_net 74 = .ok (.isub, 1) := by decide +kernel
theorem dX6_net_75 : decode cX6_net 75 = .ok (.ireturn, 1) := by decide +kernel
theorem dX6_net_76 : decode cX6_net 76 = .ok (.iinc 3 1, 3) := by decide +kernel
theorem dX6_net_79 : decode cX6_net 79 = .ok (.goto (-37), 3) := by decide +kernel
theorem dX6_net_82 : decode cX6_net 82 = .ok (.aload_n 0, 1) := by decide +kernel
theorem dX6_net_83 : decode cX6_net 83 = .ok (.getfield 27, 3) := by decide +kernel
theorem dX6_net_86 : decode cX6_net 86 = .ok (.invokevirtual 87, 3) := by decide +kernel
theorem dX6_net_89 : decode cX6_net 89 = .ok (.ifCond .ne 9, 3) := by decide +kernel
theorem dX6_net_92 : decode cX6_net 92 = .ok (.sipush (-1000), 3) := by decide +kernel
theorem dX6_net_95 : decode cX6_net 95 = .ok (.iload_n 2, 1) := by decide +kernel
theorem dX6_net_96 : decode cX6_net 96 = .ok (.isub, 1) := by decide +kernel
theorem dX6_net_97 : decode cX6_net 97 = .ok (.ireturn, 1) := by decide +kernel
theorem dX6_net_98 : decode cX6_net 98 = .ok (.aload_n 0, 1) := by decide +kernel
theorem dX6_net_99 : decode cX6_net 99 = .ok (.iload_n 1, 1) := by decide +kernel
theorem dX6_net_100 : decode cX6_net 100 = .ok (.invokevirtual 91, 3) := by decide +kernel
theorem dX6_net_103 : decode cX6_net 103 = .ok (.astore_n 3, 1) := by decide +kernel
theorem dX6_net_104 : decode cX6_net 104 = .ok (.aload_n 3, 1) := by decide +kernel
theorem dX6_net_105 : decode cX6_net 105 = .ok (.aload_n 0, 1) := by decide +kernel
theorem dX6_net_106 : decode cX6_net 106 = .ok (.getfield 27, 3) := by decide +kernel
theorem dX6_net_109 : decode cX6_net 109 = .ok (.getfield 95, 3) := by decide +kernel
theorem dX6_net_112 : decode cX6_net 112 = .ok (.invokevirtual 98, 3) := by decide +kernel
theorem dX6_net_115 : decode cX6_net 115 = .ok (.aload_n 3, 1) := by decide +kernel
theorem dX6_net_116 : decode cX6_net 116 = .ok (.invokevirtual 102, 3) := by decide +kernel
theorem dX6_net_119 : decode cX6_net 119 = .ok (.ireturn, 1) := by decide +kernel
noncomputable def f_X6_net_b26  (σ : Hp) : Option (Int32 × Hp) := some ((-1), σ)
set_option maxRecDepth 100000 in
set_option maxHeartbeats 4000000 in
theorem t_X6_net_b26 {l : Launch} {γ : Gm} {ad : Nat → Nat} {K : Option Value → Hp → Prop} (hc : Cx l γ 5 5 ad shC RX6 cX6_net (some .int) K)  {σ : Hp} (h : wpO (f_X6_net_b26  σ) (KI K)) : WW l γ 5 5 ad shC 26 [] [] σ := by
  unfold f_X6_net_b26 at h
  refine r_iconst hc (v := (-1)) (by decide) dX6_net_26 ?_
  have h := wp_v h
  exact r_iret hc h dX6_net_27
noncomputable def f_X6_net_L42 (x0 : Nat) (x1 : Int32) (x2 : Int32) (v : (Int32)) (σ : Hp) : Option (((Int32) ⊕ ((Int32 × Int32) ⊕ (Unit))) × Hp) := if x2 ≤ v then (some (Sum.inr (Sum.inr ()), σ)) else (gO (getR shC 6 x0 5 σ) fun v1 => gO (getR shC 6 x0 3 σ) fun v2 => gO (aldI shC 0 v2 v σ) fun v3 => gO (chk shC v1 2) fun _ => bO (f_X2_faultOf v1 v3 σ) fun r4 σ5 => if r4 = 0 then (some (Sum.inl (v + 1), σ5)) else (some (Sum.inr (Sum.inl (v, r4)), σ5)))
set_option maxRecDepth 100000 in
set_option maxHeartbeats 4000000 in
theorem t_X6_net_L42 {l : Launch} {γ : Gm} {ad : Nat → Nat} {K : Option Value → Hp → Prop}  (hc : Cx l γ 5 5 ad shC RX6 cX6_net (some .int) K) {x0 : Nat} {x1 : Int32} {x2 : Int32} {v : (Int32)} {σ : Hp} {KX : ((Int32 × Int32) ⊕ (Unit)) → Hp → Prop} (h : wpO (wh (f_X6_net_L42 x0 x1 x2) v σ) KX) (kx67 : ∀ (v : Int32 × Int32) (σ : Hp), KX (Sum.inl v) σ → WW l γ 5 5 ad shC 67 [(3, .int v.1), (4, .int v.2)] [] σ) (kx82 : ∀ (v : Unit) (σ : Hp), KX (Sum.inr v) σ → WW l γ 5 5 ad shC 82 [(0, .ref (ad x0)), (1, .int x1), (2, .int x2)] [] σ) : WW l γ 5 5 ad shC 42 [(0, .ref (ad x0)), (1, .int x1), (2, .int x2), (3, .int v)] [] σ := by
  refine wh_W (P := fun v σ => WW l γ 5 5 ad shC 42 [(0, .ref (ad x0)), (1, .int x1), (2, .int x2), (3, .int v)] [] σ) (fun v σ h => ?_) h
  have kn : ∀ (v : (Int32)) (σ : Hp), WW l γ 5 5 ad shC 42 [(0, .ref (ad x0)), (1, .int x1), (2, .int x2), (3, .int v)] [] σ → WW l γ 5 5 ad shC 42 [(0, .ref (ad x0)), (1, .int x1), (2, .int x2), (3, .int v)] [] σ := fun _ _ h => h
  · unfold f_X6_net_L42 at h
    refine r_iload_n hc 3 rfl rfl dX6_net_42 ?_
    refine r_iload_n hc 2 rfl rfl dX6_net_43 ?_
    refine r_icmp_ge hc (tgt := 82) dX6_net_44 (by decide) (fun c => ?_) (fun c => ?_)
    · have h := wp_t c h
      refine r_sub [0, 1, 2] (lv' := [(0, .ref (ad x0)), (1, .int x1), (2, .int x2)]) rfl ?_
      have h := wp_v h
      exact kx82 () _ h
    · have h := wp_f c h
      refine r_aload_n hc 0 rfl rfl dX6_net_47 ?_
      obtain ⟨v1, ev1, h⟩ := wp_g h
      refine r_getR hc ev1 fl_X6_27 rfl dX6_net_48 ?_
      refine r_aload_n hc 0 rfl rfl dX6_net_51 ?_
      obtain ⟨v2, ev2, h⟩ := wp_g h
      refine r_getR hc ev2 fl_X6_20 rfl dX6_net_52 ?_
      refine r_iload_n hc 3 rfl rfl dX6_net_55 ?_
      obtain ⟨v3, ev3, h⟩ := wp_g h
      refine r_iald hc ev3 dX6_net_56 ?_
      obtain ⟨_, ek6, h⟩ := wp_g h
      obtain ⟨r4, σ5, er4, h⟩ := wp_b h
      refine r_callV hc (k0 := v1) mv_X2_faultOf ml_X6_83 (c_X2_faultOf er4) (chk_of ek6) cls_2.1 rfl rfl rfl (by decide) rfl (Nat.le_of_ble_eq_true rfl) dX6_net_57 ?_
      refine r_istoreE hc (i := 4) (lv' := [(4, .int r4), (0, .ref (ad x0)), (1, .int x1), (2, .int x2), (3, .int v)]) rfl (by decide) rfl dX6_net_60 ?_
      refine r_iload hc 0 rfl dX6_net_62 ?_
      refine r_if_eq hc (tgt := 76) dX6_net_64 (by decide) (fun c => ?_) (fun c => ?_)
      · have h := wp_t c h
        refine r_iincE hc (j := 4) (w := 1) (lv' := [(3, .int (v + 1)), (4, .int r4), (0, .ref (ad x0)), (1, .int x1), (2, .int x2)]) rfl (by decide) rfl (by decide) rfl dX6_net_76 ?_
        refine r_goto hc (tgt := 42) dX6_net_79 (by decide) ?_
        refine r_sub [2, 3, 4, 0] (lv' := [(0, .ref (ad x0)), (1, .int x1), (2, .int x2), (3, .int (v + 1))]) rfl ?_
        have h := wp_v h
        exact kn (v + 1) _ h
      · have h := wp_f c h
        refine r_sub [4, 0] (lv' := [(3, .int v), (4, .int r4)]) rfl ?_
        have h := wp_v h
        exact kx67 (v, r4) _ h
noncomputable def f_X6_net (x0 : Nat) (x1 : Int32) (x2 : Int32) (σ : Hp) : Option (Int32 × Hp) := bO (f_X6_noDrawer x1 σ) fun r1 σ2 => if r1 = 0 then (if x2 < 1 then (f_X6_net_b26  σ2) else (if 80 < x2 then (f_X6_net_b26  σ2) else (gO (getI shC 6 x0 4 σ2) fun v3 => if x2 ≤ v3 then (gO (putI shC 6 x0 4 0 σ2) fun σ4 => gO (getR shC 6 x0 5 σ4) fun v5 => gO (chk shC v5 2) fun _ => bO (f_X2_start v5 σ4) fun _ σ7 => bO (wh (f_X6_net_L42 x0 x1 x2) 0 σ7) fun y9 σ10 => (Sum.elim (fun y9' => (some ((((-1000) * y9'.2) - y9'.1), σ10))) (fun y11 => (gO (getR shC 6 x0 5 σ10) fun v12 => gO (chk shC v12 2) fun _ => bO (f_X2_mayEnd v12 σ10) fun r13 σ14 => if r13 = 0 then (some (((-1000) - x2), σ14)) else (gO (chk shC x0 6) fun _ => bO (f_X6_in x0 x1 σ14) fun r16 σ17 => gO (getR shC 6 x0 5 σ17) fun v19 => gO (getR shC 2 v19 0 σ17) fun v20 => gO (chk shC r16 1) fun _ => bO (f_X1_like r16 v20 σ17) fun _ σ22 => gO (chk shC r16 1) fun _ => bO (f_X1_lines r16 σ22) fun r24 σ25 => some (r24, σ25)))) y9)) else (f_X6_net_b26  σ2)))) else (f_X6_net_b26  σ2)
set_option maxRecDepth 100000 in
set_option maxHeartbeats 4000000 in
theorem t_X6_net {l : Launch} {γ : Gm} {ad : Nat → Nat} {K : Option Value → Hp → Prop} (hc : Cx l γ 5 5 ad shC RX6 cX6_net (some .int) K) {x0 : Nat} {x1 : Int32} {x2 : Int32} {σ : Hp} (h : wpO (f_X6_net x0 x1 x2 σ) (KI K)) : WW l γ 5 5 ad shC 0 [(0, .ref (ad x0)), (1, .int x1), (2, .int x2)] [] σ := by
  unfold f_X6_net at h
  refine r_iload_n hc 1 rfl rfl dX6_net_0 ?_
  obtain ⟨r1, σ2, er1, h⟩ := wp_b h
  refine r_callS hc ms_X6_noDrawer ml_X6_76 (c_X6_noDrawer er1) rfl rfl (by decide) rfl (Nat.le_of_ble_eq_true rfl) dX6_net_1 ?_
  refine r_if_ne hc (tgt := 26) dX6_net_4 (by decide) (fun c => ?_) (fun c => ?_)
  · have h := wp_f c h
    refine r_sub [] (lv' := []) rfl ?_
    exact t_X6_net_b26 hc h
  · have h := wp_t c h
    refine r_iload_n hc 2 rfl rfl dX6_net_7 ?_
    refine r_iconst hc (v := 1) (by decide) dX6_net_8 ?_
    refine r_icmp_lt hc (tgt := 26) dX6_net_9 (by decide) (fun c => ?_) (fun c => ?_)
    · have h := wp_t c h
      refine r_sub [] (lv' := []) rfl ?_
      exact t_X6_net_b26 hc h
    · have h := wp_f c h
      refine r_iload_n hc 2 rfl rfl dX6_net_12 ?_
      refine r_bipush hc (v := 80) (by decide) dX6_net_13 ?_
      refine r_icmp_gt hc (tgt := 26) dX6_net_15 (by decide) (fun c => ?_) (fun c => ?_)
      · have h := wp_t c h
        refine r_sub [] (lv' := []) rfl ?_
        exact t_X6_net_b26 hc h
      · have h := wp_f c h
        refine r_iload_n hc 2 rfl rfl dX6_net_18 ?_
        refine r_aload_n hc 0 rfl rfl dX6_net_19 ?_
        obtain ⟨v3, ev3, h⟩ := wp_g h
        refine r_getI hc ev3 fl_X6_68 rfl dX6_net_20 ?_
        refine r_icmp_le hc (tgt := 28) dX6_net_23 (by decide) (fun c => ?_) (fun c => ?_)
        · have h := wp_t c h
          refine r_aload_n hc 0 rfl rfl dX6_net_28 ?_
          refine r_iconst hc (v := 0) (by decide) dX6_net_29 ?_
          obtain ⟨σ4, eσ4, h⟩ := wp_g h
          refine r_putI hc eσ4 fp_X6_68 rfl dX6_net_30 ?_
          refine r_aload_n hc 0 rfl rfl dX6_net_33 ?_
          obtain ⟨v5, ev5, h⟩ := wp_g h
          refine r_getR hc ev5 fl_X6_27 rfl dX6_net_34 ?_
          obtain ⟨_, ek8, h⟩ := wp_g h
          obtain ⟨_, σ7, er6, h⟩ := wp_b h
          refine r_callV hc (k0 := v5) mv_X2_start ml_X6_80 (c_X2_start er6) (chk_of ek8) cls_2.1 rfl rfl rfl (by decide) rfl (Nat.le_of_ble_eq_true rfl) dX6_net_37 ?_
          refine r_iconst hc (v := 0) (by decide) dX6_net_40 ?_
          refine r_istore_nE hc (i := 3) (lv' := [(3, .int 0), (0, .ref (ad x0)), (1, .int x1), (2, .int x2)]) rfl rfl (by decide) rfl dX6_net_41 ?_
          refine r_sub [1, 2, 3, 0] (lv' := [(0, .ref (ad x0)), (1, .int x1), (2, .int x2), (3, .int 0)]) rfl ?_
          refine t_X6_net_L42 hc (wp_bb h) ?_ ?_
          · intro y9' σ10 h
            have h := wp_sl h
            refine r_sipush hc (v := (-1000)) (by decide) dX6_net_67 ?_
            refine r_iload hc 1 rfl dX6_net_70 ?_
            refine r_imul hc dX6_net_72 ?_
            refine r_iload_n hc 0 rfl rfl dX6_net_73 ?_
            refine r_isub hc dX6_net_74 ?_
            have h := wp_v h
            exact r_iret hc h dX6_net_75
          · intro y11 σ10 h
            have h := wp_sr h
            refine r_aload_n hc 0 rfl rfl dX6_net_82 ?_
            obtain ⟨v12, ev12, h⟩ := wp_g h
            refine r_getR hc ev12 fl_X6_27 rfl dX6_net_83 ?_
            obtain ⟨_, ek15, h⟩ := wp_g h
            obtain ⟨r13, σ14, er13, h⟩ := wp_b h
            refine r_callV hc (k0 := v12) mv_X2_mayEnd ml_X6_87 (c_X2_mayEnd er13) (chk_of ek15) cls_2.1 rfl rfl rfl (by decide) rfl (Nat.le_of_ble_eq_true rfl) dX6_net_86 ?_
            refine r_if_ne hc (tgt := 98) dX6_net_89 (by decide) (fun c => ?_) (fun c => ?_)
            · have h := wp_f c h
              refine r_aload_n hc 0 rfl rfl dX6_net_98 ?_
              refine r_iload_n hc 1 rfl rfl dX6_net_99 ?_
              obtain ⟨_, ek18, h⟩ := wp_g h
              obtain ⟨r16, σ17, er16, h⟩ := wp_b h
              refine r_callV hc (k0 := x0) mv_X6_in ml_X6_91 (c_X6_in er16) (chk_of ek18) cls_6.1 rfl rfl rfl (by decide) rfl (Nat.le_of_ble_eq_true rfl) dX6_net_100 ?_
              refine r_astore_n hc (i := 3) (lv' := [(3, .ref (ad r16)), (0, .ref (ad x0)), (1, .int x1), (2, .int x2)]) rfl (by decide) rfl dX6_net_103 ?_
              refine r_aload_n hc 0 rfl rfl dX6_net_104 ?_
              refine r_aload_n hc 1 rfl rfl dX6_net_105 ?_
              obtain ⟨v19, ev19, h⟩ := wp_g h
              refine r_getR hc ev19 fl_X6_27 rfl dX6_net_106 ?_
              obtain ⟨v20, ev20, h⟩ := wp_g h
              refine r_getR hc ev20 fl_X6_95 rfl dX6_net_109 ?_
              obtain ⟨_, ek23, h⟩ := wp_g h
              obtain ⟨_, σ22, er21, h⟩ := wp_b h
              refine r_callV hc (k0 := r16) mv_X1_like ml_X6_98 (c_X1_like er21) (chk_of ek23) cls_1.1 rfl rfl rfl (by decide) rfl (Nat.le_of_ble_eq_true rfl) dX6_net_112 ?_
              refine r_aload_n hc 0 rfl rfl dX6_net_115 ?_
              obtain ⟨_, ek26, h⟩ := wp_g h
              obtain ⟨r24, σ25, er24, h⟩ := wp_b h
              refine r_callV hc (k0 := r16) mv_X1_lines ml_X6_102 (c_X1_lines er24) (chk_of ek26) cls_1.1 rfl rfl rfl (by decide) rfl (Nat.le_of_ble_eq_true rfl) dX6_net_116 ?_
              have h := wp_v h
              exact r_iret hc h dX6_net_119
            · have h := wp_t c h
              refine r_sipush hc (v := (-1000)) (by decide) dX6_net_92 ?_
              refine r_iload_n hc 2 rfl rfl dX6_net_95 ?_
              refine r_isub hc dX6_net_96 ?_
              have h := wp_v h
              exact r_iret hc h dX6_net_97
        · have h := wp_f c h
          refine r_sub [] (lv' := []) rfl ?_
          exact t_X6_net_b26 hc h
theorem c_X6_net {l : Launch} {x0 : Nat} {x1 : Int32} {x2 : Int32} {σ σ' : Hp} {r : Int32} (h : f_X6_net x0 x1 x2 σ = some (r, σ')) : Mt l yX6_net cX6_net 5 (some .int) 5 shC (fun ad => [.ref (ad x0), .int x1, .int x2]) σ (fun ad => some (.int r)) σ' := mt_i (own := RX6) (by decide) rfl (fun _ => Nat.le_of_ble_eq_true rfl) (fun γ ad K hc hk => t_X6_net hc ⟨_, _, h, hk⟩)

-- NetMaps.put(II)Z
theorem dX6_put_0 : decode cX6_put 0 = .ok (.iload_n 1, 1) := by decide +kernel
theorem dX6_put_1 : decode cX6_put 1 = .ok (.invokestatic 76, 3) := by decide +kernel
theorem dX6_put_4 : decode cX6_put 4 = .ok (.ifCond .ne 14, 3) := by decide +kernel
theorem dX6_put_7 : decode cX6_put 7 = .ok (.iload_n 2, 1) := by decide +kernel
theorem dX6_put_8 : decode cX6_put 8 = .ok (.iconst 1, 1) := by decide +kernel
theorem dX6_put_9 : decode cX6_put 9 = .ok (.if_icmp .lt 9, 3) := by decide +kernel
theorem dX6_put_12 : decode cX6_put 12 = .ok (.iload_n 2, 1) := by decide +kernel
theorem dX6_put_13 : decode cX6_put 13 = .ok (.bipush 7, 2) := by decide +kernel
theorem dX6_put_15 : decode cX6_put 15 = .ok (.if_icmp .le 5, 3) := by decide +kernel
theorem dX6_put_18 : decode cX6_put 18 = .ok (.iconst 0, 1) := by decide +kernel
theorem dX6_put_19 : decode cX6_put 19 = .ok (.ireturn, 1) := by decide +kernel
theorem dX6_put_20 : decode cX6_put 20 = .ok (.aload_n 0, 1) := by decide +kernel
theorem dX6_put_21 : decode cX6_put 21 = .ok (.iload_n 1, 1) := by decide +kernel
theorem dX6_put_22 : decode cX6_put 22 = .ok (.invokevirtual 91, 3) := by decide +kernel
theorem dX6_put_25 : decode cX6_put 25 = .ok (.iload_n 2, 1) := by decide +kernel
theorem dX6_put_26 : decode cX6_put 26 = .ok (.invokevirtual 106, 3) := by decide +kernel
theorem dX6_put_29 : decode cX6_put 29 = .ok (.iconst 1, 1) := by decide +kernel
theorem dX6_put_30 : decode cX6_put 30 = .ok (.ireturn, 1) := by decide +kernel
noncomputable def f_X6_put_b18  (σ : Hp) : Option (Int32 × Hp) := some (0, σ)
set_option maxRecDepth 100000 in
set_option maxHeartbeats 4000000 in
theorem t_X6_put_b18 {l : Launch} {γ : Gm} {ad : Nat → Nat} {K : Option Value → Hp → Prop} (hc : Cx l γ 2 3 ad shC RX6 cX6_put (some .boolean) K)  {σ : Hp} (h : wpO (f_X6_put_b18  σ) (KI K)) : WW l γ 2 3 ad shC 18 [] [] σ := by
  unfold f_X6_put_b18 at h
  refine r_iconst hc (v := 0) (by decide) dX6_put_18 ?_
  have h := wp_v h
  exact r_zret hc h (by decide) dX6_put_19
noncomputable def f_X6_put (x0 : Nat) (x1 : Int32) (x2 : Int32) (σ : Hp) : Option (Int32 × Hp) := bO (f_X6_noDrawer x1 σ) fun r1 σ2 => if r1 = 0 then (if x2 < 1 then (f_X6_put_b18  σ2) else (if x2 ≤ 7 then (gO (chk shC x0 6) fun _ => bO (f_X6_in x0 x1 σ2) fun r3 σ4 => gO (chk shC r3 1) fun _ => bO (f_X1_begin r3 x2 σ4) fun _ σ7 => some (1, σ7)) else (f_X6_put_b18  σ2))) else (f_X6_put_b18  σ2)
set_option maxRecDepth 100000 in
set_option maxHeartbeats 4000000 in
theorem t_X6_put {l : Launch} {γ : Gm} {ad : Nat → Nat} {K : Option Value → Hp → Prop} (hc : Cx l γ 2 3 ad shC RX6 cX6_put (some .boolean) K) {x0 : Nat} {x1 : Int32} {x2 : Int32} {σ : Hp} (h : wpO (f_X6_put x0 x1 x2 σ) (KI K)) : WW l γ 2 3 ad shC 0 [(0, .ref (ad x0)), (1, .int x1), (2, .int x2)] [] σ := by
  unfold f_X6_put at h
  refine r_iload_n hc 1 rfl rfl dX6_put_0 ?_
  obtain ⟨r1, σ2, er1, h⟩ := wp_b h
  refine r_callS hc ms_X6_noDrawer ml_X6_76 (c_X6_noDrawer er1) rfl rfl (by decide) rfl (Nat.le_of_ble_eq_true rfl) dX6_put_1 ?_
  refine r_if_ne hc (tgt := 18) dX6_put_4 (by decide) (fun c => ?_) (fun c => ?_)
  · have h := wp_f c h
    refine r_sub [] (lv' := []) rfl ?_
    exact t_X6_put_b18 hc h
  · have h := wp_t c h
    refine r_iload_n hc 2 rfl rfl dX6_put_7 ?_
    refine r_iconst hc (v := 1) (by decide) dX6_put_8 ?_
    refine r_icmp_lt hc (tgt := 18) dX6_put_9 (by decide) (fun c => ?_) (fun c => ?_)
    · have h := wp_t c h
      refine r_sub [] (lv' := []) rfl ?_
      exact t_X6_put_b18 hc h
    · have h := wp_f c h
      refine r_iload_n hc 2 rfl rfl dX6_put_12 ?_
      refine r_bipush hc (v := 7) (by decide) dX6_put_13 ?_
      refine r_icmp_le hc (tgt := 20) dX6_put_15 (by decide) (fun c => ?_) (fun c => ?_)
      · have h := wp_t c h
        refine r_aload_n hc 0 rfl rfl dX6_put_20 ?_
        refine r_iload_n hc 1 rfl rfl dX6_put_21 ?_
        obtain ⟨_, ek5, h⟩ := wp_g h
        obtain ⟨r3, σ4, er3, h⟩ := wp_b h
        refine r_callV hc (k0 := x0) mv_X6_in ml_X6_91 (c_X6_in er3) (chk_of ek5) cls_6.1 rfl rfl rfl (by decide) rfl (Nat.le_of_ble_eq_true rfl) dX6_put_22 ?_
        refine r_iload_n hc 2 rfl rfl dX6_put_25 ?_
        obtain ⟨_, ek8, h⟩ := wp_g h
        obtain ⟨_, σ7, er6, h⟩ := wp_b h
        refine r_callV hc (k0 := r3) mv_X1_begin ml_X6_106 (c_X1_begin er6) (chk_of ek8) cls_1.1 rfl rfl rfl (by decide) rfl (Nat.le_of_ble_eq_true rfl) dX6_put_26 ?_
        refine r_iconst hc (v := 1) (by decide) dX6_put_29 ?_
        have h := wp_v h
        exact r_zret hc h (by decide) dX6_put_30
      · have h := wp_f c h
        refine r_sub [] (lv' := []) rfl ?_
        exact t_X6_put_b18 hc h
theorem c_X6_put {l : Launch} {x0 : Nat} {x1 : Int32} {x2 : Int32} {σ σ' : Hp} {r : Int32} (h : f_X6_put x0 x1 x2 σ = some (r, σ')) : Mt l yX6_put cX6_put 3 (some .boolean) 2 shC (fun ad => [.ref (ad x0), .int x1, .int x2]) σ (fun ad => some (.int r)) σ' := mt_i (own := RX6) (by decide) rfl (fun _ => Nat.le_of_ble_eq_true rfl) (fun γ ad K hc hk => t_X6_put hc ⟨_, _, h, hk⟩)

-- NetMaps$Net.isEmpty()Z
theorem dX1_isEmpty_0 : decode cX1_isEmpty 0 = .ok (.aload_n 0, 1) := by decide +kernel
theorem dX1_isEmpty_1 : decode cX1_isEmpty 1 = .ok (.getfield 18, 3) := by decide +kernel
theorem dX1_isEmpty_4 : decode cX1_isEmpty 4 = .ok (.iconst 1, 1) := by decide +kernel
theorem dX1_isEmpty_5 : decode cX1_isEmpty 5 = .ok (.if_icmp .ge 7, 3) := by decide +kernel
theorem dX1_isEmpty_8 : decode cX1_isEmpty 8 = .ok (.iconst 1, 1) := by decide +kernel
theorem dX1_isEmpty_9 : decode cX1_isEmpty 9 = .ok (.goto 4, 3) := by decide +kernel
theorem dX1_isEmpty_12 : decode cX1_isEmpty 12 = .ok (.iconst 0, 1) := by decide +kernel
theorem dX1_isEmpty_13 : decode cX1_isEmpty 13 = .ok (.ireturn, 1) := by decide +kernel
noncomputable def f_X1_isEmpty_b13 (s0 : Int32) (σ : Hp) : Option (Int32 × Hp) := gO (zz s0) fun _ => some (s0, σ)
set_option maxRecDepth 100000 in
set_option maxHeartbeats 4000000 in
theorem t_X1_isEmpty_b13 {l : Launch} {γ : Gm} {ad : Nat → Nat} {K : Option Value → Hp → Prop} (hc : Cx l γ 1 1 ad shC RX1 cX1_isEmpty (some .boolean) K) {s0 : Int32} {σ : Hp} (h : wpO (f_X1_isEmpty_b13 s0 σ) (KI K)) : WW l γ 1 1 ad shC 13 [] [.int s0] σ := by
  unfold f_X1_isEmpty_b13 at h
  obtain ⟨_, ek1, h⟩ := wp_g h
  have h := wp_v h
  exact r_zret hc h (zz_of ek1) dX1_isEmpty_13
noncomputable def f_X1_isEmpty (x0 : Nat) (σ : Hp) : Option (Int32 × Hp) := gO (getI shC 1 x0 0 σ) fun v1 => if 1 ≤ v1 then (f_X1_isEmpty_b13 0 σ) else (f_X1_isEmpty_b13 1 σ)
set_option maxRecDepth 100000 in
set_option maxHeartbeats 4000000 in
theorem t_X1_isEmpty {l : Launch} {γ : Gm} {ad : Nat → Nat} {K : Option Value → Hp → Prop} (hc : Cx l γ 1 1 ad shC RX1 cX1_isEmpty (some .boolean) K) {x0 : Nat} {σ : Hp} (h : wpO (f_X1_isEmpty x0 σ) (KI K)) : WW l γ 1 1 ad shC 0 [(0, .ref (ad x0))] [] σ := by
  unfold f_X1_isEmpty at h
  refine r_aload_n hc 0 rfl rfl dX1_isEmpty_0 ?_
  obtain ⟨v1, ev1, h⟩ := wp_g h
  refine r_getI hc ev1 fl_X1_18 rfl dX1_isEmpty_1 ?_
  refine r_iconst hc (v := 1) (by decide) dX1_isEmpty_4 ?_
  refine r_icmp_ge hc (tgt := 12) dX1_isEmpty_5 (by decide) (fun c => ?_) (fun c => ?_)
  · have h := wp_t c h
    refine r_iconst hc (v := 0) (by decide) dX1_isEmpty_12 ?_
    refine r_sub [] (lv' := []) rfl ?_
    exact t_X1_isEmpty_b13 hc h
  · have h := wp_f c h
    refine r_iconst hc (v := 1) (by decide) dX1_isEmpty_8 ?_
    refine r_goto hc (tgt := 13) dX1_isEmpty_9 (by decide) ?_
    refine r_sub [] (lv' := []) rfl ?_
    exact t_X1_isEmpty_b13 hc h
theorem c_X1_isEmpty {l : Launch} {x0 : Nat} {σ σ' : Hp} {r : Int32} (h : f_X1_isEmpty x0 σ = some (r, σ')) : Mt l yX1_isEmpty cX1_isEmpty 1 (some .boolean) 1 shC (fun ad => [.ref (ad x0)]) σ (fun ad => some (.int r)) σ' := mt_i (own := RX1) (by decide) rfl (fun _ => Nat.le_of_ble_eq_true rfl) (fun γ ad K hc hk => t_X1_isEmpty hc ⟨_, _, h, hk⟩)

-- NetMaps.take(I)I
theorem dX6_take_0 : decode cX6_take 0 = .ok (.iload_n 1, 1) := by decide +kernel
theorem dX6_take_1 : decode cX6_take 1 = .ok (.invokestatic 76, 3) := by decide +kernel
theorem dX6_take_4 : decode cX6_take 4 = .ok (.ifCond .eq 5, 3) := by decide +kernel
theorem dX6_take_7 : decode cX6_take 7 = .ok (.iconst (-1), 1) := by decide +kernel
theorem dX6_take_8 : decode cX6_take 8 = .ok (.ireturn, 1) := by decide +kernel
theorem dX6_take_9 : decode cX6_take 9 = .ok (.aload_n 0, 1) := by decide +kernel
theorem dX6_take_10 : decode cX6_take 10 = .ok (.iload_n 1, 1) := by decide +kernel
theorem dX6_take_11 : decode cX6_take 11 = .ok (.invokevirtual 91, 3) := by decide +kernel
theorem dX6_take_14 : decode cX6_take 14 = .ok (.invokevirtual 109, 3) := by decide +kernel
theorem dX6_take_17 : decode cX6_take 17 = .ok (.ifCond .ne 7, 3) := by decide +kernel
theorem dX6_take_20 : decode cX6_take 20 = .ok (.iconst 1, 1) := by decide +kernel
theorem dX6_take_21 : decode cX6_take 21 = .ok (.goto 4, 3) := by decide +kernel
theorem dX6_take_24 : decode cX6_take 24 = .ok (.iconst 0, 1) := by decide +kernel
theorem dX6_take_25 : decode cX6_take 25 = .ok (.istore_n 2, 1) := by decide +kernel
theorem dX6_take_26 : decode cX6_take 26 = .ok (.aload_n 0, 1) := by decide +kernel
theorem dX6_take_27 : decode cX6_take 27 = .ok (.iload_n 1, 1) := by decide +kernel
theorem dX6_take_28 : decode cX6_take 28 = .ok (.invokevirtual 91, 3) := by decide +kernel
theorem dX6_take_31 : decode cX6_take 31 = .ok (.iconst 0, 1) := by decide +kernel
theorem dX6_take_32 : decode cX6_take 32 = .ok (.invokevirtual 106, 3) := by decide +kernel
theorem dX6_take_35 : decode cX6_take 35 = .ok (.iload_n 2, 1) := by decide +kernel
theorem dX6_take_36 : decode cX6_take 36 = .ok (.ifCond .eq 7, 3) := by decide +kernel
theorem dX6_take_39 : decode cX6_take 39 = .ok (.iconst 1, 1) := by decide +kernel
theorem dX6_take_40 : decode cX6_take 40 = .ok (.goto 4, 3) := by decide +kernel
theorem dX6_take_43 : decode cX6_take 43 = .ok (.iconst 0, 1) := by decide +kernel
theorem dX6_take_44 : decode cX6_take 44 = .ok (.ireturn, 1) := by decide +kernel
noncomputable def f_X6_take_b44 (s0 : Int32) (σ : Hp) : Option (Int32 × Hp) := some (s0, σ)
set_option maxRecDepth 100000 in
set_option maxHeartbeats 4000000 in
theorem t_X6_take_b44 {l : Launch} {γ : Gm} {ad : Nat → Nat} {K : Option Value → Hp → Prop} (hc : Cx l γ 2 3 ad shC RX6 cX6_take (some .int) K) {s0 : Int32} {σ : Hp} (h : wpO (f_X6_take_b44 s0 σ) (KI K)) : WW l γ 2 3 ad shC 44 [] [.int s0] σ := by
  unfold f_X6_take_b44 at h
  have h := wp_v h
  exact r_iret hc h dX6_take_44
noncomputable def f_X6_take_b25 (x0 : Nat) (x1 : Int32) (s0 : Int32) (σ : Hp) : Option (Int32 × Hp) := gO (chk shC x0 6) fun _ => bO (f_X6_in x0 x1 σ) fun r1 σ2 => gO (chk shC r1 1) fun _ => bO (f_X1_begin r1 0 σ2) fun _ σ5 => if s0 = 0 then (f_X6_take_b44 0 σ5) else (f_X6_take_b44 1 σ5)
set_option maxRecDepth 100000 in
set_option maxHeartbeats 4000000 in
theorem t_X6_take_b25 {l : Launch} {γ : Gm} {ad : Nat → Nat} {K : Option Value → Hp → Prop} (hc : Cx l γ 2 3 ad shC RX6 cX6_take (some .int) K) {x0 : Nat} {x1 : Int32} {s0 : Int32} {σ : Hp} (h : wpO (f_X6_take_b25 x0 x1 s0 σ) (KI K)) : WW l γ 2 3 ad shC 25 [(0, .ref (ad x0)), (1, .int x1)] [.int s0] σ := by
  unfold f_X6_take_b25 at h
  refine r_istore_nE hc (i := 2) (lv' := [(2, .int s0), (0, .ref (ad x0)), (1, .int x1)]) rfl rfl (by decide) rfl dX6_take_25 ?_
  refine r_aload_n hc 1 rfl rfl dX6_take_26 ?_
  refine r_iload_n hc 2 rfl rfl dX6_take_27 ?_
  obtain ⟨_, ek3, h⟩ := wp_g h
  obtain ⟨r1, σ2, er1, h⟩ := wp_b h
  refine r_callV hc (k0 := x0) mv_X6_in ml_X6_91 (c_X6_in er1) (chk_of ek3) cls_6.1 rfl rfl rfl (by decide) rfl (Nat.le_of_ble_eq_true rfl) dX6_take_28 ?_
  refine r_iconst hc (v := 0) (by decide) dX6_take_31 ?_
  obtain ⟨_, ek6, h⟩ := wp_g h
  obtain ⟨_, σ5, er4, h⟩ := wp_b h
  refine r_callV hc (k0 := r1) mv_X1_begin ml_X6_106 (c_X1_begin er4) (chk_of ek6) cls_1.1 rfl rfl rfl (by decide) rfl (Nat.le_of_ble_eq_true rfl) dX6_take_32 ?_
  refine r_iload_n hc 0 rfl rfl dX6_take_35 ?_
  refine r_if_eq hc (tgt := 43) dX6_take_36 (by decide) (fun c => ?_) (fun c => ?_)
  · have h := wp_t c h
    refine r_iconst hc (v := 0) (by decide) dX6_take_43 ?_
    refine r_sub [] (lv' := []) rfl ?_
    exact t_X6_take_b44 hc h
  · have h := wp_f c h
    refine r_iconst hc (v := 1) (by decide) dX6_take_39 ?_
    refine r_goto hc (tgt := 44) dX6_take_40 (by decide) ?_
    refine r_sub [] (lv' := []) rfl ?_
    exact t_X6_take_b44 hc h
noncomputable def f_X6_take (x0 : Nat) (x1 : Int32) (σ : Hp) : Option (Int32 × Hp) := bO (f_X6_noDrawer x1 σ) fun r1 σ2 => if r1 = 0 then (gO (chk shC x0 6) fun _ => bO (f_X6_in x0 x1 σ2) fun r3 σ4 => gO (chk shC r3 1) fun _ => bO (f_X1_isEmpty r3 σ4) fun r6 σ7 => if r6 = 0 then (f_X6_take_b25 x0 x1 1 σ7) else (f_X6_take_b25 x0 x1 0 σ7)) else (some ((-1), σ2))
set_option maxRecDepth 100000 in
set_option maxHeartbeats 4000000 in
theorem t_X6_take {l : Launch} {γ : Gm} {ad : Nat → Nat} {K : Option Value → Hp → Prop} (hc : Cx l γ 2 3 ad shC RX6 cX6_take (some .int) K) {x0 : Nat} {x1 : Int32} {σ : Hp} (h : wpO (f_X6_take x0 x1 σ) (KI K)) : WW l γ 2 3 ad shC 0 [(0, .ref (ad x0)), (1, .int x1)] [] σ := by
  unfold f_X6_take at h
  refine r_iload_n hc 1 rfl rfl dX6_take_0 ?_
  obtain ⟨r1, σ2, er1, h⟩ := wp_b h
  refine r_callS hc ms_X6_noDrawer ml_X6_76 (c_X6_noDrawer er1) rfl rfl (by decide) rfl (Nat.le_of_ble_eq_true rfl) dX6_take_1 ?_
  refine r_if_eq hc (tgt := 9) dX6_take_4 (by decide) (fun c => ?_) (fun c => ?_)
  · have h := wp_t c h
    refine r_aload_n hc 0 rfl rfl dX6_take_9 ?_
    refine r_iload_n hc 1 rfl rfl dX6_take_10 ?_
    obtain ⟨_, ek5, h⟩ := wp_g h
    obtain ⟨r3, σ4, er3, h⟩ := wp_b h
    refine r_callV hc (k0 := x0) mv_X6_in ml_X6_91 (c_X6_in er3) (chk_of ek5) cls_6.1 rfl rfl rfl (by decide) rfl (Nat.le_of_ble_eq_true rfl) dX6_take_11 ?_
    obtain ⟨_, ek8, h⟩ := wp_g h
    obtain ⟨r6, σ7, er6, h⟩ := wp_b h
    refine r_callV hc (k0 := r3) mv_X1_isEmpty ml_X6_109 (c_X1_isEmpty er6) (chk_of ek8) cls_1.1 rfl rfl rfl (by decide) rfl (Nat.le_of_ble_eq_true rfl) dX6_take_14 ?_
    refine r_if_ne hc (tgt := 24) dX6_take_17 (by decide) (fun c => ?_) (fun c => ?_)
    · have h := wp_f c h
      refine r_iconst hc (v := 0) (by decide) dX6_take_24 ?_
      exact t_X6_take_b25 hc h
    · have h := wp_t c h
      refine r_iconst hc (v := 1) (by decide) dX6_take_20 ?_
      refine r_goto hc (tgt := 25) dX6_take_21 (by decide) ?_
      exact t_X6_take_b25 hc h
  · have h := wp_f c h
    refine r_iconst hc (v := (-1)) (by decide) dX6_take_7 ?_
    have h := wp_v h
    exact r_iret hc h dX6_take_8
theorem c_X6_take {l : Launch} {x0 : Nat} {x1 : Int32} {σ σ' : Hp} {r : Int32} (h : f_X6_take x0 x1 σ = some (r, σ')) : Mt l yX6_take cX6_take 3 (some .int) 2 shC (fun ad => [.ref (ad x0), .int x1]) σ (fun ad => some (.int r)) σ' := mt_i (own := RX6) (by decide) rfl (fun _ => Nat.le_of_ble_eq_true rfl) (fun γ ad K hc hk => t_X6_take hc ⟨_, _, h, hk⟩)

-- NetMaps.noNode(II)Z
theorem dX6_noNode_0 : decode cX6_noNode 0 = .ok (.iload_n 1, 1) := by decide +kernel
theorem dX6_noNode_1 : decode cX6_noNode 1 = .ok (.invokestatic 76, 3) := by decide +kernel
theorem dX6_noNode_4 : decode cX6_noNode 4 = .ok (.ifCond .ne 7, 3) := by decide +kernel
theorem dX6_noNode_7 : decode cX6_noNode 7 = .ok (.iload_n 2, 1) := by decide +kernel
theorem dX6_noNode_8 : decode cX6_noNode 8 = .ok (.ifCond .ge 5, 3) := by decide +kernel
theorem dX6_noNode_11 : decode cX6_noNode 11 = .ok (.iconst 1, 1) := by decide +kernel
theorem dX6_noNode_12 : decode cX6_noNode 12 = .ok (.ireturn, 1) := by decide +kernel
theorem dX6_noNode_13 : decode cX6_noNode 13 = .ok (.iload_n 2, 1) := by decide +kernel
theorem dX6_noNode_14 : decode cX6_noNode 14 = .ok (.aload_n 0, 1) := by decide +kernel
theorem dX6_noNode_15 : decode cX6_noNode 15 = .ok (.iload_n 1, 1) := by decide +kernel
theorem dX6_noNode_16 : decode cX6_noNode 16 = .ok (.invokevirtual 91, 3) := by decide +kernel
theorem dX6_noNode_19 : decode cX6_noNode 19 = .ok (.invokevirtual 109, 3) := by decide +kernel
theorem dX6_noNode_22 : decode cX6_noNode 22 = .ok (.ifCond .eq 8, 3) := by decide +kernel
theorem dX6_noNode_25 : decode cX6_noNode 25 = .ok (.bipush 7, 2) := by decide +kernel
theorem dX6_noNode_27 : decode cX6_noNode 27 = .ok (.goto 11, 3) := by decide +kernel
theorem dX6_noNode_30 : decode cX6_noNode 30 = .ok (.aload_n 0, 1) := by decide +kernel
theorem dX6_noNode_31 : decode cX6_noNode 31 = .ok (.iload_n 1, 1) := by decide +kernel
theorem dX6_noNode_32 : decode cX6_noNode 32 = .ok (.invokevirtual 91, 3) := by decide +kernel
theorem dX6_noNode_35 : decode cX6_noNode 35 = .ok (.getfield 126, 3) := by decide +kernel
theorem dX6_noNode_38 : decode cX6_noNode 38 = .ok (.if_icmp .lt 7, 3) := by decide +kernel
theorem dX6_noNode_41 : decode cX6_noNode 41 = .ok (.iconst 1, 1) := by decide +kernel
theorem dX6_noNode_42 : decode cX6_noNode 42 = .ok (.goto 4, 3) := by decide +kernel
theorem dX6_noNode_45 : decode cX6_noNode 45 = .ok (.iconst 0, 1) := by decide +kernel
theorem dX6_noNode_46 : decode cX6_noNode 46 = .ok (.ireturn, 1) := by decide +kernel
noncomputable def f_X6_noNode_b11  (σ : Hp) : Option (Int32 × Hp) := some (1, σ)
set_option maxRecDepth 100000 in
set_option maxHeartbeats 4000000 in
theorem t_X6_noNode_b11 {l : Launch} {γ : Gm} {ad : Nat → Nat} {K : Option Value → Hp → Prop} (hc : Cx l γ 2 3 ad shC RX6 cX6_noNode (some .boolean) K)  {σ : Hp} (h : wpO (f_X6_noNode_b11  σ) (KI K)) : WW l γ 2 3 ad shC 11 [] [] σ := by
  unfold f_X6_noNode_b11 at h
  refine r_iconst hc (v := 1) (by decide) dX6_noNode_11 ?_
  have h := wp_v h
  exact r_zret hc h (by decide) dX6_noNode_12
noncomputable def f_X6_noNode_b46 (s0 : Int32) (σ : Hp) : Option (Int32 × Hp) := gO (zz s0) fun _ => some (s0, σ)
set_option maxRecDepth 100000 in
set_option maxHeartbeats 4000000 in
theorem t_X6_noNode_b46 {l : Launch} {γ : Gm} {ad : Nat → Nat} {K : Option Value → Hp → Prop} (hc : Cx l γ 2 3 ad shC RX6 cX6_noNode (some .boolean) K) {s0 : Int32} {σ : Hp} (h : wpO (f_X6_noNode_b46 s0 σ) (KI K)) : WW l γ 2 3 ad shC 46 [] [.int s0] σ := by
  unfold f_X6_noNode_b46 at h
  obtain ⟨_, ek1, h⟩ := wp_g h
  have h := wp_v h
  exact r_zret hc h (zz_of ek1) dX6_noNode_46
noncomputable def f_X6_noNode_b38 (s0 : Int32) (s1 : Int32) (σ : Hp) : Option (Int32 × Hp) := if s0 < s1 then (f_X6_noNode_b46 0 σ) else (f_X6_noNode_b46 1 σ)
set_option maxRecDepth 100000 in
set_option maxHeartbeats 4000000 in
theorem t_X6_noNode_b38 {l : Launch} {γ : Gm} {ad : Nat → Nat} {K : Option Value → Hp → Prop} (hc : Cx l γ 2 3 ad shC RX6 cX6_noNode (some .boolean) K) {s0 : Int32} {s1 : Int32} {σ : Hp} (h : wpO (f_X6_noNode_b38 s0 s1 σ) (KI K)) : WW l γ 2 3 ad shC 38 [] [.int s1, .int s0] σ := by
  unfold f_X6_noNode_b38 at h
  refine r_icmp_lt hc (tgt := 45) dX6_noNode_38 (by decide) (fun c => ?_) (fun c => ?_)
  · have h := wp_t c h
    refine r_iconst hc (v := 0) (by decide) dX6_noNode_45 ?_
    exact t_X6_noNode_b46 hc h
  · have h := wp_f c h
    refine r_iconst hc (v := 1) (by decide) dX6_noNode_41 ?_
    refine r_goto hc (tgt := 46) dX6_noNode_42 (by decide) ?_
    exact t_X6_noNode_b46 hc h
noncomputable def f_X6_noNode (x0 : Nat) (x1 : Int32) (x2 : Int32) (σ : Hp) : Option (Int32 × Hp) := bO (f_X6_noDrawer x1 σ) fun r1 σ2 => if r1 = 0 then (if 0 ≤ x2 then (gO (chk shC x0 6) fun _ => bO (f_X6_in x0 x1 σ2) fun r3 σ4 => gO (chk shC r3 1) fun _ => bO (f_X1_isEmpty r3 σ4) fun r6 σ7 => if r6 = 0 then (gO (chk shC x0 6) fun _ => bO (f_X6_in x0 x1 σ7) fun r9 σ10 => gO (getI shC 1 r9 0 σ10) fun v12 => f_X6_noNode_b38 x2 v12 σ10) else (f_X6_noNode_b38 x2 7 σ7)) else (f_X6_noNode_b11  σ2)) else (f_X6_noNode_b11  σ2)
set_option maxRecDepth 100000 in
set_option maxHeartbeats 4000000 in
theorem t_X6_noNode {l : Launch} {γ : Gm} {ad : Nat → Nat} {K : Option Value → Hp → Prop} (hc : Cx l γ 2 3 ad shC RX6 cX6_noNode (some .boolean) K) {x0 : Nat} {x1 : Int32} {x2 : Int32} {σ : Hp} (h : wpO (f_X6_noNode x0 x1 x2 σ) (KI K)) : WW l γ 2 3 ad shC 0 [(0, .ref (ad x0)), (1, .int x1), (2, .int x2)] [] σ := by
  unfold f_X6_noNode at h
  refine r_iload_n hc 1 rfl rfl dX6_noNode_0 ?_
  obtain ⟨r1, σ2, er1, h⟩ := wp_b h
  refine r_callS hc ms_X6_noDrawer ml_X6_76 (c_X6_noDrawer er1) rfl rfl (by decide) rfl (Nat.le_of_ble_eq_true rfl) dX6_noNode_1 ?_
  refine r_if_ne hc (tgt := 11) dX6_noNode_4 (by decide) (fun c => ?_) (fun c => ?_)
  · have h := wp_f c h
    refine r_sub [] (lv' := []) rfl ?_
    exact t_X6_noNode_b11 hc h
  · have h := wp_t c h
    refine r_iload_n hc 2 rfl rfl dX6_noNode_7 ?_
    refine r_if_ge hc (tgt := 13) dX6_noNode_8 (by decide) (fun c => ?_) (fun c => ?_)
    · have h := wp_t c h
      refine r_iload_n hc 2 rfl rfl dX6_noNode_13 ?_
      refine r_aload_n hc 0 rfl rfl dX6_noNode_14 ?_
      refine r_iload_n hc 1 rfl rfl dX6_noNode_15 ?_
      obtain ⟨_, ek5, h⟩ := wp_g h
      obtain ⟨r3, σ4, er3, h⟩ := wp_b h
      refine r_callV hc (k0 := x0) mv_X6_in ml_X6_91 (c_X6_in er3) (chk_of ek5) cls_6.1 rfl rfl rfl (by decide) rfl (Nat.le_of_ble_eq_true rfl) dX6_noNode_16 ?_
      obtain ⟨_, ek8, h⟩ := wp_g h
      obtain ⟨r6, σ7, er6, h⟩ := wp_b h
      refine r_callV hc (k0 := r3) mv_X1_isEmpty ml_X6_109 (c_X1_isEmpty er6) (chk_of ek8) cls_1.1 rfl rfl rfl (by decide) rfl (Nat.le_of_ble_eq_true rfl) dX6_noNode_19 ?_
      refine r_if_eq hc (tgt := 30) dX6_noNode_22 (by decide) (fun c => ?_) (fun c => ?_)
      · have h := wp_t c h
        refine r_aload_n hc 0 rfl rfl dX6_noNode_30 ?_
        refine r_iload_n hc 1 rfl rfl dX6_noNode_31 ?_
        obtain ⟨_, ek11, h⟩ := wp_g h
        obtain ⟨r9, σ10, er9, h⟩ := wp_b h
        refine r_callV hc (k0 := x0) mv_X6_in ml_X6_91 (c_X6_in er9) (chk_of ek11) cls_6.1 rfl rfl rfl (by decide) rfl (Nat.le_of_ble_eq_true rfl) dX6_noNode_32 ?_
        obtain ⟨v12, ev12, h⟩ := wp_g h
        refine r_getI hc ev12 fl_X6_126 rfl dX6_noNode_35 ?_
        refine r_sub [] (lv' := []) rfl ?_
        exact t_X6_noNode_b38 hc h
      · have h := wp_f c h
        refine r_bipush hc (v := 7) (by decide) dX6_noNode_25 ?_
        refine r_goto hc (tgt := 38) dX6_noNode_27 (by decide) ?_
        refine r_sub [] (lv' := []) rfl ?_
        exact t_X6_noNode_b38 hc h
    · have h := wp_f c h
      refine r_sub [] (lv' := []) rfl ?_
      exact t_X6_noNode_b11 hc h
theorem c_X6_noNode {l : Launch} {x0 : Nat} {x1 : Int32} {x2 : Int32} {σ σ' : Hp} {r : Int32} (h : f_X6_noNode x0 x1 x2 σ = some (r, σ')) : Mt l yX6_noNode cX6_noNode 3 (some .boolean) 2 shC (fun ad => [.ref (ad x0), .int x1, .int x2]) σ (fun ad => some (.int r)) σ' := mt_i (own := RX6) (by decide) rfl (fun _ => Nat.le_of_ble_eq_true rfl) (fun γ ad K hc hk => t_X6_noNode hc ⟨_, _, h, hk⟩)

-- NetMaps$Net.sever(II)V
theorem dX1_sever_0 : decode cX1_sever 0 = .ok (.aload_n 0, 1) := by decide +kernel
theorem dX1_sever_1 : decode cX1_sever 1 = .ok (.getfield 9, 3) := by decide +kernel
theorem dX1_sever_4 : decode cX1_sever 4 = .ok (.iload_n 1, 1) := by decide +kernel
theorem dX1_sever_5 : decode cX1_sever 5 = .ok (.dup2, 1) := by decide +kernel
theorem dX1_sever_6 : decode cX1_sever 6 = .ok (.iaload, 1) := by decide +kernel
theorem dX1_sever_7 : decode cX1_sever 7 = .ok (.iconst 1, 1) := by decide +kernel
theorem dX1_sever_8 : decode cX1_sever 8 = .ok (.iload_n 2, 1) := by decide +kernel
theorem dX1_sever_9 : decode cX1_sever 9 = .ok (.ishl, 1) := by decide +kernel
theorem dX1_sever_10 : decode cX1_sever 10 = .ok (.iconst (-1), 1) := by decide +kernel
theorem dX1_sever_11 : decode cX1_sever 11 = .ok (.ixor, 1) := by decide +kernel
theorem dX1_sever_12 : decode cX1_sever 12 = .ok (.iand, 1) := by decide +kernel
theorem dX1_sever_13 : decode cX1_sever 13 = .ok (.iastore, 1) := by decide +kernel
theorem dX1_sever_14 : decode cX1_sever 14 = .ok (.aload_n 0, 1) := by decide +kernel
theorem dX1_sever_15 : decode cX1_sever 15 = .ok (.getfield 15, 3) := by decide +kernel
theorem dX1_sever_18 : decode cX1_sever 18 = .ok (.iload_n 2, 1) := by decide +kernel
theorem dX1_sever_19 : decode cX1_sever 19 = .ok (.dup2, 1) := by decide +kernel
theorem dX1_sever_20 : decode cX1_sever 20 = .ok (.iaload, 1) := by decide +kernel
theorem dX1_sever_21 : decode cX1_sever 21 = .ok (.iconst 1, 1) := by decide +kernel
theorem dX1_sever_22 : decode cX1_sever 22 = .ok (.iload_n 1, 1) := by decide +kernel
theorem dX1_sever_23 : decode cX1_sever 23 = .ok (.ishl, 1) := by decide +kernel
theorem dX1_sever_24 : decode cX1_sever 24 = .ok (.iconst (-1), 1) := by decide +kernel
theorem dX1_sever_25 : decode cX1_sever 25 = .ok (.ixor, 1) := by decide +kernel
theorem dX1_sever_26 : decode cX1_sever 26 = .ok (.iand, 1) := by decide +kernel
theorem dX1_sever_27 : decode cX1_sever 27 = .ok (.iastore, 1) := by decide +kernel
theorem dX1_sever_28 : decode cX1_sever 28 = .ok (.return_, 1) := by decide +kernel
noncomputable def f_X1_sever (x0 : Nat) (x1 : Int32) (x2 : Int32) (σ : Hp) : Option (Unit × Hp) := gO (getR shC 1 x0 1 σ) fun v1 => gO (aldI shC 0 v1 x1 σ) fun v2 => gO (astI shC 0 v1 x1 (v2 &&& (((1 : Int32) <<< (x2 &&& 31)) ^^^ (-1))) σ) fun σ3 => gO (getR shC 1 x0 2 σ3) fun v4 => gO (aldI shC 0 v4 x2 σ3) fun v5 => gO (astI shC 0 v4 x2 (v5 &&& (((1 : Int32) <<< (x1 &&& 31)) ^^^ (-1))) σ3) fun σ6 => some ((), σ6)
set_option maxRecDepth 100000 in
set_option maxHeartbeats 4000000 in
theorem t_X1_sever {l : Launch} {γ : Gm} {ad : Nat → Nat} {K : Option Value → Hp → Prop} (hc : Cx l γ 1 3 ad shC RX1 cX1_sever none K) {x0 : Nat} {x1 : Int32} {x2 : Int32} {σ : Hp} (h : wpO (f_X1_sever x0 x1 x2 σ) (KU K)) : WW l γ 1 3 ad shC 0 [(0, .ref (ad x0)), (1, .int x1), (2, .int x2)] [] σ := by
  unfold f_X1_sever at h
  refine r_aload_n hc 0 rfl rfl dX1_sever_0 ?_
  obtain ⟨v1, ev1, h⟩ := wp_g h
  refine r_getR hc ev1 fl_X1_9 rfl dX1_sever_1 ?_
  refine r_iload_n hc 1 rfl rfl dX1_sever_4 ?_
  refine r_dup2 hc rfl rfl dX1_sever_5 ?_
  obtain ⟨v2, ev2, h⟩ := wp_g h
  refine r_iald hc ev2 dX1_sever_6 ?_
  refine r_iconst hc (v := 1) (by decide) dX1_sever_7 ?_
  refine r_iload_n hc 2 rfl rfl dX1_sever_8 ?_
  refine r_ishl hc dX1_sever_9 ?_
  refine r_iconst hc (v := (-1)) (by decide) dX1_sever_10 ?_
  refine r_ixor hc dX1_sever_11 ?_
  refine r_iand hc dX1_sever_12 ?_
  obtain ⟨σ3, eσ3, h⟩ := wp_g h
  refine r_iast hc eσ3 dX1_sever_13 ?_
  refine r_aload_n hc 0 rfl rfl dX1_sever_14 ?_
  obtain ⟨v4, ev4, h⟩ := wp_g h
  refine r_getR hc ev4 fl_X1_15 rfl dX1_sever_15 ?_
  refine r_iload_n hc 2 rfl rfl dX1_sever_18 ?_
  refine r_dup2 hc rfl rfl dX1_sever_19 ?_
  obtain ⟨v5, ev5, h⟩ := wp_g h
  refine r_iald hc ev5 dX1_sever_20 ?_
  refine r_iconst hc (v := 1) (by decide) dX1_sever_21 ?_
  refine r_iload_n hc 1 rfl rfl dX1_sever_22 ?_
  refine r_ishl hc dX1_sever_23 ?_
  refine r_iconst hc (v := (-1)) (by decide) dX1_sever_24 ?_
  refine r_ixor hc dX1_sever_25 ?_
  refine r_iand hc dX1_sever_26 ?_
  obtain ⟨σ6, eσ6, h⟩ := wp_g h
  refine r_iast hc eσ6 dX1_sever_27 ?_
  have h := wp_v h
  exact r_vret hc h dX1_sever_28
theorem c_X1_sever {l : Launch} {x0 : Nat} {x1 : Int32} {x2 : Int32} {σ σ' : Hp} {r : Unit} (h : f_X1_sever x0 x1 x2 σ = some (r, σ')) : Mt l yX1_sever cX1_sever 3 none 1 shC (fun ad => [.ref (ad x0), .int x1, .int x2]) σ (fun ad => none) σ' := mt_i (own := RX1) (by decide) rfl (fun _ => Nat.le_of_ble_eq_true rfl) (fun γ ad K hc hk => t_X1_sever hc ⟨_, _, h, hk⟩)

-- NetMaps.line(IIIZ)Z
theorem dX6_line_0 : decode cX6_line 0 = .ok (.aload_n 0, 1) := by decide +kernel
theorem dX6_line_1 : decode cX6_line 1 = .ok (.iload_n 1, 1) := by decide +kernel
theorem dX6_line_2 : decode cX6_line 2 = .ok (.iload_n 2, 1) := by decide +kernel
theorem dX6_line_3 : decode cX6_line 3 = .ok (.invokevirtual 112, 3) := by decide +kernel
theorem dX6_line_6 : decode cX6_line 6 = .ok (.ifCond .ne 23, 3) := by decide +kernel
theorem dX6_line_9 : decode cX6_line 9 = .ok (.aload_n 0, 1) := by decide +kernel
theorem dX6_line_10 : decode cX6_line 10 = .ok (.iload_n 1, 1) := by decide +kernel
theorem dX6_line_11 : decode cX6_line 11 = .ok (.iload_n 3, 1) := by decide +kernel
theorem dX6_line_12 : decode cX6_line 12 = .ok (.invokevirtual 112, 3) := by decide +kernel
theorem dX6_line_15 : decode cX6_line 15 = .ok (.ifCond .ne 14, 3) := by decide +kernel
theorem dX6_line_18 : decode cX6_line 18 = .ok (.aload_n 0, 1) := by decide +kernel
theorem dX6_line_19 : decode cX6_line 19 = .ok (.iload_n 1, 1) := by decide +kernel
theorem dX6_line_20 : decode cX6_line 20 = .ok (.invokevirtual 91, 3) := by decide +kernel
theorem dX6_line_23 : decode cX6_line 23 = .ok (.invokevirtual 109, 3) := by decide +kernel
theorem dX6_line_26 : decode cX6_line 26 = .ok (.ifCond .eq 5, 3) := by decide +kernel
theorem dX6_line_29 : decode cX6_line 29 = .ok (.iconst 0, 1) := by decide +kernel
theorem dX6_line_30 : decode cX6_line 30 = .ok (.ireturn, 1) := by decide +kernel
theorem dX6_line_31 : decode cX6_line 31 = .ok (.aload_n 0, 1) := by decide +kernel
theorem dX6_line_32 : decode cX6_line 32 = .ok (.iload_n 1, 1) := by decide +kernel
theorem dX6_line_33 : decode cX6_line 33 = .ok (.invokevirtual 91, 3) := by decide +kernel
theorem dX6_line_36 : decode cX6_line 36 = .ok (.astore 5, 2) := by decide +kernel
theorem dX6_line_38 : decode cX6_line 38 = .ok (.aload 5, 2) := by decide +kernel
theorem dX6_line_40 : decode cX6_line 40 = .ok (.iload_n 2, 1) := by decide +kernel
theorem dX6_line_41 : decode cX6_line 41 = .ok (.iload_n 3, 1) := by decide +kernel
theorem dX6_line_42 : decode cX6_line 42 = .ok (.invokevirtual 116, 3) := by decide +kernel
theorem dX6_line_45 : decode cX6_line 45 = .ok (.iload 4, 2) := by decide +kernel
theorem dX6_line_47 : decode cX6_line 47 = .ok (.if_icmp .ne 5, 3) := by decide +kernel
theorem dX6_line_50 : decode cX6_line 50 = .ok (.iconst 0, 1) := by decide +kernel
theorem dX6_line_51 : decode cX6_line 51 = .ok (.ireturn, 1) := by decide +kernel
theorem dX6_line_52 : decode cX6_line 52 = .ok (.iload 4, 2) := by decide +kernel
theorem dX6_line_54 : decode cX6_line 54 = .ok (.ifCond .eq 13, 3) := by decide +kernel
theorem dX6_line_57 : decode cX6_line 57 = .ok (.aload 5, 2) := by decide +kernel
theorem dX6_line_59 : decode cX6_line 59 = .ok (.iload_n 2, 1) := by decide +kernel
theorem dX6_line_60 : decode cX6_line 60 = .ok (.iload_n 3, 1) := by decide +kernel
theorem dX6_line_61 : decode cX6_line 61 = .ok (.invokevirtual 119, 3) := by decide +kernel
theorem dX6_line_64 : decode cX6_line 64 = .ok (.goto 10, 3) := by decide +kernel
theorem dX6_line_67 : decode cX6_line 67 = .ok (.aload 5, 2) := by decide +kernel
theorem dX6_line_69 : decode cX6_line 69 = .ok (.iload_n 2, 1) := by decide +kernel
theorem dX6_line_70 : decode cX6_line 70 = .ok (.iload_n 3, 1) := by decide +kernel
theorem dX6_line_71 : decode cX6_line 71 = .ok (.invokevirtual 123, 3) := by decide +kernel
theorem dX6_line_74 : decode cX6_line 74 = .ok (.iconst 1, 1) := by decide +kernel
theorem dX6_line_75 : decode cX6_line 75 = .ok (.ireturn, 1) := by decide +kernel
noncomputable def f_X6_line_b29  (σ : Hp) : Option (Int32 × Hp) := some (0, σ)
set_option maxRecDepth 100000 in
set_option maxHeartbeats 4000000 in
theorem t_X6_line_b29 {l : Launch} {γ : Gm} {ad : Nat → Nat} {K : Option Value → Hp → Prop} (hc : Cx l γ 3 6 ad shC RX6 cX6_line (some .boolean) K)  {σ : Hp} (h : wpO (f_X6_line_b29  σ) (KI K)) : WW l γ 3 6 ad shC 29 [] [] σ := by
  unfold f_X6_line_b29 at h
  refine r_iconst hc (v := 0) (by decide) dX6_line_29 ?_
  have h := wp_v h
  exact r_zret hc h (by decide) dX6_line_30
noncomputable def f_X6_line_b74  (σ : Hp) : Option (Int32 × Hp) := some (1, σ)
set_option maxRecDepth 100000 in
set_option maxHeartbeats 4000000 in
theorem t_X6_line_b74 {l : Launch} {γ : Gm} {ad : Nat → Nat} {K : Option Value → Hp → Prop} (hc : Cx l γ 3 6 ad shC RX6 cX6_line (some .boolean) K)  {σ : Hp} (h : wpO (f_X6_line_b74  σ) (KI K)) : WW l γ 3 6 ad shC 74 [] [] σ := by
  unfold f_X6_line_b74 at h
  refine r_iconst hc (v := 1) (by decide) dX6_line_74 ?_
  have h := wp_v h
  exact r_zret hc h (by decide) dX6_line_75
noncomputable def f_X6_line (x0 : Nat) (x1 : Int32) (x2 : Int32) (x3 : Int32) (x4 : Int32) (σ : Hp) : Option (Int32 × Hp) := gO (chk shC x0 6) fun _ => bO (f_X6_noNode x0 x1 x2 σ) fun r1 σ2 => if r1 = 0 then (gO (chk shC x0 6) fun _ => bO (f_X6_noNode x0 x1 x3 σ2) fun r4 σ5 => if r4 = 0 then (gO (chk shC x0 6) fun _ => bO (f_X6_in x0 x1 σ5) fun r7 σ8 => gO (chk shC r7 1) fun _ => bO (f_X1_isEmpty r7 σ8) fun r10 σ11 => if r10 = 0 then (gO (chk shC x0 6) fun _ => bO (f_X6_in x0 x1 σ11) fun r13 σ14 => gO (chk shC r13 1) fun _ => bO (f_X1_joins r13 x2 x3 σ14) fun r16 σ17 => if r16 = x4 then (some (0, σ17)) else (if x4 = 0 then (gO (chk shC r13 1) fun _ => bO (f_X1_sever r13 x2 x3 σ17) fun _ σ20 => f_X6_line_b74  σ20) else (gO (chk shC r13 1) fun _ => bO (f_X1_join r13 x2 x3 σ17) fun _ σ23 => f_X6_line_b74  σ23))) else (f_X6_line_b29  σ11)) else (f_X6_line_b29  σ5)) else (f_X6_line_b29  σ2)
set_option maxRecDepth 100000 in
set_option maxHeartbeats 4000000 in
theorem t_X6_line {l : Launch} {γ : Gm} {ad : Nat → Nat} {K : Option Value → Hp → Prop} (hc : Cx l γ 3 6 ad shC RX6 cX6_line (some .boolean) K) {x0 : Nat} {x1 : Int32} {x2 : Int32} {x3 : Int32} {x4 : Int32} {σ : Hp} (h : wpO (f_X6_line x0 x1 x2 x3 x4 σ) (KI K)) : WW l γ 3 6 ad shC 0 [(0, .ref (ad x0)), (1, .int x1), (2, .int x2), (3, .int x3), (4, .int x4)] [] σ := by
  unfold f_X6_line at h
  refine r_aload_n hc 0 rfl rfl dX6_line_0 ?_
  refine r_iload_n hc 1 rfl rfl dX6_line_1 ?_
  refine r_iload_n hc 2 rfl rfl dX6_line_2 ?_
  obtain ⟨_, ek3, h⟩ := wp_g h
  obtain ⟨r1, σ2, er1, h⟩ := wp_b h
  refine r_callV hc (k0 := x0) mv_X6_noNode ml_X6_112 (c_X6_noNode er1) (chk_of ek3) cls_6.1 rfl rfl rfl (by decide) rfl (Nat.le_of_ble_eq_true rfl) dX6_line_3 ?_
  refine r_if_ne hc (tgt := 29) dX6_line_6 (by decide) (fun c => ?_) (fun c => ?_)
  · have h := wp_f c h
    refine r_sub [] (lv' := []) rfl ?_
    exact t_X6_line_b29 hc h
  · have h := wp_t c h
    refine r_aload_n hc 0 rfl rfl dX6_line_9 ?_
    refine r_iload_n hc 1 rfl rfl dX6_line_10 ?_
    refine r_iload_n hc 3 rfl rfl dX6_line_11 ?_
    obtain ⟨_, ek6, h⟩ := wp_g h
    obtain ⟨r4, σ5, er4, h⟩ := wp_b h
    refine r_callV hc (k0 := x0) mv_X6_noNode ml_X6_112 (c_X6_noNode er4) (chk_of ek6) cls_6.1 rfl rfl rfl (by decide) rfl (Nat.le_of_ble_eq_true rfl) dX6_line_12 ?_
    refine r_if_ne hc (tgt := 29) dX6_line_15 (by decide) (fun c => ?_) (fun c => ?_)
    · have h := wp_f c h
      refine r_sub [] (lv' := []) rfl ?_
      exact t_X6_line_b29 hc h
    · have h := wp_t c h
      refine r_aload_n hc 0 rfl rfl dX6_line_18 ?_
      refine r_iload_n hc 1 rfl rfl dX6_line_19 ?_
      obtain ⟨_, ek9, h⟩ := wp_g h
      obtain ⟨r7, σ8, er7, h⟩ := wp_b h
      refine r_callV hc (k0 := x0) mv_X6_in ml_X6_91 (c_X6_in er7) (chk_of ek9) cls_6.1 rfl rfl rfl (by decide) rfl (Nat.le_of_ble_eq_true rfl) dX6_line_20 ?_
      obtain ⟨_, ek12, h⟩ := wp_g h
      obtain ⟨r10, σ11, er10, h⟩ := wp_b h
      refine r_callV hc (k0 := r7) mv_X1_isEmpty ml_X6_109 (c_X1_isEmpty er10) (chk_of ek12) cls_1.1 rfl rfl rfl (by decide) rfl (Nat.le_of_ble_eq_true rfl) dX6_line_23 ?_
      refine r_if_eq hc (tgt := 31) dX6_line_26 (by decide) (fun c => ?_) (fun c => ?_)
      · have h := wp_t c h
        refine r_aload_n hc 0 rfl rfl dX6_line_31 ?_
        refine r_iload_n hc 1 rfl rfl dX6_line_32 ?_
        obtain ⟨_, ek15, h⟩ := wp_g h
        obtain ⟨r13, σ14, er13, h⟩ := wp_b h
        refine r_callV hc (k0 := x0) mv_X6_in ml_X6_91 (c_X6_in er13) (chk_of ek15) cls_6.1 rfl rfl rfl (by decide) rfl (Nat.le_of_ble_eq_true rfl) dX6_line_33 ?_
        refine r_astore hc (i := 5) (lv' := [(5, .ref (ad r13)), (0, .ref (ad x0)), (1, .int x1), (2, .int x2), (3, .int x3), (4, .int x4)]) (by decide) rfl dX6_line_36 ?_
        refine r_aload hc 0 rfl dX6_line_38 ?_
        refine r_iload_n hc 3 rfl rfl dX6_line_40 ?_
        refine r_iload_n hc 4 rfl rfl dX6_line_41 ?_
        obtain ⟨_, ek18, h⟩ := wp_g h
        obtain ⟨r16, σ17, er16, h⟩ := wp_b h
        refine r_callV hc (k0 := r13) mv_X1_joins ml_X6_116 (c_X1_joins er16) (chk_of ek18) cls_1.1 rfl rfl rfl (by decide) rfl (Nat.le_of_ble_eq_true rfl) dX6_line_42 ?_
        refine r_iload hc 5 rfl dX6_line_45 ?_
        refine r_icmp_ne hc (tgt := 52) dX6_line_47 (by decide) (fun c => ?_) (fun c => ?_)
        · have h := wp_f c h
          refine r_iload hc 5 rfl dX6_line_52 ?_
          refine r_if_eq hc (tgt := 67) dX6_line_54 (by decide) (fun c => ?_) (fun c => ?_)
          · have h := wp_t c h
            refine r_aload hc 0 rfl dX6_line_67 ?_
            refine r_iload_n hc 3 rfl rfl dX6_line_69 ?_
            refine r_iload_n hc 4 rfl rfl dX6_line_70 ?_
            obtain ⟨_, ek21, h⟩ := wp_g h
            obtain ⟨_, σ20, er19, h⟩ := wp_b h
            refine r_callV hc (k0 := r13) mv_X1_sever ml_X6_123 (c_X1_sever er19) (chk_of ek21) cls_1.1 rfl rfl rfl (by decide) rfl (Nat.le_of_ble_eq_true rfl) dX6_line_71 ?_
            refine r_sub [] (lv' := []) rfl ?_
            exact t_X6_line_b74 hc h
          · have h := wp_f c h
            refine r_aload hc 0 rfl dX6_line_57 ?_
            refine r_iload_n hc 3 rfl rfl dX6_line_59 ?_
            refine r_iload_n hc 4 rfl rfl dX6_line_60 ?_
            obtain ⟨_, ek24, h⟩ := wp_g h
            obtain ⟨_, σ23, er22, h⟩ := wp_b h
            refine r_callV hc (k0 := r13) mv_X1_join ml_X6_119 (c_X1_join er22) (chk_of ek24) cls_1.1 rfl rfl rfl (by decide) rfl (Nat.le_of_ble_eq_true rfl) dX6_line_61 ?_
            refine r_goto hc (tgt := 74) dX6_line_64 (by decide) ?_
            refine r_sub [] (lv' := []) rfl ?_
            exact t_X6_line_b74 hc h
        · have h := wp_t c h
          refine r_iconst hc (v := 0) (by decide) dX6_line_50 ?_
          have h := wp_v h
          exact r_zret hc h (by decide) dX6_line_51
      · have h := wp_f c h
        refine r_sub [] (lv' := []) rfl ?_
        exact t_X6_line_b29 hc h
theorem c_X6_line {l : Launch} {x0 : Nat} {x1 : Int32} {x2 : Int32} {x3 : Int32} {x4 : Int32} {σ σ' : Hp} {r : Int32} (h : f_X6_line x0 x1 x2 x3 x4 σ = some (r, σ')) : Mt l yX6_line cX6_line 6 (some .boolean) 3 shC (fun ad => [.ref (ad x0), .int x1, .int x2, .int x3, .int x4]) σ (fun ad => some (.int r)) σ' := mt_i (own := RX6) (by decide) rfl (fun _ => Nat.le_of_ble_eq_true rfl) (fun γ ad K hc hk => t_X6_line hc ⟨_, _, h, hk⟩)

-- NetMaps$Net.isTwoWay()Z
theorem dX1_isTwoWay_0 : decode cX1_isTwoWay 0 = .ok (.iconst 0, 1) := by decide +kernel
theorem dX1_isTwoWay_1 : decode cX1_isTwoWay 1 = .ok (.istore_n 1, 1) := by decide +kernel
theorem dX1_isTwoWay_2 : decode cX1_isTwoWay 2 = .ok (.iload_n 1, 1) := by decide +kernel
theorem dX1_isTwoWay_3 : decode cX1_isTwoWay 3 = .ok (.aload_n 0, 1) := by decide +kernel
theorem dX1_isTwoWay_4 : decode cX1_isTwoWay 4 = .ok (.getfield 18, 3) := by decide +kernel
theorem dX1_isTwoWay_7 : decode cX1_isTwoWay 7 = .ok (.if_icmp .ge 26, 3) := by decide +kernel
theorem dX1_isTwoWay_10 : decode cX1_isTwoWay 10 = .ok (.aload_n 0, 1) := by decide +kernel
theorem dX1_isTwoWay_11 : decode cX1_isTwoWay 11 = .ok (.getfield 9, 3) := by decide +kernel
theorem dX1_isTwoWay_14 : decode cX1_isTwoWay 14 = .ok (.iload_n 1, 1) := by decide +kernel
theorem dX1_isTwoWay_15 : decode cX1_isTwoWay 15 = .ok (.iaload, 1) := by decide +kernel
theorem dX1_isTwoWay_16 : decode cX1_isTwoWay 16 = .ok (.aload_n 0, 1) := by decide +kernel
theorem dX1_isTwoWay_17 : decode cX1_isTwoWay 17 = .ok (.getfield 15, 3) := by decide +kernel
theorem dX1_isTwoWay_20 : decode cX1_isTwoWay 20 = .ok (.iload_n 1, 1) := by decide +kernel
theorem dX1_isTwoWay_21 : decode cX1_isTwoWay 21 = .ok (.iaload, 1) := by decide +kernel
theorem dX1_isTwoWay_22 : decode cX1_isTwoWay 22 = .ok (.if_icmp .eq 5, 3) := by decide +kernel
theorem dX1_isTwoWay_25 : decode cX1_isTwoWay 25 = .ok (.iconst 0, 1) := by decide +kernel
theorem dX1_isTwoWay_26 : decode cX1_isTwoWay 26 = .ok (.ireturn, 1) := by decide +kernel
theorem dX1_isTwoWay_27 : decode cX1_isTwoWay 27 = .ok (.iinc 1 1, 3) := by decide +kernel
theorem dX1_isTwoWay_30 : decode cX1_isTwoWay 30 = .ok (.goto (-28), 3) := by decide +kernel
theorem dX1_isTwoWay_33 : decode cX1_isTwoWay 33 = .ok (.iconst 1, 1) := by decide +kernel
theorem dX1_isTwoWay_34 : decode cX1_isTwoWay 34 = .ok (.ireturn, 1) := by decide +kernel
noncomputable def f_X1_isTwoWay_L2 (x0 : Nat) (v : (Int32)) (σ : Hp) : Option (((Int32) ⊕ ((Unit) ⊕ (Unit))) × Hp) := gO (getI shC 1 x0 0 σ) fun v1 => if v1 ≤ v then (some (Sum.inr (Sum.inr ()), σ)) else (gO (getR shC 1 x0 1 σ) fun v2 => gO (aldI shC 0 v2 v σ) fun v3 => gO (getR shC 1 x0 2 σ) fun v4 => gO (aldI shC 0 v4 v σ) fun v5 => if v3 = v5 then (some (Sum.inl (v + 1), σ)) else (some (Sum.inr (Sum.inl ()), σ)))
set_option maxRecDepth 100000 in
set_option maxHeartbeats 4000000 in
theorem t_X1_isTwoWay_L2 {l : Launch} {γ : Gm} {ad : Nat → Nat} {K : Option Value → Hp → Prop}  (hc : Cx l γ 1 2 ad shC RX1 cX1_isTwoWay (some .boolean) K) {x0 : Nat} {v : (Int32)} {σ : Hp} {KX : ((Unit) ⊕ (Unit)) → Hp → Prop} (h : wpO (wh (f_X1_isTwoWay_L2 x0) v σ) KX) (kx25 : ∀ (v : Unit) (σ : Hp), KX (Sum.inl v) σ → WW l γ 1 2 ad shC 25 [] [] σ) (kx33 : ∀ (v : Unit) (σ : Hp), KX (Sum.inr v) σ → WW l γ 1 2 ad shC 33 [] [] σ) : WW l γ 1 2 ad shC 2 [(0, .ref (ad x0)), (1, .int v)] [] σ := by
  refine wh_W (P := fun v σ => WW l γ 1 2 ad shC 2 [(0, .ref (ad x0)), (1, .int v)] [] σ) (fun v σ h => ?_) h
  have kn : ∀ (v : (Int32)) (σ : Hp), WW l γ 1 2 ad shC 2 [(0, .ref (ad x0)), (1, .int v)] [] σ → WW l γ 1 2 ad shC 2 [(0, .ref (ad x0)), (1, .int v)] [] σ := fun _ _ h => h
  · unfold f_X1_isTwoWay_L2 at h
    refine r_iload_n hc 1 rfl rfl dX1_isTwoWay_2 ?_
    refine r_aload_n hc 0 rfl rfl dX1_isTwoWay_3 ?_
    obtain ⟨v1, ev1, h⟩ := wp_g h
    refine r_getI hc ev1 fl_X1_18 rfl dX1_isTwoWay_4 ?_
    refine r_icmp_ge hc (tgt := 33) dX1_isTwoWay_7 (by decide) (fun c => ?_) (fun c => ?_)
    · have h := wp_t c h
      refine r_sub [] (lv' := []) rfl ?_
      have h := wp_v h
      exact kx33 () _ h
    · have h := wp_f c h
      refine r_aload_n hc 0 rfl rfl dX1_isTwoWay_10 ?_
      obtain ⟨v2, ev2, h⟩ := wp_g h
      refine r_getR hc ev2 fl_X1_9 rfl dX1_isTwoWay_11 ?_
      refine r_iload_n hc 1 rfl rfl dX1_isTwoWay_14 ?_
      obtain ⟨v3, ev3, h⟩ := wp_g h
      refine r_iald hc ev3 dX1_isTwoWay_15 ?_
      refine r_aload_n hc 0 rfl rfl dX1_isTwoWay_16 ?_
      obtain ⟨v4, ev4, h⟩ := wp_g h
      refine r_getR hc ev4 fl_X1_15 rfl dX1_isTwoWay_17 ?_
      refine r_iload_n hc 1 rfl rfl dX1_isTwoWay_20 ?_
      obtain ⟨v5, ev5, h⟩ := wp_g h
      refine r_iald hc ev5 dX1_isTwoWay_21 ?_
      refine r_icmp_eq hc (tgt := 27) dX1_isTwoWay_22 (by decide) (fun c => ?_) (fun c => ?_)
      · have h := wp_t c h
        refine r_iincE hc (j := 1) (w := 1) (lv' := [(1, .int (v + 1)), (0, .ref (ad x0))]) rfl (by decide) rfl (by decide) rfl dX1_isTwoWay_27 ?_
        refine r_goto hc (tgt := 2) dX1_isTwoWay_30 (by decide) ?_
        refine r_sub [1, 0] (lv' := [(0, .ref (ad x0)), (1, .int (v + 1))]) rfl ?_
        have h := wp_v h
        exact kn (v + 1) _ h
      · have h := wp_f c h
        refine r_sub [] (lv' := []) rfl ?_
        have h := wp_v h
        exact kx25 () _ h
noncomputable def f_X1_isTwoWay (x0 : Nat) (σ : Hp) : Option (Int32 × Hp) := bO (wh (f_X1_isTwoWay_L2 x0) 0 σ) fun y1 σ2 => (Sum.elim (fun y1' => (some (0, σ2))) (fun y3 => (some (1, σ2))) y1)
set_option maxRecDepth 100000 in
set_option maxHeartbeats 4000000 in
theorem t_X1_isTwoWay {l : Launch} {γ : Gm} {ad : Nat → Nat} {K : Option Value → Hp → Prop} (hc : Cx l γ 1 2 ad shC RX1 cX1_isTwoWay (some .boolean) K) {x0 : Nat} {σ : Hp} (h : wpO (f_X1_isTwoWay x0 σ) (KI K)) : WW l γ 1 2 ad shC 0 [(0, .ref (ad x0))] [] σ := by
  unfold f_X1_isTwoWay at h
  refine r_iconst hc (v := 0) (by decide) dX1_isTwoWay_0 ?_
  refine r_istore_nE hc (i := 1) (lv' := [(1, .int 0), (0, .ref (ad x0))]) rfl rfl (by decide) rfl dX1_isTwoWay_1 ?_
  refine r_sub [1, 0] (lv' := [(0, .ref (ad x0)), (1, .int 0)]) rfl ?_
  refine t_X1_isTwoWay_L2 hc (wp_bb h) ?_ ?_
  · intro y1' σ2 h
    have h := wp_sl h
    refine r_iconst hc (v := 0) (by decide) dX1_isTwoWay_25 ?_
    have h := wp_v h
    exact r_zret hc h (by decide) dX1_isTwoWay_26
  · intro y3 σ2 h
    have h := wp_sr h
    refine r_iconst hc (v := 1) (by decide) dX1_isTwoWay_33 ?_
    have h := wp_v h
    exact r_zret hc h (by decide) dX1_isTwoWay_34
theorem c_X1_isTwoWay {l : Launch} {x0 : Nat} {σ σ' : Hp} {r : Int32} (h : f_X1_isTwoWay x0 σ = some (r, σ')) : Mt l yX1_isTwoWay cX1_isTwoWay 2 (some .boolean) 1 shC (fun ad => [.ref (ad x0)]) σ (fun ad => some (.int r)) σ' := mt_i (own := RX1) (by decide) rfl (fun _ => Nat.le_of_ble_eq_true rfl) (fun γ ad K hc hk => t_X1_isTwoWay hc ⟨_, _, h, hk⟩)

-- NetMaps$Net.loops()I
theorem dX1_loops_0 : decode cX1_loops 0 = .ok (.iconst 0, 1) := by decide +kernel
theorem dX1_loops_1 : decode cX1_loops 1 = .ok (.istore_n 1, 1) := by decide +kernel
theorem dX1_loops_2 : decode cX1_loops 2 = .ok (.iconst 0, 1) := by decide +kernel
theorem dX1_loops_3 : decode cX1_loops 3 = .ok (.istore_n 2, 1) := by decide +kernel
theorem dX1_loops_4 : decode cX1_loops 4 = .ok (.iload_n 2, 1) := by decide +kernel
theorem dX1_loops_5 : decode cX1_loops 5 = .ok (.aload_n 0, 1) := by decide +kernel
theorem dX1_loops_6 : decode cX1_loops 6 = .ok (.getfield 18, 3) := by decide +kernel
theorem dX1_loops_9 : decode cX1_loops 9 = .ok (.if_icmp .ge 22, 3) := by decide +kernel
theorem dX1_loops_12 : decode cX1_loops 12 = .ok (.iload_n 1, 1) := by decide +kernel
theorem dX1_loops_13 : decode cX1_loops 13 = .ok (.aload_n 0, 1) := by decide +kernel
theorem dX1_loops_14 : decode cX1_loops 14 = .ok (.getfield 9, 3) := by decide +kernel
theorem dX1_loops_17 : decode cX1_loops 17 = .ok (.iload_n 2, 1) := by decide +kernel
theorem dX1_loops_18 : decode cX1_loops 18 = .ok (.iaload, 1) := by decide +kernel
theorem dX1_loops_19 : decode cX1_loops 19 = .ok (.iconst 1, 1) := by decide +kernel
theorem dX1_loops_20 : decode cX1_loops 20 = .ok (.iload_n 2, 1) := by decide +kernel
theorem dX1_loops_21 : decode cX1_loops 21 = .ok (.ishl, 1) := by decide +kernel
theorem dX1_loops_22 : decode cX1_loops 22 = .ok (.iand, 1) := by decide +kernel
theorem dX1_loops_23 : decode cX1_loops 23 = .ok (.ior, 1) := by decide +kernel
theorem dX1_loops_24 : decode cX1_loops 24 = .ok (.istore_n 1, 1) := by decide +kernel
theorem dX1_loops_25 : decode cX1_loops 25 = .ok (.iinc 2 1, 3) := by decide +kernel
theorem dX1_loops_28 : decode cX1_loops 28 = .ok (.goto (-24), 3) := by decide +kernel
theorem dX1_loops_31 : decode cX1_loops 31 = .ok (.iload_n 1, 1) := by decide +kernel
theorem dX1_loops_32 : decode cX1_loops 32 = .ok (.ireturn, 1) := by decide +kernel
noncomputable def f_X1_loops_L4 (x0 : Nat) (v : (Int32 × Int32)) (σ : Hp) : Option (((Int32 × Int32) ⊕ (Int32)) × Hp) := gO (getI shC 1 x0 0 σ) fun v1 => if v1 ≤ v.2 then (some (Sum.inr v.1, σ)) else (gO (getR shC 1 x0 1 σ) fun v2 => gO (aldI shC 0 v2 v.2 σ) fun v3 => lt' ((v.1 ||| (v3 &&& ((1 : Int32) <<< (v.2 &&& 31))))) fun t4 => some (Sum.inl (t4, (v.2 + 1)), σ))
set_option maxRecDepth 100000 in
set_option maxHeartbeats 4000000 in
theorem t_X1_loops_L4 {l : Launch} {γ : Gm} {ad : Nat → Nat} {K : Option Value → Hp → Prop}  (hc : Cx l γ 1 3 ad shC RX1 cX1_loops (some .int) K) {x0 : Nat} {v : (Int32 × Int32)} {σ : Hp} {KX : (Int32) → Hp → Prop} (h : wpO (wh (f_X1_loops_L4 x0) v σ) KX) (kx31 : ∀ (v : Int32) (σ : Hp), KX v σ → WW l γ 1 3 ad shC 31 [(1, .int v)] [] σ) : WW l γ 1 3 ad shC 4 [(0, .ref (ad x0)), (1, .int v.1), (2, .int v.2)] [] σ := by
  refine wh_W (P := fun v σ => WW l γ 1 3 ad shC 4 [(0, .ref (ad x0)), (1, .int v.1), (2, .int v.2)] [] σ) (fun v σ h => ?_) h
  have kn : ∀ (v : (Int32 × Int32)) (σ : Hp), WW l γ 1 3 ad shC 4 [(0, .ref (ad x0)), (1, .int v.1), (2, .int v.2)] [] σ → WW l γ 1 3 ad shC 4 [(0, .ref (ad x0)), (1, .int v.1), (2, .int v.2)] [] σ := fun _ _ h => h
  · unfold f_X1_loops_L4 at h
    refine r_iload_n hc 2 rfl rfl dX1_loops_4 ?_
    refine r_aload_n hc 0 rfl rfl dX1_loops_5 ?_
    obtain ⟨v1, ev1, h⟩ := wp_g h
    refine r_getI hc ev1 fl_X1_18 rfl dX1_loops_6 ?_
    refine r_icmp_ge hc (tgt := 31) dX1_loops_9 (by decide) (fun c => ?_) (fun c => ?_)
    · have h := wp_t c h
      refine r_sub [1] (lv' := [(1, .int v.1)]) rfl ?_
      have h := wp_v h
      exact kx31 v.1 _ h
    · have h := wp_f c h
      refine r_iload_n hc 1 rfl rfl dX1_loops_12 ?_
      refine r_aload_n hc 0 rfl rfl dX1_loops_13 ?_
      obtain ⟨v2, ev2, h⟩ := wp_g h
      refine r_getR hc ev2 fl_X1_9 rfl dX1_loops_14 ?_
      refine r_iload_n hc 2 rfl rfl dX1_loops_17 ?_
      obtain ⟨v3, ev3, h⟩ := wp_g h
      refine r_iald hc ev3 dX1_loops_18 ?_
      refine r_iconst hc (v := 1) (by decide) dX1_loops_19 ?_
      refine r_iload_n hc 2 rfl rfl dX1_loops_20 ?_
      refine r_ishl hc dX1_loops_21 ?_
      refine r_iand hc dX1_loops_22 ?_
      refine r_ior hc dX1_loops_23 ?_
      obtain ⟨t4, et4, h⟩ := wp_l h
      refine r_istore_nE hc (i := 1) (lv' := [(1, .int t4), (0, .ref (ad x0)), (2, .int v.2)]) et4 rfl (by decide) rfl dX1_loops_24 ?_
      refine r_iincE hc (j := 2) (w := 1) (lv' := [(2, .int (v.2 + 1)), (1, .int t4), (0, .ref (ad x0))]) rfl (by decide) rfl (by decide) rfl dX1_loops_25 ?_
      refine r_goto hc (tgt := 4) dX1_loops_28 (by decide) ?_
      refine r_sub [2, 1, 0] (lv' := [(0, .ref (ad x0)), (1, .int t4), (2, .int (v.2 + 1))]) rfl ?_
      have h := wp_v h
      exact kn (t4, (v.2 + 1)) _ h
noncomputable def f_X1_loops (x0 : Nat) (σ : Hp) : Option (Int32 × Hp) := bO (wh (f_X1_loops_L4 x0) (0, 0) σ) fun y1 σ2 => (some (y1, σ2))
set_option maxRecDepth 100000 in
set_option maxHeartbeats 4000000 in
theorem t_X1_loops {l : Launch} {γ : Gm} {ad : Nat → Nat} {K : Option Value → Hp → Prop} (hc : Cx l γ 1 3 ad shC RX1 cX1_loops (some .int) K) {x0 : Nat} {σ : Hp} (h : wpO (f_X1_loops x0 σ) (KI K)) : WW l γ 1 3 ad shC 0 [(0, .ref (ad x0))] [] σ := by
  unfold f_X1_loops at h
  refine r_iconst hc (v := 0) (by decide) dX1_loops_0 ?_
  refine r_istore_nE hc (i := 1) (lv' := [(1, .int 0), (0, .ref (ad x0))]) rfl rfl (by decide) rfl dX1_loops_1 ?_
  refine r_iconst hc (v := 0) (by decide) dX1_loops_2 ?_
  refine r_istore_nE hc (i := 2) (lv' := [(2, .int 0), (1, .int 0), (0, .ref (ad x0))]) rfl rfl (by decide) rfl dX1_loops_3 ?_
  refine r_sub [2, 1, 0] (lv' := [(0, .ref (ad x0)), (1, .int 0), (2, .int 0)]) rfl ?_
  refine t_X1_loops_L4 hc (wp_bb h) ?_
  · intro y1 σ2 h
    refine r_iload_n hc 0 rfl rfl dX1_loops_31 ?_
    have h := wp_v h
    exact r_iret hc h dX1_loops_32
theorem c_X1_loops {l : Launch} {x0 : Nat} {σ σ' : Hp} {r : Int32} (h : f_X1_loops x0 σ = some (r, σ')) : Mt l yX1_loops cX1_loops 3 (some .int) 1 shC (fun ad => [.ref (ad x0)]) σ (fun ad => some (.int r)) σ' := mt_i (own := RX1) (by decide) rfl (fun _ => Nat.le_of_ble_eq_true rfl) (fun γ ad K hc hk => t_X1_loops hc ⟨_, _, h, hk⟩)

-- NetMaps$Net.most(Z)I
theorem dX1_most_0 : decode cX1_most 0 = .ok (.iconst 0, 1) := by decide +kernel
theorem dX1_most_1 : decode cX1_most 1 = .ok (.istore_n 2, 1) := by decide +kernel
theorem dX1_most_2 : decode cX1_most 2 = .ok (.iconst 0, 1) := by decide +kernel
theorem dX1_most_3 : decode cX1_most 3 = .ok (.istore_n 3, 1) := by decide +kernel
theorem dX1_most_4 : decode cX1_most 4 = .ok (.iload_n 3, 1) := by decide +kernel
theorem dX1_most_5 : decode cX1_most 5 = .ok (.aload_n 0, 1) := by decide +kernel
theorem dX1_most_6 : decode cX1_most 6 = .ok (.getfield 18, 3) := by decide +kernel
theorem dX1_most_9 : decode cX1_most 9 = .ok (.if_icmp .ge 36, 3) := by decide +kernel
theorem dX1_most_12 : decode cX1_most 12 = .ok (.iload_n 2, 1) := by decide +kernel
theorem dX1_most_13 : decode cX1_most 13 = .ok (.iload_n 1, 1) := by decide +kernel
theorem dX1_most_14 : decode cX1_most 14 = .ok (.ifCond .eq 12, 3) := by decide +kernel
theorem dX1_most_17 : decode cX1_most 17 = .ok (.aload_n 0, 1) := by decide +kernel
theorem dX1_most_18 : decode cX1_most 18 = .ok (.getfield 9, 3) := by decide +kernel
theorem dX1_most_21 : decode cX1_most 21 = .ok (.iload_n 3, 1) := by decide +kernel
theorem dX1_most_22 : decode cX1_most 22 = .ok (.iaload, 1) := by decide +kernel
theorem dX1_most_23 : decode cX1_most 23 = .ok (.goto 9, 3) := by decide +kernel
theorem dX1_most_26 : decode cX1_most 26 = .ok (.aload_n 0, 1) := by decide +kernel
theorem dX1_most_27 : decode cX1_most 27 = .ok (.getfield 15, 3) := by decide +kernel
theorem dX1_most_30 : decode cX1_most 30 = .ok (.iload_n 3, 1) := by decide +kernel
theorem dX1_most_31 : decode cX1_most 31 = .ok (.iaload, 1) := by decide +kernel
theorem dX1_most_32 : decode cX1_most 32 = .ok (.invokestatic 34, 3) := by decide +kernel
theorem dX1_most_35 : decode cX1_most 35 = .ok (.invokestatic 40, 3) := by decide +kernel
theorem dX1_most_38 : decode cX1_most 38 = .ok (.istore_n 2, 1) := by decide +kernel
theorem dX1_most_39 : decode cX1_most 39 = .ok (.iinc 3 1, 3) := by decide +kernel
theorem dX1_most_42 : decode cX1_most 42 = .ok (.goto (-38), 3) := by decide +kernel
theorem dX1_most_45 : decode cX1_most 45 = .ok (.iload_n 2, 1) := by decide +kernel
theorem dX1_most_46 : decode cX1_most 46 = .ok (.ireturn, 1) := by decide +kernel
noncomputable def f_X1_most_b32 (x0 : Nat) (x1 : Int32) (x3 : Int32) (s0 : Int32) (s1 : Int32) (σ : Hp) : Option (((Int32 × Int32) ⊕ (Int32)) × Hp) := bO (f_J6_bitCount_0f7a4 shC s1 σ) fun r1 σ2 => some (Sum.inl ((imax s0 r1), (x3 + 1)), σ2)
set_option maxRecDepth 100000 in
set_option maxHeartbeats 4000000 in
theorem t_X1_most_b32 {l : Launch} {γ : Gm} {ad : Nat → Nat} {K : Option Value → Hp → Prop} (hc : Cx l γ 2 4 ad shC RX1 cX1_most (some .int) K) {x0 : Nat} {x1 : Int32} {x3 : Int32} {s0 : Int32} {s1 : Int32}  {σ : Hp} {KL : ((Int32 × Int32) ⊕ (Int32)) → Hp → Prop} (h : wpO (f_X1_most_b32 x0 x1 x3 s0 s1 σ) KL) (kn : ∀ (v : (Int32 × Int32)) (σ : Hp), KL (Sum.inl v) σ → WW l γ 2 4 ad shC 4 [(0, .ref (ad x0)), (1, .int x1), (2, .int v.1), (3, .int v.2)] [] σ) (kx45 : ∀ (v : Int32) (σ : Hp), KL (Sum.inr v) σ → WW l γ 2 4 ad shC 45 [(2, .int v)] [] σ) : WW l γ 2 4 ad shC 32 [(0, .ref (ad x0)), (1, .int x1), (3, .int x3)] [.int s1, .int s0] σ := by
  unfold f_X1_most_b32 at h
  obtain ⟨r1, σ2, er1, h⟩ := wp_b h
  refine r_callS hc ms_J6_bitCount_0f7a4 ml_X1_34 (c_J6_bitCount_0f7a4 er1) rfl rfl (by decide) rfl (Nat.le_of_ble_eq_true rfl) dX1_most_32 ?_
  refine r_mmax hc ml_X1_40 (by decide) (Nat.le_of_ble_eq_true rfl) dX1_most_35 ?_
  refine r_istore_nE hc (i := 2) (lv' := [(2, .int (imax s0 r1)), (0, .ref (ad x0)), (1, .int x1), (3, .int x3)]) rfl rfl (by decide) rfl dX1_most_38 ?_
  refine r_iincE hc (j := 3) (w := 1) (lv' := [(3, .int (x3 + 1)), (2, .int (imax s0 r1)), (0, .ref (ad x0)), (1, .int x1)]) rfl (by decide) rfl (by decide) rfl dX1_most_39 ?_
  refine r_goto hc (tgt := 4) dX1_most_42 (by decide) ?_
  refine r_sub [2, 3, 1, 0] (lv' := [(0, .ref (ad x0)), (1, .int x1), (2, .int (imax s0 r1)), (3, .int (x3 + 1))]) rfl ?_
  have h := wp_v h
  exact kn ((imax s0 r1), (x3 + 1)) _ h
noncomputable def f_X1_most_L4 (x0 : Nat) (x1 : Int32) (v : (Int32 × Int32)) (σ : Hp) : Option (((Int32 × Int32) ⊕ (Int32)) × Hp) := gO (getI shC 1 x0 0 σ) fun v1 => if v1 ≤ v.2 then (some (Sum.inr v.1, σ)) else (if x1 = 0 then (gO (getR shC 1 x0 2 σ) fun v2 => gO (aldI shC 0 v2 v.2 σ) fun v3 => f_X1_most_b32 x0 x1 v.2 v.1 v3 σ) else (gO (getR shC 1 x0 1 σ) fun v4 => gO (aldI shC 0 v4 v.2 σ) fun v5 => f_X1_most_b32 x0 x1 v.2 v.1 v5 σ))
set_option maxRecDepth 100000 in
set_option maxHeartbeats 4000000 in
theorem t_X1_most_L4 {l : Launch} {γ : Gm} {ad : Nat → Nat} {K : Option Value → Hp → Prop}  (hc : Cx l γ 2 4 ad shC RX1 cX1_most (some .int) K) {x0 : Nat} {x1 : Int32} {v : (Int32 × Int32)} {σ : Hp} {KX : (Int32) → Hp → Prop} (h : wpO (wh (f_X1_most_L4 x0 x1) v σ) KX) (kx45 : ∀ (v : Int32) (σ : Hp), KX v σ → WW l γ 2 4 ad shC 45 [(2, .int v)] [] σ) : WW l γ 2 4 ad shC 4 [(0, .ref (ad x0)), (1, .int x1), (2, .int v.1), (3, .int v.2)] [] σ := by
  refine wh_W (P := fun v σ => WW l γ 2 4 ad shC 4 [(0, .ref (ad x0)), (1, .int x1), (2, .int v.1), (3, .int v.2)] [] σ) (fun v σ h => ?_) h
  have kn : ∀ (v : (Int32 × Int32)) (σ : Hp), WW l γ 2 4 ad shC 4 [(0, .ref (ad x0)), (1, .int x1), (2, .int v.1), (3, .int v.2)] [] σ → WW l γ 2 4 ad shC 4 [(0, .ref (ad x0)), (1, .int x1), (2, .int v.1), (3, .int v.2)] [] σ := fun _ _ h => h
  · unfold f_X1_most_L4 at h
    refine r_iload_n hc 3 rfl rfl dX1_most_4 ?_
    refine r_aload_n hc 0 rfl rfl dX1_most_5 ?_
    obtain ⟨v1, ev1, h⟩ := wp_g h
    refine r_getI hc ev1 fl_X1_18 rfl dX1_most_6 ?_
    refine r_icmp_ge hc (tgt := 45) dX1_most_9 (by decide) (fun c => ?_) (fun c => ?_)
    · have h := wp_t c h
      refine r_sub [2] (lv' := [(2, .int v.1)]) rfl ?_
      have h := wp_v h
      exact kx45 v.1 _ h
    · have h := wp_f c h
      refine r_iload_n hc 2 rfl rfl dX1_most_12 ?_
      refine r_iload_n hc 1 rfl rfl dX1_most_13 ?_
      refine r_if_eq hc (tgt := 26) dX1_most_14 (by decide) (fun c => ?_) (fun c => ?_)
      · have h := wp_t c h
        refine r_aload_n hc 0 rfl rfl dX1_most_26 ?_
        obtain ⟨v2, ev2, h⟩ := wp_g h
        refine r_getR hc ev2 fl_X1_15 rfl dX1_most_27 ?_
        refine r_iload_n hc 3 rfl rfl dX1_most_30 ?_
        obtain ⟨v3, ev3, h⟩ := wp_g h
        refine r_iald hc ev3 dX1_most_31 ?_
        refine r_sub [0, 1, 3] (lv' := [(0, .ref (ad x0)), (1, .int x1), (3, .int v.2)]) rfl ?_
        exact t_X1_most_b32 hc h kn kx45
      · have h := wp_f c h
        refine r_aload_n hc 0 rfl rfl dX1_most_17 ?_
        obtain ⟨v4, ev4, h⟩ := wp_g h
        refine r_getR hc ev4 fl_X1_9 rfl dX1_most_18 ?_
        refine r_iload_n hc 3 rfl rfl dX1_most_21 ?_
        obtain ⟨v5, ev5, h⟩ := wp_g h
        refine r_iald hc ev5 dX1_most_22 ?_
        refine r_goto hc (tgt := 32) dX1_most_23 (by decide) ?_
        refine r_sub [0, 1, 3] (lv' := [(0, .ref (ad x0)), (1, .int x1), (3, .int v.2)]) rfl ?_
        exact t_X1_most_b32 hc h kn kx45
noncomputable def f_X1_most (x0 : Nat) (x1 : Int32) (σ : Hp) : Option (Int32 × Hp) := bO (wh (f_X1_most_L4 x0 x1) (0, 0) σ) fun y1 σ2 => (some (y1, σ2))
set_option maxRecDepth 100000 in
set_option maxHeartbeats 4000000 in
theorem t_X1_most {l : Launch} {γ : Gm} {ad : Nat → Nat} {K : Option Value → Hp → Prop} (hc : Cx l γ 2 4 ad shC RX1 cX1_most (some .int) K) {x0 : Nat} {x1 : Int32} {σ : Hp} (h : wpO (f_X1_most x0 x1 σ) (KI K)) : WW l γ 2 4 ad shC 0 [(0, .ref (ad x0)), (1, .int x1)] [] σ := by
  unfold f_X1_most at h
  refine r_iconst hc (v := 0) (by decide) dX1_most_0 ?_
  refine r_istore_nE hc (i := 2) (lv' := [(2, .int 0), (0, .ref (ad x0)), (1, .int x1)]) rfl rfl (by decide) rfl dX1_most_1 ?_
  refine r_iconst hc (v := 0) (by decide) dX1_most_2 ?_
  refine r_istore_nE hc (i := 3) (lv' := [(3, .int 0), (2, .int 0), (0, .ref (ad x0)), (1, .int x1)]) rfl rfl (by decide) rfl dX1_most_3 ?_
  refine r_sub [2, 3, 1, 0] (lv' := [(0, .ref (ad x0)), (1, .int x1), (2, .int 0), (3, .int 0)]) rfl ?_
  refine t_X1_most_L4 hc (wp_bb h) ?_
  · intro y1 σ2 h
    refine r_iload_n hc 0 rfl rfl dX1_most_45 ?_
    have h := wp_v h
    exact r_iret hc h dX1_most_46
theorem c_X1_most {l : Launch} {x0 : Nat} {x1 : Int32} {σ σ' : Hp} {r : Int32} (h : f_X1_most x0 x1 σ = some (r, σ')) : Mt l yX1_most cX1_most 4 (some .int) 2 shC (fun ad => [.ref (ad x0), .int x1]) σ (fun ad => some (.int r)) σ' := mt_i (own := RX1) (by decide) rfl (fun _ => Nat.le_of_ble_eq_true rfl) (fun γ ad K hc hk => t_X1_most hc ⟨_, _, h, hk⟩)

-- NetMaps$Net.onward(I)I
theorem dX1_onward_0 : decode cX1_onward 0 = .ok (.iconst 0, 1) := by decide +kernel
theorem dX1_onward_1 : decode cX1_onward 1 = .ok (.istore_n 2, 1) := by decide +kernel
theorem dX1_onward_2 : decode cX1_onward 2 = .ok (.iconst 0, 1) := by decide +kernel
theorem dX1_onward_3 : decode cX1_onward 3 = .ok (.istore_n 3, 1) := by decide +kernel
theorem dX1_onward_4 : decode cX1_onward 4 = .ok (.iload_n 3, 1) := by decide +kernel
theorem dX1_onward_5 : decode cX1_onward 5 = .ok (.aload_n 0, 1) := by decide +kernel
theorem dX1_onward_6 : decode cX1_onward 6 = .ok (.getfield 18, 3) := by decide +kernel
theorem dX1_onward_9 : decode cX1_onward 9 = .ok (.if_icmp .ge 26, 3) := by decide +kernel
theorem dX1_onward_12 : decode cX1_onward 12 = .ok (.iload_n 1, 1) := by decide +kernel
theorem dX1_onward_13 : decode cX1_onward 13 = .ok (.iload_n 3, 1) := by decide +kernel
theorem dX1_onward_14 : decode cX1_onward 14 = .ok (.invokestatic 26, 3) := by decide +kernel
theorem dX1_onward_17 : decode cX1_onward 17 = .ok (.ifCond .eq 12, 3) := by decide +kernel
theorem dX1_onward_20 : decode cX1_onward 20 = .ok (.iload_n 2, 1) := by decide +kernel
theorem dX1_onward_21 : decode cX1_onward 21 = .ok (.aload_n 0, 1) := by decide +kernel
theorem dX1_onward_22 : decode cX1_onward 22 = .ok (.getfield 9, 3) := by decide +kernel
theorem dX1_onward_25 : decode cX1_onward 25 = .ok (.iload_n 3, 1) := by decide +kernel
theorem dX1_onward_26 : decode cX1_onward 26 = .ok (.iaload, 1) := by decide +kernel
theorem dX1_onward_27 : decode cX1_onward 27 = .ok (.ior, 1) := by decide +kernel
theorem dX1_onward_28 : decode cX1_onward 28 = .ok (.istore_n 2, 1) := by decide +kernel
theorem dX1_onward_29 : decode cX1_onward 29 = .ok (.iinc 3 1, 3) := by decide +kernel
theorem dX1_onward_32 : decode cX1_onward 32 = .ok (.goto (-28), 3) := by decide +kernel
theorem dX1_onward_35 : decode cX1_onward 35 = .ok (.iload_n 2, 1) := by decide +kernel
theorem dX1_onward_36 : decode cX1_onward 36 = .ok (.ireturn, 1) := by decide +kernel
noncomputable def f_X1_onward_b29 (x0 : Nat) (x1 : Int32) (x2 : Int32) (x3 : Int32) (σ : Hp) : Option (((Int32 × Int32) ⊕ (Int32)) × Hp) := some (Sum.inl (x2, (x3 + 1)), σ)
set_option maxRecDepth 100000 in
set_option maxHeartbeats 4000000 in
theorem t_X1_onward_b29 {l : Launch} {γ : Gm} {ad : Nat → Nat} {K : Option Value → Hp → Prop} (hc : Cx l γ 2 4 ad shC RX1 cX1_onward (some .int) K) {x0 : Nat} {x1 : Int32} {x2 : Int32} {x3 : Int32}  {σ : Hp} {KL : ((Int32 × Int32) ⊕ (Int32)) → Hp → Prop} (h : wpO (f_X1_onward_b29 x0 x1 x2 x3 σ) KL) (kn : ∀ (v : (Int32 × Int32)) (σ : Hp), KL (Sum.inl v) σ → WW l γ 2 4 ad shC 4 [(0, .ref (ad x0)), (1, .int x1), (2, .int v.1), (3, .int v.2)] [] σ) (kx35 : ∀ (v : Int32) (σ : Hp), KL (Sum.inr v) σ → WW l γ 2 4 ad shC 35 [(2, .int v)] [] σ) : WW l γ 2 4 ad shC 29 [(0, .ref (ad x0)), (1, .int x1), (2, .int x2), (3, .int x3)] [] σ := by
  unfold f_X1_onward_b29 at h
  refine r_iincE hc (j := 3) (w := 1) (lv' := [(3, .int (x3 + 1)), (0, .ref (ad x0)), (1, .int x1), (2, .int x2)]) rfl (by decide) rfl (by decide) rfl dX1_onward_29 ?_
  refine r_goto hc (tgt := 4) dX1_onward_32 (by decide) ?_
  refine r_sub [1, 2, 3, 0] (lv' := [(0, .ref (ad x0)), (1, .int x1), (2, .int x2), (3, .int (x3 + 1))]) rfl ?_
  have h := wp_v h
  exact kn (x2, (x3 + 1)) _ h
noncomputable def f_X1_onward_L4 (x0 : Nat) (x1 : Int32) (v : (Int32 × Int32)) (σ : Hp) : Option (((Int32 × Int32) ⊕ (Int32)) × Hp) := gO (getI shC 1 x0 0 σ) fun v1 => if v1 ≤ v.2 then (some (Sum.inr v.1, σ)) else (bO (f_X6_has x1 v.2 σ) fun r2 σ3 => if r2 = 0 then (f_X1_onward_b29 x0 x1 v.1 v.2 σ3) else (gO (getR shC 1 x0 1 σ3) fun v4 => gO (aldI shC 0 v4 v.2 σ3) fun v5 => f_X1_onward_b29 x0 x1 (v.1 ||| v5) v.2 σ3))
set_option maxRecDepth 100000 in
set_option maxHeartbeats 4000000 in
theorem t_X1_onward_L4 {l : Launch} {γ : Gm} {ad : Nat → Nat} {K : Option Value → Hp → Prop}  (hc : Cx l γ 2 4 ad shC RX1 cX1_onward (some .int) K) {x0 : Nat} {x1 : Int32} {v : (Int32 × Int32)} {σ : Hp} {KX : (Int32) → Hp → Prop} (h : wpO (wh (f_X1_onward_L4 x0 x1) v σ) KX) (kx35 : ∀ (v : Int32) (σ : Hp), KX v σ → WW l γ 2 4 ad shC 35 [(2, .int v)] [] σ) : WW l γ 2 4 ad shC 4 [(0, .ref (ad x0)), (1, .int x1), (2, .int v.1), (3, .int v.2)] [] σ := by
  refine wh_W (P := fun v σ => WW l γ 2 4 ad shC 4 [(0, .ref (ad x0)), (1, .int x1), (2, .int v.1), (3, .int v.2)] [] σ) (fun v σ h => ?_) h
  have kn : ∀ (v : (Int32 × Int32)) (σ : Hp), WW l γ 2 4 ad shC 4 [(0, .ref (ad x0)), (1, .int x1), (2, .int v.1), (3, .int v.2)] [] σ → WW l γ 2 4 ad shC 4 [(0, .ref (ad x0)), (1, .int x1), (2, .int v.1), (3, .int v.2)] [] σ := fun _ _ h => h
  · unfold f_X1_onward_L4 at h
    refine r_iload_n hc 3 rfl rfl dX1_onward_4 ?_
    refine r_aload_n hc 0 rfl rfl dX1_onward_5 ?_
    obtain ⟨v1, ev1, h⟩ := wp_g h
    refine r_getI hc ev1 fl_X1_18 rfl dX1_onward_6 ?_
    refine r_icmp_ge hc (tgt := 35) dX1_onward_9 (by decide) (fun c => ?_) (fun c => ?_)
    · have h := wp_t c h
      refine r_sub [2] (lv' := [(2, .int v.1)]) rfl ?_
      have h := wp_v h
      exact kx35 v.1 _ h
    · have h := wp_f c h
      refine r_iload_n hc 1 rfl rfl dX1_onward_12 ?_
      refine r_iload_n hc 3 rfl rfl dX1_onward_13 ?_
      obtain ⟨r2, σ3, er2, h⟩ := wp_b h
      refine r_callSN hc ms_X6_has nl_X1_26 (c_X6_has er2) rfl rfl (by decide) rfl (Nat.le_of_ble_eq_true rfl) dX1_onward_14 ?_
      refine r_if_eq hc (tgt := 29) dX1_onward_17 (by decide) (fun c => ?_) (fun c => ?_)
      · have h := wp_t c h
        exact t_X1_onward_b29 hc h kn kx35
      · have h := wp_f c h
        refine r_iload_n hc 2 rfl rfl dX1_onward_20 ?_
        refine r_aload_n hc 0 rfl rfl dX1_onward_21 ?_
        obtain ⟨v4, ev4, h⟩ := wp_g h
        refine r_getR hc ev4 fl_X1_9 rfl dX1_onward_22 ?_
        refine r_iload_n hc 3 rfl rfl dX1_onward_25 ?_
        obtain ⟨v5, ev5, h⟩ := wp_g h
        refine r_iald hc ev5 dX1_onward_26 ?_
        refine r_ior hc dX1_onward_27 ?_
        refine r_istore_nE hc (i := 2) (lv' := [(2, .int (v.1 ||| v5)), (0, .ref (ad x0)), (1, .int x1), (3, .int v.2)]) rfl rfl (by decide) rfl dX1_onward_28 ?_
        refine r_sub [1, 2, 0, 3] (lv' := [(0, .ref (ad x0)), (1, .int x1), (2, .int (v.1 ||| v5)), (3, .int v.2)]) rfl ?_
        exact t_X1_onward_b29 hc h kn kx35
noncomputable def f_X1_onward (x0 : Nat) (x1 : Int32) (σ : Hp) : Option (Int32 × Hp) := bO (wh (f_X1_onward_L4 x0 x1) (0, 0) σ) fun y1 σ2 => (some (y1, σ2))
set_option maxRecDepth 100000 in
set_option maxHeartbeats 4000000 in
theorem t_X1_onward {l : Launch} {γ : Gm} {ad : Nat → Nat} {K : Option Value → Hp → Prop} (hc : Cx l γ 2 4 ad shC RX1 cX1_onward (some .int) K) {x0 : Nat} {x1 : Int32} {σ : Hp} (h : wpO (f_X1_onward x0 x1 σ) (KI K)) : WW l γ 2 4 ad shC 0 [(0, .ref (ad x0)), (1, .int x1)] [] σ := by
  unfold f_X1_onward at h
  refine r_iconst hc (v := 0) (by decide) dX1_onward_0 ?_
  refine r_istore_nE hc (i := 2) (lv' := [(2, .int 0), (0, .ref (ad x0)), (1, .int x1)]) rfl rfl (by decide) rfl dX1_onward_1 ?_
  refine r_iconst hc (v := 0) (by decide) dX1_onward_2 ?_
  refine r_istore_nE hc (i := 3) (lv' := [(3, .int 0), (2, .int 0), (0, .ref (ad x0)), (1, .int x1)]) rfl rfl (by decide) rfl dX1_onward_3 ?_
  refine r_sub [2, 3, 1, 0] (lv' := [(0, .ref (ad x0)), (1, .int x1), (2, .int 0), (3, .int 0)]) rfl ?_
  refine t_X1_onward_L4 hc (wp_bb h) ?_
  · intro y1 σ2 h
    refine r_iload_n hc 0 rfl rfl dX1_onward_35 ?_
    have h := wp_v h
    exact r_iret hc h dX1_onward_36
theorem c_X1_onward {l : Launch} {x0 : Nat} {x1 : Int32} {σ σ' : Hp} {r : Int32} (h : f_X1_onward x0 x1 σ = some (r, σ')) : Mt l yX1_onward cX1_onward 4 (some .int) 2 shC (fun ad => [.ref (ad x0), .int x1]) σ (fun ad => some (.int r)) σ' := mt_i (own := RX1) (by decide) rfl (fun _ => Nat.le_of_ble_eq_true rfl) (fun γ ad K hc hk => t_X1_onward hc ⟨_, _, h, hk⟩)

-- NetMaps$Net.ahead(I)I
theorem dX1_ahead_0 : decode cX1_ahead 0 = .ok (.aload_n 0, 1) := by decide +kernel
theorem dX1_ahead_1 : decode cX1_ahead 1 = .ok (.getfield 9, 3) := by decide +kernel
theorem dX1_ahead_4 : decode cX1_ahead 4 = .ok (.iload_n 1, 1) := by decide +kernel
theorem dX1_ahead_5 : decode cX1_ahead 5 = .ok (.iaload, 1) := by decide +kernel
theorem dX1_ahead_6 : decode cX1_ahead 6 = .ok (.istore_n 2, 1) := by decide +kernel
theorem dX1_ahead_7 : decode cX1_ahead 7 = .ok (.iconst 1, 1) := by decide +kernel
theorem dX1_ahead_8 : decode cX1_ahead 8 = .ok (.istore_n 3, 1) := by decide +kernel
theorem dX1_ahead_9 : decode cX1_ahead 9 = .ok (.iload_n 3, 1) := by decide +kernel
theorem dX1_ahead_10 : decode cX1_ahead 10 = .ok (.aload_n 0, 1) := by decide +kernel
theorem dX1_ahead_11 : decode cX1_ahead 11 = .ok (.getfield 18, 3) := by decide +kernel
theorem dX1_ahead_14 : decode cX1_ahead 14 = .ok (.if_icmp .ge 17, 3) := by decide +kernel
theorem dX1_ahead_17 : decode cX1_ahead 17 = .ok (.iload_n 2, 1) := by decide +kernel
theorem dX1_ahead_18 : decode cX1_ahead 18 = .ok (.aload_n 0, 1) := by decide +kernel
theorem dX1_ahead_19 : decode cX1_ahead 19 = .ok (.iload_n 2, 1) := by decide +kernel
theorem dX1_ahead_20 : decode cX1_ahead 20 = .ok (.invokevirtual 49, 3) := by decide +kernel
theorem dX1_ahead_23 : decode cX1_ahead 23 = .ok (.ior, 1) := by decide +kernel
theorem dX1_ahead_24 : decode cX1_ahead 24 = .ok (.istore_n 2, 1) := by decide +kernel
theorem dX1_ahead_25 : decode cX1_ahead 25 = .ok (.iinc 3 1, 3) := by decide +kernel
theorem dX1_ahead_28 : decode cX1_ahead 28 = .ok (.goto (-19), 3) := by decide +kernel
theorem dX1_ahead_31 : decode cX1_ahead 31 = .ok (.iload_n 2, 1) := by decide +kernel
theorem dX1_ahead_32 : decode cX1_ahead 32 = .ok (.ireturn, 1) := by decide +kernel
noncomputable def f_X1_ahead_L9 (x0 : Nat) (v : (Int32 × Int32)) (σ : Hp) : Option (((Int32 × Int32) ⊕ (Int32)) × Hp) := gO (getI shC 1 x0 0 σ) fun v1 => if v1 ≤ v.2 then (some (Sum.inr v.1, σ)) else (gO (chk shC x0 1) fun _ => bO (f_X1_onward x0 v.1 σ) fun r2 σ3 => some (Sum.inl ((v.1 ||| r2), (v.2 + 1)), σ3))
set_option maxRecDepth 100000 in
set_option maxHeartbeats 4000000 in
theorem t_X1_ahead_L9 {l : Launch} {γ : Gm} {ad : Nat → Nat} {K : Option Value → Hp → Prop}  (hc : Cx l γ 3 4 ad shC RX1 cX1_ahead (some .int) K) {x0 : Nat} {v : (Int32 × Int32)} {σ : Hp} {KX : (Int32) → Hp → Prop} (h : wpO (wh (f_X1_ahead_L9 x0) v σ) KX) (kx31 : ∀ (v : Int32) (σ : Hp), KX v σ → WW l γ 3 4 ad shC 31 [(2, .int v)] [] σ) : WW l γ 3 4 ad shC 9 [(0, .ref (ad x0)), (2, .int v.1), (3, .int v.2)] [] σ := by
  refine wh_W (P := fun v σ => WW l γ 3 4 ad shC 9 [(0, .ref (ad x0)), (2, .int v.1), (3, .int v.2)] [] σ) (fun v σ h => ?_) h
  have kn : ∀ (v : (Int32 × Int32)) (σ : Hp), WW l γ 3 4 ad shC 9 [(0, .ref (ad x0)), (2, .int v.1), (3, .int v.2)] [] σ → WW l γ 3 4 ad shC 9 [(0, .ref (ad x0)), (2, .int v.1), (3, .int v.2)] [] σ := fun _ _ h => h
  · unfold f_X1_ahead_L9 at h
    refine r_iload_n hc 2 rfl rfl dX1_ahead_9 ?_
    refine r_aload_n hc 0 rfl rfl dX1_ahead_10 ?_
    obtain ⟨v1, ev1, h⟩ := wp_g h
    refine r_getI hc ev1 fl_X1_18 rfl dX1_ahead_11 ?_
    refine r_icmp_ge hc (tgt := 31) dX1_ahead_14 (by decide) (fun c => ?_) (fun c => ?_)
    · have h := wp_t c h
      refine r_sub [1] (lv' := [(2, .int v.1)]) rfl ?_
      have h := wp_v h
      exact kx31 v.1 _ h
    · have h := wp_f c h
      refine r_iload_n hc 1 rfl rfl dX1_ahead_17 ?_
      refine r_aload_n hc 0 rfl rfl dX1_ahead_18 ?_
      refine r_iload_n hc 1 rfl rfl dX1_ahead_19 ?_
      obtain ⟨_, ek4, h⟩ := wp_g h
      obtain ⟨r2, σ3, er2, h⟩ := wp_b h
      refine r_callV hc (k0 := x0) mv_X1_onward ml_X1_49 (c_X1_onward er2) (chk_of ek4) cls_1.1 rfl rfl rfl (by decide) rfl (Nat.le_of_ble_eq_true rfl) dX1_ahead_20 ?_
      refine r_ior hc dX1_ahead_23 ?_
      refine r_istore_nE hc (i := 2) (lv' := [(2, .int (v.1 ||| r2)), (0, .ref (ad x0)), (3, .int v.2)]) rfl rfl (by decide) rfl dX1_ahead_24 ?_
      refine r_iincE hc (j := 2) (w := 1) (lv' := [(3, .int (v.2 + 1)), (2, .int (v.1 ||| r2)), (0, .ref (ad x0))]) rfl (by decide) rfl (by decide) rfl dX1_ahead_25 ?_
      refine r_goto hc (tgt := 9) dX1_ahead_28 (by decide) ?_
      refine r_sub [2, 1, 0] (lv' := [(0, .ref (ad x0)), (2, .int (v.1 ||| r2)), (3, .int (v.2 + 1))]) rfl ?_
      have h := wp_v h
      exact kn ((v.1 ||| r2), (v.2 + 1)) _ h
noncomputable def f_X1_ahead (x0 : Nat) (x1 : Int32) (σ : Hp) : Option (Int32 × Hp) := gO (getR shC 1 x0 1 σ) fun v1 => gO (aldI shC 0 v1 x1 σ) fun v2 => bO (wh (f_X1_ahead_L9 x0) (v2, 1) σ) fun y3 σ4 => (some (y3, σ4))
set_option maxRecDepth 100000 in
set_option maxHeartbeats 4000000 in
theorem t_X1_ahead {l : Launch} {γ : Gm} {ad : Nat → Nat} {K : Option Value → Hp → Prop} (hc : Cx l γ 3 4 ad shC RX1 cX1_ahead (some .int) K) {x0 : Nat} {x1 : Int32} {σ : Hp} (h : wpO (f_X1_ahead x0 x1 σ) (KI K)) : WW l γ 3 4 ad shC 0 [(0, .ref (ad x0)), (1, .int x1)] [] σ := by
  unfold f_X1_ahead at h
  refine r_aload_n hc 0 rfl rfl dX1_ahead_0 ?_
  obtain ⟨v1, ev1, h⟩ := wp_g h
  refine r_getR hc ev1 fl_X1_9 rfl dX1_ahead_1 ?_
  refine r_iload_n hc 1 rfl rfl dX1_ahead_4 ?_
  obtain ⟨v2, ev2, h⟩ := wp_g h
  refine r_iald hc ev2 dX1_ahead_5 ?_
  refine r_istore_nE hc (i := 2) (lv' := [(2, .int v2), (0, .ref (ad x0)), (1, .int x1)]) rfl rfl (by decide) rfl dX1_ahead_6 ?_
  refine r_iconst hc (v := 1) (by decide) dX1_ahead_7 ?_
  refine r_istore_nE hc (i := 3) (lv' := [(3, .int 1), (2, .int v2), (0, .ref (ad x0)), (1, .int x1)]) rfl rfl (by decide) rfl dX1_ahead_8 ?_
  refine r_sub [2, 1, 0] (lv' := [(0, .ref (ad x0)), (2, .int v2), (3, .int 1)]) rfl ?_
  refine t_X1_ahead_L9 hc (wp_bb h) ?_
  · intro y3 σ4 h
    refine r_iload_n hc 0 rfl rfl dX1_ahead_31 ?_
    have h := wp_v h
    exact r_iret hc h dX1_ahead_32
theorem c_X1_ahead {l : Launch} {x0 : Nat} {x1 : Int32} {σ σ' : Hp} {r : Int32} (h : f_X1_ahead x0 x1 σ = some (r, σ')) : Mt l yX1_ahead cX1_ahead 4 (some .int) 3 shC (fun ad => [.ref (ad x0), .int x1]) σ (fun ad => some (.int r)) σ' := mt_i (own := RX1) (by decide) rfl (fun _ => Nat.le_of_ble_eq_true rfl) (fun γ ad K hc hk => t_X1_ahead hc ⟨_, _, h, hk⟩)

-- NetMaps$Net.onRings()I
theorem dX1_onRings_0 : decode cX1_onRings 0 = .ok (.iconst 0, 1) := by decide +kernel
theorem dX1_onRings_1 : decode cX1_onRings 1 = .ok (.istore_n 1, 1) := by decide +kernel
theorem dX1_onRings_2 : decode cX1_onRings 2 = .ok (.iconst 0, 1) := by decide +kernel
theorem dX1_onRings_3 : decode cX1_onRings 3 = .ok (.istore_n 2, 1) := by decide +kernel
theorem dX1_onRings_4 : decode cX1_onRings 4 = .ok (.iload_n 2, 1) := by decide +kernel
theorem dX1_onRings_5 : decode cX1_onRings 5 = .ok (.aload_n 0, 1) := by decide +kernel
theorem dX1_onRings_6 : decode cX1_onRings 6 = .ok (.getfield 18, 3) := by decide +kernel
theorem dX1_onRings_9 : decode cX1_onRings 9 = .ok (.if_icmp .ge 21, 3) := by decide +kernel
theorem dX1_onRings_12 : decode cX1_onRings 12 = .ok (.iload_n 1, 1) := by decide +kernel
theorem dX1_onRings_13 : decode cX1_onRings 13 = .ok (.aload_n 0, 1) := by decide +kernel
theorem dX1_onRings_14 : decode cX1_onRings 14 = .ok (.iload_n 2, 1) := by decide +kernel
theorem dX1_onRings_15 : decode cX1_onRings 15 = .ok (.invokevirtual 55, 3) := by decide +kernel
theorem dX1_onRings_18 : decode cX1_onRings 18 = .ok (.iconst 1, 1) := by decide +kernel
theorem dX1_onRings_19 : decode cX1_onRings 19 = .ok (.iload_n 2, 1) := by decide +kernel
theorem dX1_onRings_20 : decode cX1_onRings 20 = .ok (.ishl, 1) := by decide +kernel
theorem dX1_onRings_21 : decode cX1_onRings 21 = .ok (.iand, 1) := by decide +kernel
theorem dX1_onRings_22 : decode cX1_onRings 22 = .ok (.ior, 1) := by decide +kernel
theorem dX1_onRings_23 : decode cX1_onRings 23 = .ok (.istore_n 1, 1) := by decide +kernel
theorem dX1_onRings_24 : decode cX1_onRings 24 = .ok (.iinc 2 1, 3) := by decide +kernel
theorem dX1_onRings_27 : decode cX1_onRings 27 = .ok (.goto (-23), 3) := by decide +kernel
theorem dX1_onRings_30 : decode cX1_onRings 30 = .ok (.iload_n 1, 1) := by decide +kernel
theorem dX1_onRings_31 : decode cX1_onRings 31 = .ok (.ireturn, 1) := by decide +kernel
noncomputable def f_X1_onRings_L4 (x0 : Nat) (v : (Int32 × Int32)) (σ : Hp) : Option (((Int32 × Int32) ⊕ (Int32)) × Hp) := gO (getI shC 1 x0 0 σ) fun v1 => if v1 ≤ v.2 then (some (Sum.inr v.1, σ)) else (gO (chk shC x0 1) fun _ => bO (f_X1_ahead x0 v.2 σ) fun r2 σ3 => lt' ((v.1 ||| (r2 &&& ((1 : Int32) <<< (v.2 &&& 31))))) fun t5 => some (Sum.inl (t5, (v.2 + 1)), σ3))
set_option maxRecDepth 100000 in
set_option maxHeartbeats 4000000 in
theorem t_X1_onRings_L4 {l : Launch} {γ : Gm} {ad : Nat → Nat} {K : Option Value → Hp → Prop}  (hc : Cx l γ 4 3 ad shC RX1 cX1_onRings (some .int) K) {x0 : Nat} {v : (Int32 × Int32)} {σ : Hp} {KX : (Int32) → Hp → Prop} (h : wpO (wh (f_X1_onRings_L4 x0) v σ) KX) (kx30 : ∀ (v : Int32) (σ : Hp), KX v σ → WW l γ 4 3 ad shC 30 [(1, .int v)] [] σ) : WW l γ 4 3 ad shC 4 [(0, .ref (ad x0)), (1, .int v.1), (2, .int v.2)] [] σ := by
  refine wh_W (P := fun v σ => WW l γ 4 3 ad shC 4 [(0, .ref (ad x0)), (1, .int v.1), (2, .int v.2)] [] σ) (fun v σ h => ?_) h
  have kn : ∀ (v : (Int32 × Int32)) (σ : Hp), WW l γ 4 3 ad shC 4 [(0, .ref (ad x0)), (1, .int v.1), (2, .int v.2)] [] σ → WW l γ 4 3 ad shC 4 [(0, .ref (ad x0)), (1, .int v.1), (2, .int v.2)] [] σ := fun _ _ h => h
  · unfold f_X1_onRings_L4 at h
    refine r_iload_n hc 2 rfl rfl dX1_onRings_4 ?_
    refine r_aload_n hc 0 rfl rfl dX1_onRings_5 ?_
    obtain ⟨v1, ev1, h⟩ := wp_g h
    refine r_getI hc ev1 fl_X1_18 rfl dX1_onRings_6 ?_
    refine r_icmp_ge hc (tgt := 30) dX1_onRings_9 (by decide) (fun c => ?_) (fun c => ?_)
    · have h := wp_t c h
      refine r_sub [1] (lv' := [(1, .int v.1)]) rfl ?_
      have h := wp_v h
      exact kx30 v.1 _ h
    · have h := wp_f c h
      refine r_iload_n hc 1 rfl rfl dX1_onRings_12 ?_
      refine r_aload_n hc 0 rfl rfl dX1_onRings_13 ?_
      refine r_iload_n hc 2 rfl rfl dX1_onRings_14 ?_
      obtain ⟨_, ek4, h⟩ := wp_g h
      obtain ⟨r2, σ3, er2, h⟩ := wp_b h
      refine r_callV hc (k0 := x0) mv_X1_ahead ml_X1_55 (c_X1_ahead er2) (chk_of ek4) cls_1.1 rfl rfl rfl (by decide) rfl (Nat.le_of_ble_eq_true rfl) dX1_onRings_15 ?_
      refine r_iconst hc (v := 1) (by decide) dX1_onRings_18 ?_
      refine r_iload_n hc 2 rfl rfl dX1_onRings_19 ?_
      refine r_ishl hc dX1_onRings_20 ?_
      refine r_iand hc dX1_onRings_21 ?_
      refine r_ior hc dX1_onRings_22 ?_
      obtain ⟨t5, et5, h⟩ := wp_l h
      refine r_istore_nE hc (i := 1) (lv' := [(1, .int t5), (0, .ref (ad x0)), (2, .int v.2)]) et5 rfl (by decide) rfl dX1_onRings_23 ?_
      refine r_iincE hc (j := 2) (w := 1) (lv' := [(2, .int (v.2 + 1)), (1, .int t5), (0, .ref (ad x0))]) rfl (by decide) rfl (by decide) rfl dX1_onRings_24 ?_
      refine r_goto hc (tgt := 4) dX1_onRings_27 (by decide) ?_
      refine r_sub [2, 1, 0] (lv' := [(0, .ref (ad x0)), (1, .int t5), (2, .int (v.2 + 1))]) rfl ?_
      have h := wp_v h
      exact kn (t5, (v.2 + 1)) _ h
noncomputable def f_X1_onRings (x0 : Nat) (σ : Hp) : Option (Int32 × Hp) := bO (wh (f_X1_onRings_L4 x0) (0, 0) σ) fun y1 σ2 => (some (y1, σ2))
set_option maxRecDepth 100000 in
set_option maxHeartbeats 4000000 in
theorem t_X1_onRings {l : Launch} {γ : Gm} {ad : Nat → Nat} {K : Option Value → Hp → Prop} (hc : Cx l γ 4 3 ad shC RX1 cX1_onRings (some .int) K) {x0 : Nat} {σ : Hp} (h : wpO (f_X1_onRings x0 σ) (KI K)) : WW l γ 4 3 ad shC 0 [(0, .ref (ad x0))] [] σ := by
  unfold f_X1_onRings at h
  refine r_iconst hc (v := 0) (by decide) dX1_onRings_0 ?_
  refine r_istore_nE hc (i := 1) (lv' := [(1, .int 0), (0, .ref (ad x0))]) rfl rfl (by decide) rfl dX1_onRings_1 ?_
  refine r_iconst hc (v := 0) (by decide) dX1_onRings_2 ?_
  refine r_istore_nE hc (i := 2) (lv' := [(2, .int 0), (1, .int 0), (0, .ref (ad x0))]) rfl rfl (by decide) rfl dX1_onRings_3 ?_
  refine r_sub [2, 1, 0] (lv' := [(0, .ref (ad x0)), (1, .int 0), (2, .int 0)]) rfl ?_
  refine t_X1_onRings_L4 hc (wp_bb h) ?_
  · intro y1 σ2 h
    refine r_iload_n hc 0 rfl rfl dX1_onRings_30 ?_
    have h := wp_v h
    exact r_iret hc h dX1_onRings_31
theorem c_X1_onRings {l : Launch} {x0 : Nat} {σ σ' : Hp} {r : Int32} (h : f_X1_onRings x0 σ = some (r, σ')) : Mt l yX1_onRings cX1_onRings 3 (some .int) 4 shC (fun ad => [.ref (ad x0)]) σ (fun ad => some (.int r)) σ' := mt_i (own := RX1) (by decide) rfl (fun _ => Nat.le_of_ble_eq_true rfl) (fun γ ad K hc hk => t_X1_onRings hc ⟨_, _, h, hk⟩)

-- NetMaps$Net.backward(I)I
theorem dX1_backward_0 : decode cX1_backward 0 = .ok (.iconst 0, 1) := by decide +kernel
theorem dX1_backward_1 : decode cX1_backward 1 = .ok (.istore_n 2, 1) := by decide +kernel
theorem dX1_backward_2 : decode cX1_backward 2 = .ok (.iconst 0, 1) := by decide +kernel
theorem dX1_backward_3 : decode cX1_backward 3 = .ok (.istore_n 3, 1) := by decide +kernel
theorem dX1_backward_4 : decode cX1_backward 4 = .ok (.iload_n 3, 1) := by decide +kernel
theorem dX1_backward_5 : decode cX1_backward 5 = .ok (.aload_n 0, 1) := by decide +kernel
theorem dX1_backward_6 : decode cX1_backward 6 = .ok (.getfield 18, 3) := by decide +kernel
theorem dX1_backward_9 : decode cX1_backward 9 = .ok (.if_icmp .ge 26, 3) := by decide +kernel
theorem dX1_backward_12 : decode cX1_backward 12 = .ok (.iload_n 1, 1) := by decide +kernel
theorem dX1_backward_13 : decode cX1_backward 13 = .ok (.iload_n 3, 1) := by decide +kernel
theorem dX1_backward_14 : decode cX1_backward 14 = .ok (.invokestatic 26, 3) := by decide +kernel
theorem dX1_backward_17 : decode cX1_backward 17 = .ok (.ifCond .eq 12, 3) := by decide +kernel
theorem dX1_backward_20 : decode cX1_backward 20 = .ok (.iload_n 2, 1) := by decide +kernel
theorem dX1_backward_21 : decode cX1_backward 21 = .ok (.aload_n 0, 1) := by decide +kernel
theorem dX1_backward_22 : decode cX1_backward 22 = .ok (.getfield 15, 3) := by decide +kernel
theorem dX1_backward_25 : decode cX1_backward 25 = .ok (.iload_n 3, 1) := by decide +kernel
theorem dX1_backward_26 : decode cX1_backward 26 = .ok (.iaload, 1) := by decide +kernel
theorem dX1_backward_27 : decode cX1_backward 27 = .ok (.ior, 1) := by decide +kernel
theorem dX1_backward_28 : decode cX1_backward 28 = .ok (.istore_n 2, 1) := by decide +kernel
theorem dX1_backward_29 : decode cX1_backward 29 = .ok (.iinc 3 1, 3) := by decide +kernel
theorem dX1_backward_32 : decode cX1_backward 32 = .ok (.goto (-28), 3) := by decide +kernel
theorem dX1_backward_35 : decode cX1_backward 35 = .ok (.iload_n 2, 1) := by decide +kernel
theorem dX1_backward_36 : decode cX1_backward 36 = .ok (.ireturn, 1) := by decide +kernel
noncomputable def f_X1_backward_b29 (x0 : Nat) (x1 : Int32) (x2 : Int32) (x3 : Int32) (σ : Hp) : Option (((Int32 × Int32) ⊕ (Int32)) × Hp) := some (Sum.inl (x2, (x3 + 1)), σ)
set_option maxRecDepth 100000 in
set_option maxHeartbeats 4000000 in
theorem t_X1_backward_b29 {l : Launch} {γ : Gm} {ad : Nat → Nat} {K : Option Value → Hp → Prop} (hc : Cx l γ 2 4 ad shC RX1 cX1_backward (some .int) K) {x0 : Nat} {x1 : Int32} {x2 : Int32} {x3 : Int32}  {σ : Hp} {KL : ((Int32 × Int32) ⊕ (Int32)) → Hp → Prop} (h : wpO (f_X1_backward_b29 x0 x1 x2 x3 σ) KL) (kn : ∀ (v : (Int32 × Int32)) (σ : Hp), KL (Sum.inl v) σ → WW l γ 2 4 ad shC 4 [(0, .ref (ad x0)), (1, .int x1), (2, .int v.1), (3, .int v.2)] [] σ) (kx35 : ∀ (v : Int32) (σ : Hp), KL (Sum.inr v) σ → WW l γ 2 4 ad shC 35 [(2, .int v)] [] σ) : WW l γ 2 4 ad shC 29 [(0, .ref (ad x0)), (1, .int x1), (2, .int x2), (3, .int x3)] [] σ := by
  unfold f_X1_backward_b29 at h
  refine r_iincE hc (j := 3) (w := 1) (lv' := [(3, .int (x3 + 1)), (0, .ref (ad x0)), (1, .int x1), (2, .int x2)]) rfl (by decide) rfl (by decide) rfl dX1_backward_29 ?_
  refine r_goto hc (tgt := 4) dX1_backward_32 (by decide) ?_
  refine r_sub [1, 2, 3, 0] (lv' := [(0, .ref (ad x0)), (1, .int x1), (2, .int x2), (3, .int (x3 + 1))]) rfl ?_
  have h := wp_v h
  exact kn (x2, (x3 + 1)) _ h
noncomputable def f_X1_backward_L4 (x0 : Nat) (x1 : Int32) (v : (Int32 × Int32)) (σ : Hp) : Option (((Int32 × Int32) ⊕ (Int32)) × Hp) := gO (getI shC 1 x0 0 σ) fun v1 => if v1 ≤ v.2 then (some (Sum.inr v.1, σ)) else (bO (f_X6_has x1 v.2 σ) fun r2 σ3 => if r2 = 0 then (f_X1_backward_b29 x0 x1 v.1 v.2 σ3) else (gO (getR shC 1 x0 2 σ3) fun v4 => gO (aldI shC 0 v4 v.2 σ3) fun v5 => f_X1_backward_b29 x0 x1 (v.1 ||| v5) v.2 σ3))
set_option maxRecDepth 100000 in
set_option maxHeartbeats 4000000 in
theorem t_X1_backward_L4 {l : Launch} {γ : Gm} {ad : Nat → Nat} {K : Option Value → Hp → Prop}  (hc : Cx l γ 2 4 ad shC RX1 cX1_backward (some .int) K) {x0 : Nat} {x1 : Int32} {v : (Int32 × Int32)} {σ : Hp} {KX : (Int32) → Hp → Prop} (h : wpO (wh (f_X1_backward_L4 x0 x1) v σ) KX) (kx35 : ∀ (v : Int32) (σ : Hp), KX v σ → WW l γ 2 4 ad shC 35 [(2, .int v)] [] σ) : WW l γ 2 4 ad shC 4 [(0, .ref (ad x0)), (1, .int x1), (2, .int v.1), (3, .int v.2)] [] σ := by
  refine wh_W (P := fun v σ => WW l γ 2 4 ad shC 4 [(0, .ref (ad x0)), (1, .int x1), (2, .int v.1), (3, .int v.2)] [] σ) (fun v σ h => ?_) h
  have kn : ∀ (v : (Int32 × Int32)) (σ : Hp), WW l γ 2 4 ad shC 4 [(0, .ref (ad x0)), (1, .int x1), (2, .int v.1), (3, .int v.2)] [] σ → WW l γ 2 4 ad shC 4 [(0, .ref (ad x0)), (1, .int x1), (2, .int v.1), (3, .int v.2)] [] σ := fun _ _ h => h
  · unfold f_X1_backward_L4 at h
    refine r_iload_n hc 3 rfl rfl dX1_backward_4 ?_
    refine r_aload_n hc 0 rfl rfl dX1_backward_5 ?_
    obtain ⟨v1, ev1, h⟩ := wp_g h
    refine r_getI hc ev1 fl_X1_18 rfl dX1_backward_6 ?_
    refine r_icmp_ge hc (tgt := 35) dX1_backward_9 (by decide) (fun c => ?_) (fun c => ?_)
    · have h := wp_t c h
      refine r_sub [2] (lv' := [(2, .int v.1)]) rfl ?_
      have h := wp_v h
      exact kx35 v.1 _ h
    · have h := wp_f c h
      refine r_iload_n hc 1 rfl rfl dX1_backward_12 ?_
      refine r_iload_n hc 3 rfl rfl dX1_backward_13 ?_
      obtain ⟨r2, σ3, er2, h⟩ := wp_b h
      refine r_callSN hc ms_X6_has nl_X1_26 (c_X6_has er2) rfl rfl (by decide) rfl (Nat.le_of_ble_eq_true rfl) dX1_backward_14 ?_
      refine r_if_eq hc (tgt := 29) dX1_backward_17 (by decide) (fun c => ?_) (fun c => ?_)
      · have h := wp_t c h
        exact t_X1_backward_b29 hc h kn kx35
      · have h := wp_f c h
        refine r_iload_n hc 2 rfl rfl dX1_backward_20 ?_
        refine r_aload_n hc 0 rfl rfl dX1_backward_21 ?_
        obtain ⟨v4, ev4, h⟩ := wp_g h
        refine r_getR hc ev4 fl_X1_15 rfl dX1_backward_22 ?_
        refine r_iload_n hc 3 rfl rfl dX1_backward_25 ?_
        obtain ⟨v5, ev5, h⟩ := wp_g h
        refine r_iald hc ev5 dX1_backward_26 ?_
        refine r_ior hc dX1_backward_27 ?_
        refine r_istore_nE hc (i := 2) (lv' := [(2, .int (v.1 ||| v5)), (0, .ref (ad x0)), (1, .int x1), (3, .int v.2)]) rfl rfl (by decide) rfl dX1_backward_28 ?_
        refine r_sub [1, 2, 0, 3] (lv' := [(0, .ref (ad x0)), (1, .int x1), (2, .int (v.1 ||| v5)), (3, .int v.2)]) rfl ?_
        exact t_X1_backward_b29 hc h kn kx35
noncomputable def f_X1_backward (x0 : Nat) (x1 : Int32) (σ : Hp) : Option (Int32 × Hp) := bO (wh (f_X1_backward_L4 x0 x1) (0, 0) σ) fun y1 σ2 => (some (y1, σ2))
set_option maxRecDepth 100000 in
set_option maxHeartbeats 4000000 in
theorem t_X1_backward {l : Launch} {γ : Gm} {ad : Nat → Nat} {K : Option Value → Hp → Prop} (hc : Cx l γ 2 4 ad shC RX1 cX1_backward (some .int) K) {x0 : Nat} {x1 : Int32} {σ : Hp} (h : wpO (f_X1_backward x0 x1 σ) (KI K)) : WW l γ 2 4 ad shC 0 [(0, .ref (ad x0)), (1, .int x1)] [] σ := by
  unfold f_X1_backward at h
  refine r_iconst hc (v := 0) (by decide) dX1_backward_0 ?_
  refine r_istore_nE hc (i := 2) (lv' := [(2, .int 0), (0, .ref (ad x0)), (1, .int x1)]) rfl rfl (by decide) rfl dX1_backward_1 ?_
  refine r_iconst hc (v := 0) (by decide) dX1_backward_2 ?_
  refine r_istore_nE hc (i := 3) (lv' := [(3, .int 0), (2, .int 0), (0, .ref (ad x0)), (1, .int x1)]) rfl rfl (by decide) rfl dX1_backward_3 ?_
  refine r_sub [2, 3, 1, 0] (lv' := [(0, .ref (ad x0)), (1, .int x1), (2, .int 0), (3, .int 0)]) rfl ?_
  refine t_X1_backward_L4 hc (wp_bb h) ?_
  · intro y1 σ2 h
    refine r_iload_n hc 0 rfl rfl dX1_backward_35 ?_
    have h := wp_v h
    exact r_iret hc h dX1_backward_36
theorem c_X1_backward {l : Launch} {x0 : Nat} {x1 : Int32} {σ σ' : Hp} {r : Int32} (h : f_X1_backward x0 x1 σ = some (r, σ')) : Mt l yX1_backward cX1_backward 4 (some .int) 2 shC (fun ad => [.ref (ad x0), .int x1]) σ (fun ad => some (.int r)) σ' := mt_i (own := RX1) (by decide) rfl (fun _ => Nat.le_of_ble_eq_true rfl) (fun γ ad K hc hk => t_X1_backward hc ⟨_, _, h, hk⟩)

-- NetMaps$Net.piece(I)I
theorem dX1_piece_0 : decode cX1_piece 0 = .ok (.iconst 1, 1) := by decide +kernel
theorem dX1_piece_1 : decode cX1_piece 1 = .ok (.iload_n 1, 1) := by decide +kernel
theorem dX1_piece_2 : decode cX1_piece 2 = .ok (.ishl, 1) := by decide +kernel
theorem dX1_piece_3 : decode cX1_piece 3 = .ok (.istore_n 2, 1) := by decide +kernel
theorem dX1_piece_4 : decode cX1_piece 4 = .ok (.iconst 1, 1) := by decide +kernel
theorem dX1_piece_5 : decode cX1_piece 5 = .ok (.istore_n 3, 1) := by decide +kernel
theorem dX1_piece_6 : decode cX1_piece 6 = .ok (.iload_n 3, 1) := by decide +kernel
theorem dX1_piece_7 : decode cX1_piece 7 = .ok (.aload_n 0, 1) := by decide +kernel
theorem dX1_piece_8 : decode cX1_piece 8 = .ok (.getfield 18, 3) := by decide +kernel
theorem dX1_piece_11 : decode cX1_piece 11 = .ok (.if_icmp .ge 23, 3) := by decide +kernel
theorem dX1_piece_14 : decode cX1_piece 14 = .ok (.iload_n 2, 1) := by decide +kernel
theorem dX1_piece_15 : decode cX1_piece 15 = .ok (.aload_n 0, 1) := by decide +kernel
theorem dX1_piece_16 : decode cX1_piece 16 = .ok (.iload_n 2, 1) := by decide +kernel
theorem dX1_piece_17 : decode cX1_piece 17 = .ok (.invokevirtual 49, 3) := by decide +kernel
theorem dX1_piece_20 : decode cX1_piece 20 = .ok (.aload_n 0, 1) := by decide +kernel
theorem dX1_piece_21 : decode cX1_piece 21 = .ok (.iload_n 2, 1) := by decide +kernel
theorem dX1_piece_22 : decode cX1_piece 22 = .ok (.invokevirtual 52, 3) := by decide +kernel
theorem dX1_piece_25 : decode cX1_piece 25 = .ok (.ior, 1) := by decide +kernel
theorem dX1_piece_26 : decode cX1_piece 26 = .ok (.ior, 1) := by decide +kernel
theorem dX1_piece_27 : decode cX1_piece 27 = .ok (.istore_n 2, 1) := by decide +kernel
theorem dX1_piece_28 : decode cX1_piece 28 = .ok (.iinc 3 1, 3) := by decide +kernel
theorem dX1_piece_31 : decode cX1_piece 31 = .ok (.goto (-25), 3) := by decide +kernel
theorem dX1_piece_34 : decode cX1_piece 34 = .ok (.iload_n 2, 1) := by decide +kernel
theorem dX1_piece_35 : decode cX1_piece 35 = .ok (.ireturn, 1) := by decide +kernel
noncomputable def f_X1_piece_L6 (x0 : Nat) (v : (Int32 × Int32)) (σ : Hp) : Option (((Int32 × Int32) ⊕ (Int32)) × Hp) := gO (getI shC 1 x0 0 σ) fun v1 => if v1 ≤ v.2 then (some (Sum.inr v.1, σ)) else (gO (chk shC x0 1) fun _ => bO (f_X1_onward x0 v.1 σ) fun r2 σ3 => gO (chk shC x0 1) fun _ => bO (f_X1_backward x0 v.1 σ3) fun r5 σ6 => some (Sum.inl ((v.1 ||| (r2 ||| r5)), (v.2 + 1)), σ6))
set_option maxRecDepth 100000 in
set_option maxHeartbeats 4000000 in
theorem t_X1_piece_L6 {l : Launch} {γ : Gm} {ad : Nat → Nat} {K : Option Value → Hp → Prop}  (hc : Cx l γ 3 4 ad shC RX1 cX1_piece (some .int) K) {x0 : Nat} {v : (Int32 × Int32)} {σ : Hp} {KX : (Int32) → Hp → Prop} (h : wpO (wh (f_X1_piece_L6 x0) v σ) KX) (kx34 : ∀ (v : Int32) (σ : Hp), KX v σ → WW l γ 3 4 ad shC 34 [(2, .int v)] [] σ) : WW l γ 3 4 ad shC 6 [(0, .ref (ad x0)), (2, .int v.1), (3, .int v.2)] [] σ := by
  refine wh_W (P := fun v σ => WW l γ 3 4 ad shC 6 [(0, .ref (ad x0)), (2, .int v.1), (3, .int v.2)] [] σ) (fun v σ h => ?_) h
  have kn : ∀ (v : (Int32 × Int32)) (σ : Hp), WW l γ 3 4 ad shC 6 [(0, .ref (ad x0)), (2, .int v.1), (3, .int v.2)] [] σ → WW l γ 3 4 ad shC 6 [(0, .ref (ad x0)), (2, .int v.1), (3, .int v.2)] [] σ := fun _ _ h => h
  · unfold f_X1_piece_L6 at h
    refine r_iload_n hc 2 rfl rfl dX1_piece_6 ?_
    refine r_aload_n hc 0 rfl rfl dX1_piece_7 ?_
    obtain ⟨v1, ev1, h⟩ := wp_g h
    refine r_getI hc ev1 fl_X1_18 rfl dX1_piece_8 ?_
    refine r_icmp_ge hc (tgt := 34) dX1_piece_11 (by decide) (fun c => ?_) (fun c => ?_)
    · have h := wp_t c h
      refine r_sub [1] (lv' := [(2, .int v.1)]) rfl ?_
      have h := wp_v h
      exact kx34 v.1 _ h
    · have h := wp_f c h
      refine r_iload_n hc 1 rfl rfl dX1_piece_14 ?_
      refine r_aload_n hc 0 rfl rfl dX1_piece_15 ?_
      refine r_iload_n hc 1 rfl rfl dX1_piece_16 ?_
      obtain ⟨_, ek4, h⟩ := wp_g h
      obtain ⟨r2, σ3, er2, h⟩ := wp_b h
      refine r_callV hc (k0 := x0) mv_X1_onward ml_X1_49 (c_X1_onward er2) (chk_of ek4) cls_1.1 rfl rfl rfl (by decide) rfl (Nat.le_of_ble_eq_true rfl) dX1_piece_17 ?_
      refine r_aload_n hc 0 rfl rfl dX1_piece_20 ?_
      refine r_iload_n hc 1 rfl rfl dX1_piece_21 ?_
      obtain ⟨_, ek7, h⟩ := wp_g h
      obtain ⟨r5, σ6, er5, h⟩ := wp_b h
      refine r_callV hc (k0 := x0) mv_X1_backward ml_X1_52 (c_X1_backward er5) (chk_of ek7) cls_1.1 rfl rfl rfl (by decide) rfl (Nat.le_of_ble_eq_true rfl) dX1_piece_22 ?_
      refine r_ior hc dX1_piece_25 ?_
      refine r_ior hc dX1_piece_26 ?_
      refine r_istore_nE hc (i := 2) (lv' := [(2, .int (v.1 ||| (r2 ||| r5))), (0, .ref (ad x0)), (3, .int v.2)]) rfl rfl (by decide) rfl dX1_piece_27 ?_
      refine r_iincE hc (j := 2) (w := 1) (lv' := [(3, .int (v.2 + 1)), (2, .int (v.1 ||| (r2 ||| r5))), (0, .ref (ad x0))]) rfl (by decide) rfl (by decide) rfl dX1_piece_28 ?_
      refine r_goto hc (tgt := 6) dX1_piece_31 (by decide) ?_
      refine r_sub [2, 1, 0] (lv' := [(0, .ref (ad x0)), (2, .int (v.1 ||| (r2 ||| r5))), (3, .int (v.2 + 1))]) rfl ?_
      have h := wp_v h
      exact kn ((v.1 ||| (r2 ||| r5)), (v.2 + 1)) _ h
noncomputable def f_X1_piece (x0 : Nat) (x1 : Int32) (σ : Hp) : Option (Int32 × Hp) := lt' (((1 : Int32) <<< (x1 &&& 31))) fun t1 => bO (wh (f_X1_piece_L6 x0) (t1, 1) σ) fun y2 σ3 => (some (y2, σ3))
set_option maxRecDepth 100000 in
set_option maxHeartbeats 4000000 in
theorem t_X1_piece {l : Launch} {γ : Gm} {ad : Nat → Nat} {K : Option Value → Hp → Prop} (hc : Cx l γ 3 4 ad shC RX1 cX1_piece (some .int) K) {x0 : Nat} {x1 : Int32} {σ : Hp} (h : wpO (f_X1_piece x0 x1 σ) (KI K)) : WW l γ 3 4 ad shC 0 [(0, .ref (ad x0)), (1, .int x1)] [] σ := by
  unfold f_X1_piece at h
  refine r_iconst hc (v := 1) (by decide) dX1_piece_0 ?_
  refine r_iload_n hc 1 rfl rfl dX1_piece_1 ?_
  refine r_ishl hc dX1_piece_2 ?_
  obtain ⟨t1, et1, h⟩ := wp_l h
  refine r_istore_nE hc (i := 2) (lv' := [(2, .int t1), (0, .ref (ad x0)), (1, .int x1)]) et1 rfl (by decide) rfl dX1_piece_3 ?_
  refine r_iconst hc (v := 1) (by decide) dX1_piece_4 ?_
  refine r_istore_nE hc (i := 3) (lv' := [(3, .int 1), (2, .int t1), (0, .ref (ad x0)), (1, .int x1)]) rfl rfl (by decide) rfl dX1_piece_5 ?_
  refine r_sub [2, 1, 0] (lv' := [(0, .ref (ad x0)), (2, .int t1), (3, .int 1)]) rfl ?_
  refine t_X1_piece_L6 hc (wp_bb h) ?_
  · intro y2 σ3 h
    refine r_iload_n hc 0 rfl rfl dX1_piece_34 ?_
    have h := wp_v h
    exact r_iret hc h dX1_piece_35
theorem c_X1_piece {l : Launch} {x0 : Nat} {x1 : Int32} {σ σ' : Hp} {r : Int32} (h : f_X1_piece x0 x1 σ = some (r, σ')) : Mt l yX1_piece cX1_piece 4 (some .int) 3 shC (fun ad => [.ref (ad x0), .int x1]) σ (fun ad => some (.int r)) σ' := mt_i (own := RX1) (by decide) rfl (fun _ => Nat.le_of_ble_eq_true rfl) (fun γ ad K hc hk => t_X1_piece hc ⟨_, _, h, hk⟩)

-- NetMaps$Net.pieces()I
theorem dX1_pieces_0 : decode cX1_pieces 0 = .ok (.iconst 0, 1) := by decide +kernel
theorem dX1_pieces_1 : decode cX1_pieces 1 = .ok (.istore_n 1, 1) := by decide +kernel
theorem dX1_pieces_2 : decode cX1_pieces 2 = .ok (.iconst 0, 1) := by decide +kernel
theorem dX1_pieces_3 : decode cX1_pieces 3 = .ok (.istore_n 2, 1) := by decide +kernel
theorem dX1_pieces_4 : decode cX1_pieces 4 = .ok (.iconst 0, 1) := by decide +kernel
theorem dX1_pieces_5 : decode cX1_pieces 5 = .ok (.istore_n 3, 1) := by decide +kernel
theorem dX1_pieces_6 : decode cX1_pieces 6 = .ok (.iload_n 3, 1) := by decide +kernel
theorem dX1_pieces_7 : decode cX1_pieces 7 = .ok (.aload_n 0, 1) := by decide +kernel
theorem dX1_pieces_8 : decode cX1_pieces 8 = .ok (.getfield 18, 3) := by decide +kernel
theorem dX1_pieces_11 : decode cX1_pieces 11 = .ok (.if_icmp .ge 28, 3) := by decide +kernel
theorem dX1_pieces_14 : decode cX1_pieces 14 = .ok (.iload_n 1, 1) := by decide +kernel
theorem dX1_pieces_15 : decode cX1_pieces 15 = .ok (.iload_n 3, 1) := by decide +kernel
theorem dX1_pieces_16 : decode cX1_pieces 16 = .ok (.invokestatic 26, 3) := by decide +kernel
theorem dX1_pieces_19 : decode cX1_pieces 19 = .ok (.ifCond .ne 14, 3) := by decide +kernel
theorem dX1_pieces_22 : decode cX1_pieces 22 = .ok (.iload_n 1, 1) := by decide +kernel
theorem dX1_pieces_23 : decode cX1_pieces 23 = .ok (.aload_n 0, 1) := by decide +kernel
theorem dX1_pieces_24 : decode cX1_pieces 24 = .ok (.iload_n 3, 1) := by decide +kernel
theorem dX1_pieces_25 : decode cX1_pieces 25 = .ok (.invokevirtual 46, 3) := by decide +kernel
theorem dX1_pieces_28 : decode cX1_pieces 28 = .ok (.ior, 1) := by decide +kernel
theorem dX1_pieces_29 : decode cX1_pieces 29 = .ok (.istore_n 1, 1) := by decide +kernel
theorem dX1_pieces_30 : decode cX1_pieces 30 = .ok (.iinc 2 1, 3) := by decide +kernel
theorem dX1_pieces_33 : decode cX1_pieces 33 = .ok (.iinc 3 1, 3) := by decide +kernel
theorem dX1_pieces_36 : decode cX1_pieces 36 = .ok (.goto (-30), 3) := by decide +kernel
theorem dX1_pieces_39 : decode cX1_pieces 39 = .ok (.iload_n 2, 1) := by decide +kernel
theorem dX1_pieces_40 : decode cX1_pieces 40 = .ok (.ireturn, 1) := by decide +kernel
noncomputable def f_X1_pieces_b33 (x0 : Nat) (x1 : Int32) (x2 : Int32) (x3 : Int32) (σ : Hp) : Option (((Int32 × Int32 × Int32) ⊕ (Int32)) × Hp) := some (Sum.inl (x1, x2, (x3 + 1)), σ)
set_option maxRecDepth 100000 in
set_option maxHeartbeats 4000000 in
theorem t_X1_pieces_b33 {l : Launch} {γ : Gm} {ad : Nat → Nat} {K : Option Value → Hp → Prop} (hc : Cx l γ 4 4 ad shC RX1 cX1_pieces (some .int) K) {x0 : Nat} {x1 : Int32} {x2 : Int32} {x3 : Int32}  {σ : Hp} {KL : ((Int32 × Int32 × Int32) ⊕ (Int32)) → Hp → Prop} (h : wpO (f_X1_pieces_b33 x0 x1 x2 x3 σ) KL) (kn : ∀ (v : (Int32 × Int32 × Int32)) (σ : Hp), KL (Sum.inl v) σ → WW l γ 4 4 ad shC 6 [(0, .ref (ad x0)), (1, .int v.1), (2, .int v.2.1), (3, .int v.2.2)] [] σ) (kx39 : ∀ (v : Int32) (σ : Hp), KL (Sum.inr v) σ → WW l γ 4 4 ad shC 39 [(2, .int v)] [] σ) : WW l γ 4 4 ad shC 33 [(0, .ref (ad x0)), (1, .int x1), (2, .int x2), (3, .int x3)] [] σ := by
  unfold f_X1_pieces_b33 at h
  refine r_iincE hc (j := 3) (w := 1) (lv' := [(3, .int (x3 + 1)), (0, .ref (ad x0)), (1, .int x1), (2, .int x2)]) rfl (by decide) rfl (by decide) rfl dX1_pieces_33 ?_
  refine r_goto hc (tgt := 6) dX1_pieces_36 (by decide) ?_
  refine r_sub [1, 2, 3, 0] (lv' := [(0, .ref (ad x0)), (1, .int x1), (2, .int x2), (3, .int (x3 + 1))]) rfl ?_
  have h := wp_v h
  exact kn (x1, x2, (x3 + 1)) _ h
noncomputable def f_X1_pieces_L6 (x0 : Nat) (v : (Int32 × Int32 × Int32)) (σ : Hp) : Option (((Int32 × Int32 × Int32) ⊕ (Int32)) × Hp) := gO (getI shC 1 x0 0 σ) fun v1 => if v1 ≤ v.2.2 then (some (Sum.inr v.2.1, σ)) else (bO (f_X6_has v.1 v.2.2 σ) fun r2 σ3 => if r2 = 0 then (gO (chk shC x0 1) fun _ => bO (f_X1_piece x0 v.2.2 σ3) fun r4 σ5 => f_X1_pieces_b33 x0 (v.1 ||| r4) (v.2.1 + 1) v.2.2 σ5) else (f_X1_pieces_b33 x0 v.1 v.2.1 v.2.2 σ3))
set_option maxRecDepth 100000 in
set_option maxHeartbeats 4000000 in
theorem t_X1_pieces_L6 {l : Launch} {γ : Gm} {ad : Nat → Nat} {K : Option Value → Hp → Prop}  (hc : Cx l γ 4 4 ad shC RX1 cX1_pieces (some .int) K) {x0 : Nat} {v : (Int32 × Int32 × Int32)} {σ : Hp} {KX : (Int32) → Hp → Prop} (h : wpO (wh (f_X1_pieces_L6 x0) v σ) KX) (kx39 : ∀ (v : Int32) (σ : Hp), KX v σ → WW l γ 4 4 ad shC 39 [(2, .int v)] [] σ) : WW l γ 4 4 ad shC 6 [(0, .ref (ad x0)), (1, .int v.1), (2, .int v.2.1), (3, .int v.2.2)] [] σ := by
  refine wh_W (P := fun v σ => WW l γ 4 4 ad shC 6 [(0, .ref (ad x0)), (1, .int v.1), (2, .int v.2.1), (3, .int v.2.2)] [] σ) (fun v σ h => ?_) h
  have kn : ∀ (v : (Int32 × Int32 × Int32)) (σ : Hp), WW l γ 4 4 ad shC 6 [(0, .ref (ad x0)), (1, .int v.1), (2, .int v.2.1), (3, .int v.2.2)] [] σ → WW l γ 4 4 ad shC 6 [(0, .ref (ad x0)), (1, .int v.1), (2, .int v.2.1), (3, .int v.2.2)] [] σ := fun _ _ h => h
  · unfold f_X1_pieces_L6 at h
    refine r_iload_n hc 3 rfl rfl dX1_pieces_6 ?_
    refine r_aload_n hc 0 rfl rfl dX1_pieces_7 ?_
    obtain ⟨v1, ev1, h⟩ := wp_g h
    refine r_getI hc ev1 fl_X1_18 rfl dX1_pieces_8 ?_
    refine r_icmp_ge hc (tgt := 39) dX1_pieces_11 (by decide) (fun c => ?_) (fun c => ?_)
    · have h := wp_t c h
      refine r_sub [2] (lv' := [(2, .int v.2.1)]) rfl ?_
      have h := wp_v h
      exact kx39 v.2.1 _ h
    · have h := wp_f c h
      refine r_iload_n hc 1 rfl rfl dX1_pieces_14 ?_
      refine r_iload_n hc 3 rfl rfl dX1_pieces_15 ?_
      obtain ⟨r2, σ3, er2, h⟩ := wp_b h
      refine r_callSN hc ms_X6_has nl_X1_26 (c_X6_has er2) rfl rfl (by decide) rfl (Nat.le_of_ble_eq_true rfl) dX1_pieces_16 ?_
      refine r_if_ne hc (tgt := 33) dX1_pieces_19 (by decide) (fun c => ?_) (fun c => ?_)
      · have h := wp_f c h
        exact t_X1_pieces_b33 hc h kn kx39
      · have h := wp_t c h
        refine r_iload_n hc 1 rfl rfl dX1_pieces_22 ?_
        refine r_aload_n hc 0 rfl rfl dX1_pieces_23 ?_
        refine r_iload_n hc 3 rfl rfl dX1_pieces_24 ?_
        obtain ⟨_, ek6, h⟩ := wp_g h
        obtain ⟨r4, σ5, er4, h⟩ := wp_b h
        refine r_callV hc (k0 := x0) mv_X1_piece ml_X1_46 (c_X1_piece er4) (chk_of ek6) cls_1.1 rfl rfl rfl (by decide) rfl (Nat.le_of_ble_eq_true rfl) dX1_pieces_25 ?_
        refine r_ior hc dX1_pieces_28 ?_
        refine r_istore_nE hc (i := 1) (lv' := [(1, .int (v.1 ||| r4)), (0, .ref (ad x0)), (2, .int v.2.1), (3, .int v.2.2)]) rfl rfl (by decide) rfl dX1_pieces_29 ?_
        refine r_iincE hc (j := 2) (w := 1) (lv' := [(2, .int (v.2.1 + 1)), (1, .int (v.1 ||| r4)), (0, .ref (ad x0)), (3, .int v.2.2)]) rfl (by decide) rfl (by decide) rfl dX1_pieces_30 ?_
        refine r_sub [2, 1, 0, 3] (lv' := [(0, .ref (ad x0)), (1, .int (v.1 ||| r4)), (2, .int (v.2.1 + 1)), (3, .int v.2.2)]) rfl ?_
        exact t_X1_pieces_b33 hc h kn kx39
noncomputable def f_X1_pieces (x0 : Nat) (σ : Hp) : Option (Int32 × Hp) := bO (wh (f_X1_pieces_L6 x0) (0, 0, 0) σ) fun y1 σ2 => (some (y1, σ2))
set_option maxRecDepth 100000 in
set_option maxHeartbeats 4000000 in
theorem t_X1_pieces {l : Launch} {γ : Gm} {ad : Nat → Nat} {K : Option Value → Hp → Prop} (hc : Cx l γ 4 4 ad shC RX1 cX1_pieces (some .int) K) {x0 : Nat} {σ : Hp} (h : wpO (f_X1_pieces x0 σ) (KI K)) : WW l γ 4 4 ad shC 0 [(0, .ref (ad x0))] [] σ := by
  unfold f_X1_pieces at h
  refine r_iconst hc (v := 0) (by decide) dX1_pieces_0 ?_
  refine r_istore_nE hc (i := 1) (lv' := [(1, .int 0), (0, .ref (ad x0))]) rfl rfl (by decide) rfl dX1_pieces_1 ?_
  refine r_iconst hc (v := 0) (by decide) dX1_pieces_2 ?_
  refine r_istore_nE hc (i := 2) (lv' := [(2, .int 0), (1, .int 0), (0, .ref (ad x0))]) rfl rfl (by decide) rfl dX1_pieces_3 ?_
  refine r_iconst hc (v := 0) (by decide) dX1_pieces_4 ?_
  refine r_istore_nE hc (i := 3) (lv' := [(3, .int 0), (2, .int 0), (1, .int 0), (0, .ref (ad x0))]) rfl rfl (by decide) rfl dX1_pieces_5 ?_
  refine r_sub [3, 2, 1, 0] (lv' := [(0, .ref (ad x0)), (1, .int 0), (2, .int 0), (3, .int 0)]) rfl ?_
  refine t_X1_pieces_L6 hc (wp_bb h) ?_
  · intro y1 σ2 h
    refine r_iload_n hc 0 rfl rfl dX1_pieces_39 ?_
    have h := wp_v h
    exact r_iret hc h dX1_pieces_40
theorem c_X1_pieces {l : Launch} {x0 : Nat} {σ σ' : Hp} {r : Int32} (h : f_X1_pieces x0 σ = some (r, σ')) : Mt l yX1_pieces cX1_pieces 4 (some .int) 4 shC (fun ad => [.ref (ad x0)]) σ (fun ad => some (.int r)) σ' := mt_i (own := RX1) (by decide) rfl (fun _ => Nat.le_of_ble_eq_true rfl) (fun γ ad K hc hk => t_X1_pieces hc ⟨_, _, h, hk⟩)

-- NetMaps$Net.ringAt(I)I
theorem dX1_ringAt_0 : decode cX1_ringAt 0 = .ok (.iconst 1, 1) := by decide +kernel
theorem dX1_ringAt_1 : decode cX1_ringAt 1 = .ok (.iload_n 1, 1) := by decide +kernel
theorem dX1_ringAt_2 : decode cX1_ringAt 2 = .ok (.ishl, 1) := by decide +kernel
theorem dX1_ringAt_3 : decode cX1_ringAt 3 = .ok (.istore_n 2, 1) := by decide +kernel
theorem dX1_ringAt_4 : decode cX1_ringAt 4 = .ok (.iconst 1, 1) := by decide +kernel
theorem dX1_ringAt_5 : decode cX1_ringAt 5 = .ok (.istore_n 3, 1) := by decide +kernel
theorem dX1_ringAt_6 : decode cX1_ringAt 6 = .ok (.iload_n 3, 1) := by decide +kernel
theorem dX1_ringAt_7 : decode cX1_ringAt 7 = .ok (.aload_n 0, 1) := by decide +kernel
theorem dX1_ringAt_8 : decode cX1_ringAt 8 = .ok (.getfield 18, 3) := by decide +kernel
theorem dX1_ringAt_11 : decode cX1_ringAt 11 = .ok (.if_icmp .gt 25, 3) := by decide +kernel
theorem dX1_ringAt_14 : decode cX1_ringAt 14 = .ok (.aload_n 0, 1) := by decide +kernel
theorem dX1_ringAt_15 : decode cX1_ringAt 15 = .ok (.iload_n 2, 1) := by decide +kernel
theorem dX1_ringAt_16 : decode cX1_ringAt 16 = .ok (.invokevirtual 49, 3) := by decide +kernel
theorem dX1_ringAt_19 : decode cX1_ringAt 19 = .ok (.istore_n 2, 1) := by decide +kernel
theorem dX1_ringAt_20 : decode cX1_ringAt 20 = .ok (.iload_n 2, 1) := by decide +kernel
theorem dX1_ringAt_21 : decode cX1_ringAt 21 = .ok (.iload_n 1, 1) := by decide +kernel
theorem dX1_ringAt_22 : decode cX1_ringAt 22 = .ok (.invokestatic 26, 3) := by decide +kernel
theorem dX1_ringAt_25 : decode cX1_ringAt 25 = .ok (.ifCond .eq 5, 3) := by decide +kernel
theorem dX1_ringAt_28 : decode cX1_ringAt 28 = .ok (.iload_n 3, 1) := by decide +kernel
theorem dX1_ringAt_29 : decode cX1_ringAt 29 = .ok (.ireturn, 1) := by decide +kernel
theorem dX1_ringAt_30 : decode cX1_ringAt 30 = .ok (.iinc 3 1, 3) := by decide +kernel
theorem dX1_ringAt_33 : decode cX1_ringAt 33 = .ok (.goto (-27), 3) := by decide +kernel
theorem dX1_ringAt_36 : decode cX1_ringAt 36 = .ok (.iconst 0, 1) := by decide +kernel
theorem dX1_ringAt_37 : decode cX1_ringAt 37 = .ok (.ireturn, 1) := by decide +kernel
noncomputable def f_X1_ringAt_L6 (x0 : Nat) (x1 : Int32) (v : (Int32 × Int32)) (σ : Hp) : Option (((Int32 × Int32) ⊕ ((Int32) ⊕ (Unit))) × Hp) := gO (getI shC 1 x0 0 σ) fun v1 => if v1 < v.2 then (some (Sum.inr (Sum.inr ()), σ)) else (gO (chk shC x0 1) fun _ => bO (f_X1_onward x0 v.1 σ) fun r2 σ3 => bO (f_X6_has r2 x1 σ3) fun r5 σ6 => if r5 = 0 then (some (Sum.inl (r2, (v.2 + 1)), σ6)) else (some (Sum.inr (Sum.inl v.2), σ6)))
set_option maxRecDepth 100000 in
set_option maxHeartbeats 4000000 in
theorem t_X1_ringAt_L6 {l : Launch} {γ : Gm} {ad : Nat → Nat} {K : Option Value → Hp → Prop}  (hc : Cx l γ 3 4 ad shC RX1 cX1_ringAt (some .int) K) {x0 : Nat} {x1 : Int32} {v : (Int32 × Int32)} {σ : Hp} {KX : ((Int32) ⊕ (Unit)) → Hp → Prop} (h : wpO (wh (f_X1_ringAt_L6 x0 x1) v σ) KX) (kx28 : ∀ (v : Int32) (σ : Hp), KX (Sum.inl v) σ → WW l γ 3 4 ad shC 28 [(3, .int v)] [] σ) (kx36 : ∀ (v : Unit) (σ : Hp), KX (Sum.inr v) σ → WW l γ 3 4 ad shC 36 [] [] σ) : WW l γ 3 4 ad shC 6 [(0, .ref (ad x0)), (1, .int x1), (2, .int v.1), (3, .int v.2)] [] σ := by
  refine wh_W (P := fun v σ => WW l γ 3 4 ad shC 6 [(0, .ref (ad x0)), (1, .int x1), (2, .int v.1), (3, .int v.2)] [] σ) (fun v σ h => ?_) h
  have kn : ∀ (v : (Int32 × Int32)) (σ : Hp), WW l γ 3 4 ad shC 6 [(0, .ref (ad x0)), (1, .int x1), (2, .int v.1), (3, .int v.2)] [] σ → WW l γ 3 4 ad shC 6 [(0, .ref (ad x0)), (1, .int x1), (2, .int v.1), (3, .int v.2)] [] σ := fun _ _ h => h
  · unfold f_X1_ringAt_L6 at h
    refine r_iload_n hc 3 rfl rfl dX1_ringAt_6 ?_
    refine r_aload_n hc 0 rfl rfl dX1_ringAt_7 ?_
    obtain ⟨v1, ev1, h⟩ := wp_g h
    refine r_getI hc ev1 fl_X1_18 rfl dX1_ringAt_8 ?_
    refine r_icmp_gt hc (tgt := 36) dX1_ringAt_11 (by decide) (fun c => ?_) (fun c => ?_)
    · have h := wp_t c h
      refine r_sub [] (lv' := []) rfl ?_
      have h := wp_v h
      exact kx36 () _ h
    · have h := wp_f c h
      refine r_aload_n hc 0 rfl rfl dX1_ringAt_14 ?_
      refine r_iload_n hc 2 rfl rfl dX1_ringAt_15 ?_
      obtain ⟨_, ek4, h⟩ := wp_g h
      obtain ⟨r2, σ3, er2, h⟩ := wp_b h
      refine r_callV hc (k0 := x0) mv_X1_onward ml_X1_49 (c_X1_onward er2) (chk_of ek4) cls_1.1 rfl rfl rfl (by decide) rfl (Nat.le_of_ble_eq_true rfl) dX1_ringAt_16 ?_
      refine r_istore_nE hc (i := 2) (lv' := [(2, .int r2), (0, .ref (ad x0)), (1, .int x1), (3, .int v.2)]) rfl rfl (by decide) rfl dX1_ringAt_19 ?_
      refine r_iload_n hc 0 rfl rfl dX1_ringAt_20 ?_
      refine r_iload_n hc 2 rfl rfl dX1_ringAt_21 ?_
      obtain ⟨r5, σ6, er5, h⟩ := wp_b h
      refine r_callSN hc ms_X6_has nl_X1_26 (c_X6_has er5) rfl rfl (by decide) rfl (Nat.le_of_ble_eq_true rfl) dX1_ringAt_22 ?_
      refine r_if_eq hc (tgt := 30) dX1_ringAt_25 (by decide) (fun c => ?_) (fun c => ?_)
      · have h := wp_t c h
        refine r_iincE hc (j := 3) (w := 1) (lv' := [(3, .int (v.2 + 1)), (2, .int r2), (0, .ref (ad x0)), (1, .int x1)]) rfl (by decide) rfl (by decide) rfl dX1_ringAt_30 ?_
        refine r_goto hc (tgt := 6) dX1_ringAt_33 (by decide) ?_
        refine r_sub [2, 3, 1, 0] (lv' := [(0, .ref (ad x0)), (1, .int x1), (2, .int r2), (3, .int (v.2 + 1))]) rfl ?_
        have h := wp_v h
        exact kn (r2, (v.2 + 1)) _ h
      · have h := wp_f c h
        refine r_sub [3] (lv' := [(3, .int v.2)]) rfl ?_
        have h := wp_v h
        exact kx28 v.2 _ h
noncomputable def f_X1_ringAt (x0 : Nat) (x1 : Int32) (σ : Hp) : Option (Int32 × Hp) := lt' (((1 : Int32) <<< (x1 &&& 31))) fun t1 => bO (wh (f_X1_ringAt_L6 x0 x1) (t1, 1) σ) fun y2 σ3 => (Sum.elim (fun y2' => (some (y2', σ3))) (fun y4 => (some (0, σ3))) y2)
set_option maxRecDepth 100000 in
set_option maxHeartbeats 4000000 in
theorem t_X1_ringAt {l : Launch} {γ : Gm} {ad : Nat → Nat} {K : Option Value → Hp → Prop} (hc : Cx l γ 3 4 ad shC RX1 cX1_ringAt (some .int) K) {x0 : Nat} {x1 : Int32} {σ : Hp} (h : wpO (f_X1_ringAt x0 x1 σ) (KI K)) : WW l γ 3 4 ad shC 0 [(0, .ref (ad x0)), (1, .int x1)] [] σ := by
  unfold f_X1_ringAt at h
  refine r_iconst hc (v := 1) (by decide) dX1_ringAt_0 ?_
  refine r_iload_n hc 1 rfl rfl dX1_ringAt_1 ?_
  refine r_ishl hc dX1_ringAt_2 ?_
  obtain ⟨t1, et1, h⟩ := wp_l h
  refine r_istore_nE hc (i := 2) (lv' := [(2, .int t1), (0, .ref (ad x0)), (1, .int x1)]) et1 rfl (by decide) rfl dX1_ringAt_3 ?_
  refine r_iconst hc (v := 1) (by decide) dX1_ringAt_4 ?_
  refine r_istore_nE hc (i := 3) (lv' := [(3, .int 1), (2, .int t1), (0, .ref (ad x0)), (1, .int x1)]) rfl rfl (by decide) rfl dX1_ringAt_5 ?_
  refine r_sub [2, 3, 1, 0] (lv' := [(0, .ref (ad x0)), (1, .int x1), (2, .int t1), (3, .int 1)]) rfl ?_
  refine t_X1_ringAt_L6 hc (wp_bb h) ?_ ?_
  · intro y2' σ3 h
    have h := wp_sl h
    refine r_iload_n hc 0 rfl rfl dX1_ringAt_28 ?_
    have h := wp_v h
    exact r_iret hc h dX1_ringAt_29
  · intro y4 σ3 h
    have h := wp_sr h
    refine r_iconst hc (v := 0) (by decide) dX1_ringAt_36 ?_
    have h := wp_v h
    exact r_iret hc h dX1_ringAt_37
theorem c_X1_ringAt {l : Launch} {x0 : Nat} {x1 : Int32} {σ σ' : Hp} {r : Int32} (h : f_X1_ringAt x0 x1 σ = some (r, σ')) : Mt l yX1_ringAt cX1_ringAt 4 (some .int) 3 shC (fun ad => [.ref (ad x0), .int x1]) σ (fun ad => some (.int r)) σ' := mt_i (own := RX1) (by decide) rfl (fun _ => Nat.le_of_ble_eq_true rfl) (fun γ ad K hc hk => t_X1_ringAt hc ⟨_, _, h, hk⟩)

-- NetMaps$Net.shortestRing()I
theorem dX1_shortestRing_0 : decode cX1_shortestRing 0 = .ok (.iconst 0, 1) := by decide +kernel
theorem dX1_shortestRing_1 : decode cX1_shortestRing 1 = .ok (.istore_n 1, 1) := by decide +kernel
theorem dX1_shortestRing_2 : decode cX1_shortestRing 2 = .ok (.iconst 0, 1) := by decide +kernel
theorem dX1_shortestRing_3 : decode cX1_shortestRing 3 = .ok (.istore_n 2, 1) := by decide +kernel
theorem dX1_shortestRing_4 : decode cX1_shortestRing 4 = .ok (.iload_n 2, 1) := by decide +kernel
theorem dX1_shortestRing_5 : decode cX1_shortestRing 5 = .ok (.aload_n 0, 1) := by decide +kernel
theorem dX1_shortestRing_6 : decode cX1_shortestRing 6 = .ok (.getfield 18, 3) := by decide +kernel
theorem dX1_shortestRing_9 : decode cX1_shortestRing 9 = .ok (.if_icmp .ge 30, 3) := by decide +kernel
theorem dX1_shortestRing_12 : decode cX1_shortestRing 12 = .ok (.aload_n 0, 1) := by decide +kernel
theorem dX1_shortestRing_13 : decode cX1_shortestRing 13 = .ok (.iload_n 2, 1) := by decide +kernel
theorem dX1_shortestRing_14 : decode cX1_shortestRing 14 = .ok (.invokevirtual 58, 3) := by decide +kernel
theorem dX1_shortestRing_17 : decode cX1_shortestRing 17 = .ok (.istore_n 3, 1) := by decide +kernel
theorem dX1_shortestRing_18 : decode cX1_shortestRing 18 = .ok (.iload_n 3, 1) := by decide +kernel
theorem dX1_shortestRing_19 : decode cX1_shortestRing 19 = .ok (.ifCond .le 14, 3) := by decide +kernel
theorem dX1_shortestRing_22 : decode cX1_shortestRing 22 = .ok (.iload_n 1, 1) := by decide +kernel
theorem dX1_shortestRing_23 : decode cX1_shortestRing 23 = .ok (.ifCond .eq 8, 3) := by decide +kernel
theorem dX1_shortestRing_26 : decode cX1_shortestRing 26 = .ok (.iload_n 3, 1) := by decide +kernel
theorem dX1_shortestRing_27 : decode cX1_shortestRing 27 = .ok (.iload_n 1, 1) := by decide +kernel
theorem dX1_shortestRing_28 : decode cX1_shortestRing 28 = .ok (.if_icmp .ge 5, 3) := by decide +kernel
theorem dX1_shortestRing_31 : decode cX1_shortestRing 31 = .ok (.iload_n 3, 1) := by decide +kernel
theorem dX1_shortestRing_32 : decode cX1_shortestRing 32 = .ok (.istore_n 1, 1) := by decide +kernel
theorem dX1_shortestRing_33 : decode cX1_shortestRing 33 = .ok (.iinc 2 1, 3) := by decide +kernel
theorem dX1_shortestRing_36 : decode cX1_shortestRing 36 = .ok (.goto (-32), 3) := by decide +kernel
theorem dX1_shortestRing_39 : decode cX1_shortestRing 39 = .ok (.iload_n 1, 1) := by decide +kernel
theorem dX1_shortestRing_40 : decode cX1_shortestRing 40 = .ok (.ireturn, 1) := by decide +kernel
noncomputable def f_X1_shortestRing_b33 (x0 : Nat) (x1 : Int32) (x2 : Int32) (σ : Hp) : Option (((Int32 × Int32) ⊕ (Int32)) × Hp) := some (Sum.inl (x1, (x2 + 1)), σ)
set_option maxRecDepth 100000 in
set_option maxHeartbeats 4000000 in
theorem t_X1_shortestRing_b33 {l : Launch} {γ : Gm} {ad : Nat → Nat} {K : Option Value → Hp → Prop} (hc : Cx l γ 4 4 ad shC RX1 cX1_shortestRing (some .int) K) {x0 : Nat} {x1 : Int32} {x2 : Int32}  {σ : Hp} {KL : ((Int32 × Int32) ⊕ (Int32)) → Hp → Prop} (h : wpO (f_X1_shortestRing_b33 x0 x1 x2 σ) KL) (kn : ∀ (v : (Int32 × Int32)) (σ : Hp), KL (Sum.inl v) σ → WW l γ 4 4 ad shC 4 [(0, .ref (ad x0)), (1, .int v.1), (2, .int v.2)] [] σ) (kx39 : ∀ (v : Int32) (σ : Hp), KL (Sum.inr v) σ → WW l γ 4 4 ad shC 39 [(1, .int v)] [] σ) : WW l γ 4 4 ad shC 33 [(0, .ref (ad x0)), (1, .int x1), (2, .int x2)] [] σ := by
  unfold f_X1_shortestRing_b33 at h
  refine r_iincE hc (j := 2) (w := 1) (lv' := [(2, .int (x2 + 1)), (0, .ref (ad x0)), (1, .int x1)]) rfl (by decide) rfl (by decide) rfl dX1_shortestRing_33 ?_
  refine r_goto hc (tgt := 4) dX1_shortestRing_36 (by decide) ?_
  refine r_sub [1, 2, 0] (lv' := [(0, .ref (ad x0)), (1, .int x1), (2, .int (x2 + 1))]) rfl ?_
  have h := wp_v h
  exact kn (x1, (x2 + 1)) _ h
noncomputable def f_X1_shortestRing_b31 (x0 : Nat) (x2 : Int32) (x3 : Int32) (σ : Hp) : Option (((Int32 × Int32) ⊕ (Int32)) × Hp) := f_X1_shortestRing_b33 x0 x3 x2 σ
set_option maxRecDepth 100000 in
set_option maxHeartbeats 4000000 in
theorem t_X1_shortestRing_b31 {l : Launch} {γ : Gm} {ad : Nat → Nat} {K : Option Value → Hp → Prop} (hc : Cx l γ 4 4 ad shC RX1 cX1_shortestRing (some .int) K) {x0 : Nat} {x2 : Int32} {x3 : Int32}  {σ : Hp} {KL : ((Int32 × Int32) ⊕ (Int32)) → Hp → Prop} (h : wpO (f_X1_shortestRing_b31 x0 x2 x3 σ) KL) (kn : ∀ (v : (Int32 × Int32)) (σ : Hp), KL (Sum.inl v) σ → WW l γ 4 4 ad shC 4 [(0, .ref (ad x0)), (1, .int v.1), (2, .int v.2)] [] σ) (kx39 : ∀ (v : Int32) (σ : Hp), KL (Sum.inr v) σ → WW l γ 4 4 ad shC 39 [(1, .int v)] [] σ) : WW l γ 4 4 ad shC 31 [(0, .ref (ad x0)), (2, .int x2), (3, .int x3)] [] σ := by
  unfold f_X1_shortestRing_b31 at h
  refine r_iload_n hc 2 rfl rfl dX1_shortestRing_31 ?_
  refine r_istore_nE hc (i := 1) (lv' := [(1, .int x3), (0, .ref (ad x0)), (2, .int x2), (3, .int x3)]) rfl rfl (by decide) rfl dX1_shortestRing_32 ?_
  refine r_sub [1, 0, 2] (lv' := [(0, .ref (ad x0)), (1, .int x3), (2, .int x2)]) rfl ?_
  exact t_X1_shortestRing_b33 hc h kn kx39
noncomputable def f_X1_shortestRing_L4 (x0 : Nat) (v : (Int32 × Int32)) (σ : Hp) : Option (((Int32 × Int32) ⊕ (Int32)) × Hp) := gO (getI shC 1 x0 0 σ) fun v1 => if v1 ≤ v.2 then (some (Sum.inr v.1, σ)) else (gO (chk shC x0 1) fun _ => bO (f_X1_ringAt x0 v.2 σ) fun r2 σ3 => if r2 ≤ 0 then (f_X1_shortestRing_b33 x0 v.1 v.2 σ3) else (if v.1 = 0 then (f_X1_shortestRing_b31 x0 v.2 r2 σ3) else (if v.1 ≤ r2 then (f_X1_shortestRing_b33 x0 v.1 v.2 σ3) else (f_X1_shortestRing_b31 x0 v.2 r2 σ3))))
set_option maxRecDepth 100000 in
set_option maxHeartbeats 4000000 in
theorem t_X1_shortestRing_L4 {l : Launch} {γ : Gm} {ad : Nat → Nat} {K : Option Value → Hp → Prop}  (hc : Cx l γ 4 4 ad shC RX1 cX1_shortestRing (some .int) K) {x0 : Nat} {v : (Int32 × Int32)} {σ : Hp} {KX : (Int32) → Hp → Prop} (h : wpO (wh (f_X1_shortestRing_L4 x0) v σ) KX) (kx39 : ∀ (v : Int32) (σ : Hp), KX v σ → WW l γ 4 4 ad shC 39 [(1, .int v)] [] σ) : WW l γ 4 4 ad shC 4 [(0, .ref (ad x0)), (1, .int v.1), (2, .int v.2)] [] σ := by
  refine wh_W (P := fun v σ => WW l γ 4 4 ad shC 4 [(0, .ref (ad x0)), (1, .int v.1), (2, .int v.2)] [] σ) (fun v σ h => ?_) h
  have kn : ∀ (v : (Int32 × Int32)) (σ : Hp), WW l γ 4 4 ad shC 4 [(0, .ref (ad x0)), (1, .int v.1), (2, .int v.2)] [] σ → WW l γ 4 4 ad shC 4 [(0, .ref (ad x0)), (1, .int v.1), (2, .int v.2)] [] σ := fun _ _ h => h
  · unfold f_X1_shortestRing_L4 at h
    refine r_iload_n hc 2 rfl rfl dX1_shortestRing_4 ?_
    refine r_aload_n hc 0 rfl rfl dX1_shortestRing_5 ?_
    obtain ⟨v1, ev1, h⟩ := wp_g h
    refine r_getI hc ev1 fl_X1_18 rfl dX1_shortestRing_6 ?_
    refine r_icmp_ge hc (tgt := 39) dX1_shortestRing_9 (by decide) (fun c => ?_) (fun c => ?_)
    · have h := wp_t c h
      refine r_sub [1] (lv' := [(1, .int v.1)]) rfl ?_
      have h := wp_v h
      exact kx39 v.1 _ h
    · have h := wp_f c h
      refine r_aload_n hc 0 rfl rfl dX1_shortestRing_12 ?_
      refine r_iload_n hc 2 rfl rfl dX1_shortestRing_13 ?_
      obtain ⟨_, ek4, h⟩ := wp_g h
      obtain ⟨r2, σ3, er2, h⟩ := wp_b h
      refine r_callV hc (k0 := x0) mv_X1_ringAt ml_X1_58 (c_X1_ringAt er2) (chk_of ek4) cls_1.1 rfl rfl rfl (by decide) rfl (Nat.le_of_ble_eq_true rfl) dX1_shortestRing_14 ?_
      refine r_istore_nE hc (i := 3) (lv' := [(3, .int r2), (0, .ref (ad x0)), (1, .int v.1), (2, .int v.2)]) rfl rfl (by decide) rfl dX1_shortestRing_17 ?_
      refine r_iload_n hc 0 rfl rfl dX1_shortestRing_18 ?_
      refine r_if_le hc (tgt := 33) dX1_shortestRing_19 (by decide) (fun c => ?_) (fun c => ?_)
      · have h := wp_t c h
        refine r_sub [1, 2, 3] (lv' := [(0, .ref (ad x0)), (1, .int v.1), (2, .int v.2)]) rfl ?_
        exact t_X1_shortestRing_b33 hc h kn kx39
      · have h := wp_f c h
        refine r_iload_n hc 2 rfl rfl dX1_shortestRing_22 ?_
        refine r_if_eq hc (tgt := 31) dX1_shortestRing_23 (by decide) (fun c => ?_) (fun c => ?_)
        · have h := wp_t c h
          refine r_sub [1, 3, 0] (lv' := [(0, .ref (ad x0)), (2, .int v.2), (3, .int r2)]) rfl ?_
          exact t_X1_shortestRing_b31 hc h kn kx39
        · have h := wp_f c h
          refine r_iload_n hc 0 rfl rfl dX1_shortestRing_26 ?_
          refine r_iload_n hc 2 rfl rfl dX1_shortestRing_27 ?_
          refine r_icmp_ge hc (tgt := 33) dX1_shortestRing_28 (by decide) (fun c => ?_) (fun c => ?_)
          · have h := wp_t c h
            refine r_sub [1, 2, 3] (lv' := [(0, .ref (ad x0)), (1, .int v.1), (2, .int v.2)]) rfl ?_
            exact t_X1_shortestRing_b33 hc h kn kx39
          · have h := wp_f c h
            refine r_sub [1, 3, 0] (lv' := [(0, .ref (ad x0)), (2, .int v.2), (3, .int r2)]) rfl ?_
            exact t_X1_shortestRing_b31 hc h kn kx39
noncomputable def f_X1_shortestRing (x0 : Nat) (σ : Hp) : Option (Int32 × Hp) := bO (wh (f_X1_shortestRing_L4 x0) (0, 0) σ) fun y1 σ2 => (some (y1, σ2))
set_option maxRecDepth 100000 in
set_option maxHeartbeats 4000000 in
theorem t_X1_shortestRing {l : Launch} {γ : Gm} {ad : Nat → Nat} {K : Option Value → Hp → Prop} (hc : Cx l γ 4 4 ad shC RX1 cX1_shortestRing (some .int) K) {x0 : Nat} {σ : Hp} (h : wpO (f_X1_shortestRing x0 σ) (KI K)) : WW l γ 4 4 ad shC 0 [(0, .ref (ad x0))] [] σ := by
  unfold f_X1_shortestRing at h
  refine r_iconst hc (v := 0) (by decide) dX1_shortestRing_0 ?_
  refine r_istore_nE hc (i := 1) (lv' := [(1, .int 0), (0, .ref (ad x0))]) rfl rfl (by decide) rfl dX1_shortestRing_1 ?_
  refine r_iconst hc (v := 0) (by decide) dX1_shortestRing_2 ?_
  refine r_istore_nE hc (i := 2) (lv' := [(2, .int 0), (1, .int 0), (0, .ref (ad x0))]) rfl rfl (by decide) rfl dX1_shortestRing_3 ?_
  refine r_sub [2, 1, 0] (lv' := [(0, .ref (ad x0)), (1, .int 0), (2, .int 0)]) rfl ?_
  refine t_X1_shortestRing_L4 hc (wp_bb h) ?_
  · intro y1 σ2 h
    refine r_iload_n hc 0 rfl rfl dX1_shortestRing_39 ?_
    have h := wp_v h
    exact r_iret hc h dX1_shortestRing_40
theorem c_X1_shortestRing {l : Launch} {x0 : Nat} {σ σ' : Hp} {r : Int32} (h : f_X1_shortestRing x0 σ = some (r, σ')) : Mt l yX1_shortestRing cX1_shortestRing 4 (some .int) 4 shC (fun ad => [.ref (ad x0)]) σ (fun ad => some (.int r)) σ' := mt_i (own := RX1) (by decide) rfl (fun _ => Nat.le_of_ble_eq_true rfl) (fun γ ad K hc hk => t_X1_shortestRing hc ⟨_, _, h, hk⟩)

-- NetMaps.told(II)I
theorem dX6_told_0 : decode cX6_told 0 = .ok (.iload_n 1, 1) := by decide +kernel
theorem dX6_told_1 : decode cX6_told 1 = .ok (.invokestatic 76, 3) := by decide +kernel
theorem dX6_told_4 : decode cX6_told 4 = .ok (.ifCond .ne 13, 3) := by decide +kernel
theorem dX6_told_7 : decode cX6_told 7 = .ok (.iload_n 2, 1) := by decide +kernel
theorem dX6_told_8 : decode cX6_told 8 = .ok (.ifCond .lt 9, 3) := by decide +kernel
theorem dX6_told_11 : decode cX6_told 11 = .ok (.iload_n 2, 1) := by decide +kernel
theorem dX6_told_12 : decode cX6_told 12 = .ok (.bipush 8, 2) := by decide +kernel
theorem dX6_told_14 : decode cX6_told 14 = .ok (.if_icmp .le 5, 3) := by decide +kernel
theorem dX6_told_17 : decode cX6_told 17 = .ok (.iconst (-1), 1) := by decide +kernel
theorem dX6_told_18 : decode cX6_told 18 = .ok (.ireturn, 1) := by decide +kernel
theorem dX6_told_19 : decode cX6_told 19 = .ok (.aload_n 0, 1) := by decide +kernel
theorem dX6_told_20 : decode cX6_told 20 = .ok (.iload_n 1, 1) := by decide +kernel
theorem dX6_told_21 : decode cX6_told 21 = .ok (.invokevirtual 91, 3) := by decide +kernel
theorem dX6_told_24 : decode cX6_told 24 = .ok (.astore_n 3, 1) := by decide +kernel
theorem dX6_told_25 : decode cX6_told 25 = .ok (.aload_n 3, 1) := by decide +kernel
theorem dX6_told_26 : decode cX6_told 26 = .ok (.invokevirtual 109, 3) := by decide +kernel
theorem dX6_told_29 : decode cX6_told 29 = .ok (.ifCond .eq 6, 3) := by decide +kernel
theorem dX6_told_32 : decode cX6_told 32 = .ok (.bipush (-2), 2) := by decide +kernel
theorem dX6_told_34 : decode cX6_told 34 = .ok (.ireturn, 1) := by decide +kernel
theorem dX6_told_35 : decode cX6_told 35 = .ok (.iload_n 2, 1) := by decide +kernel
theorem dX6_told_36 : decode cX6_told 36 = .ok (.tableswitch 100 0 7 #[48, 53, 58, 66, 71, 84, 89, 94], 48) := by decide +kernel
theorem dX6_told_84 : decode cX6_told 84 = .ok (.aload_n 3, 1) := by decide +kernel
theorem dX6_told_85 : decode cX6_told 85 = .ok (.getfield 126, 3) := by decide +kernel
theorem dX6_told_88 : decode cX6_told 88 = .ok (.ireturn, 1) := by decide +kernel
theorem dX6_told_89 : decode cX6_told 89 = .ok (.aload_n 3, 1) := by decide +kernel
theorem dX6_told_90 : decode cX6_told 90 = .ok (.invokevirtual 102, 3) := by decide +kernel
theorem dX6_told_93 : decode cX6_told 93 = .ok (.ireturn, 1) := by decide +kernel
theorem dX6_told_94 : decode cX6_told 94 = .ok (.aload_n 3, 1) := by decide +kernel
theorem dX6_told_95 : decode cX6_told 95 = .ok (.invokevirtual 129, 3) := by decide +kernel
theorem dX6_told_98 : decode cX6_told 98 = .ok (.invokestatic 132, 3) := by decide +kernel
theorem dX6_told_101 : decode cX6_told 101 = .ok (.ireturn, 1) := by decide +kernel
theorem dX6_told_102 : decode cX6_told 102 = .ok (.aload_n 3, 1) := by decide +kernel
theorem dX6_told_103 : decode cX6_told 103 = .ok (.invokevirtual 137, 3) := by decide +kernel
theorem dX6_told_106 : decode cX6_told 106 = .ok (.ireturn, 1) := by decide +kernel
theorem dX6_told_107 : decode cX6_told 107 = .ok (.aload_n 3, 1) := by decide +kernel
theorem dX6_told_108 : decode cX6_told 108 = .ok (.invokevirtual 140, 3) := by decide +kernel
theorem dX6_told_111 : decode cX6_told 111 = .ok (.ifCond .eq 7, 3) := by decide +kernel
theorem dX6_told_114 : decode cX6_told 114 = .ok (.iconst 1, 1) := by decide +kernel
theorem dX6_told_115 : decode cX6_told 115 = .ok (.goto 4, 3) := by decide +kernel
theorem dX6_told_118 : decode cX6_told 118 = .ok (.iconst 0, 1) := by decide +kernel
theorem dX6_told_119 : decode cX6_told 119 = .ok (.ireturn, 1) := by decide +kernel
theorem dX6_told_120 : decode cX6_told 120 = .ok (.aload_n 3, 1) := by decide +kernel
theorem dX6_told_121 : decode cX6_told 121 = .ok (.invokevirtual 143, 3) := by decide +kernel
theorem dX6_told_124 : decode cX6_told 124 = .ok (.ireturn, 1) := by decide +kernel
theorem dX6_told_125 : decode cX6_told 125 = .ok (.aload_n 3, 1) := by decide +kernel
theorem dX6_told_126 : decode cX6_told 126 = .ok (.invokevirtual 146, 3) := by decide +kernel
theorem dX6_told_129 : decode cX6_told 129 = .ok (.ireturn, 1) := by decide +kernel
theorem dX6_told_130 : decode cX6_told 130 = .ok (.aload_n 3, 1) := by decide +kernel
theorem dX6_told_131 : decode cX6_told 131 = .ok (.iconst 1, 1) := by decide +kernel
theorem dX6_told_132 : decode cX6_told 132 = .ok (.invokevirtual 149, 3) := by decide +kernel
theorem dX6_told_135 : decode cX6_told 135 = .ok (.ireturn, 1) := by decide +kernel
theorem dX6_told_136 : decode cX6_told 136 = .ok (.aload_n 3, 1) := by decide +kernel
theorem dX6_told_137 : decode cX6_told 137 = .ok (.iconst 0, 1) := by decide +kernel
theorem dX6_told_138 : decode cX6_told 138 = .ok (.invokevirtual 149, 3) := by decide +kernel
theorem dX6_told_141 : decode cX6_told 141 = .ok (.ireturn, 1) := by decide +kernel
noncomputable def f_X6_told_b17  (σ : Hp) : Option (Int32 × Hp) := some ((-1), σ)
set_option maxRecDepth 100000 in
set_option maxHeartbeats 4000000 in
theorem t_X6_told_b17 {l : Launch} {γ : Gm} {ad : Nat → Nat} {K : Option Value → Hp → Prop} (hc : Cx l γ 5 4 ad shC RX6 cX6_told (some .int) K)  {σ : Hp} (h : wpO (f_X6_told_b17  σ) (KI K)) : WW l γ 5 4 ad shC 17 [] [] σ := by
  unfold f_X6_told_b17 at h
  refine r_iconst hc (v := (-1)) (by decide) dX6_told_17 ?_
  have h := wp_v h
  exact r_iret hc h dX6_told_18
noncomputable def f_X6_told_b119 (s0 : Int32) (σ : Hp) : Option (Int32 × Hp) := some (s0, σ)
set_option maxRecDepth 100000 in
set_option maxHeartbeats 4000000 in
theorem t_X6_told_b119 {l : Launch} {γ : Gm} {ad : Nat → Nat} {K : Option Value → Hp → Prop} (hc : Cx l γ 5 4 ad shC RX6 cX6_told (some .int) K) {s0 : Int32} {σ : Hp} (h : wpO (f_X6_told_b119 s0 σ) (KI K)) : WW l γ 5 4 ad shC 119 [] [.int s0] σ := by
  unfold f_X6_told_b119 at h
  have h := wp_v h
  exact r_iret hc h dX6_told_119
noncomputable def f_X6_told (x0 : Nat) (x1 : Int32) (x2 : Int32) (σ : Hp) : Option (Int32 × Hp) := bO (f_X6_noDrawer x1 σ) fun r1 σ2 => if r1 = 0 then (if x2 < 0 then (f_X6_told_b17  σ2) else (if x2 ≤ 8 then (gO (chk shC x0 6) fun _ => bO (f_X6_in x0 x1 σ2) fun r3 σ4 => gO (chk shC r3 1) fun _ => bO (f_X1_isEmpty r3 σ4) fun r6 σ7 => if r6 = 0 then (if x2 = 0 then (gO (getI shC 1 r3 0 σ7) fun v9 => some (v9, σ7)) else (if x2 = 1 then (gO (chk shC r3 1) fun _ => bO (f_X1_lines r3 σ7) fun r10 σ11 => some (r10, σ11)) else (if x2 = 2 then (gO (chk shC r3 1) fun _ => bO (f_X1_loops r3 σ7) fun r13 σ14 => bO (f_J6_bitCount_0f7a4 shC r13 σ14) fun r16 σ17 => some (r16, σ17)) else (if x2 = 3 then (gO (chk shC r3 1) fun _ => bO (f_X1_pieces r3 σ7) fun r18 σ19 => some (r18, σ19)) else (if x2 = 4 then (gO (chk shC r3 1) fun _ => bO (f_X1_isTwoWay r3 σ7) fun r21 σ22 => if r21 = 0 then (f_X6_told_b119 0 σ22) else (f_X6_told_b119 1 σ22)) else (if x2 = 5 then (gO (chk shC r3 1) fun _ => bO (f_X1_shortestRing r3 σ7) fun r24 σ25 => some (r24, σ25)) else (if x2 = 6 then (gO (chk shC r3 1) fun _ => bO (f_X1_onRings r3 σ7) fun r27 σ28 => some (r27, σ28)) else (if x2 = 7 then (gO (chk shC r3 1) fun _ => bO (f_X1_most r3 1 σ7) fun r30 σ31 => some (r30, σ31)) else (gO (chk shC r3 1) fun _ => bO (f_X1_most r3 0 σ7) fun r33 σ34 => some (r33, σ34)))))))))) else (some ((-2), σ7))) else (f_X6_told_b17  σ2))) else (f_X6_told_b17  σ2)
set_option maxRecDepth 100000 in
set_option maxHeartbeats 4000000 in
theorem t_X6_told {l : Launch} {γ : Gm} {ad : Nat → Nat} {K : Option Value → Hp → Prop} (hc : Cx l γ 5 4 ad shC RX6 cX6_told (some .int) K) {x0 : Nat} {x1 : Int32} {x2 : Int32} {σ : Hp} (h : wpO (f_X6_told x0 x1 x2 σ) (KI K)) : WW l γ 5 4 ad shC 0 [(0, .ref (ad x0)), (1, .int x1), (2, .int x2)] [] σ := by
  unfold f_X6_told at h
  refine r_iload_n hc 1 rfl rfl dX6_told_0 ?_
  obtain ⟨r1, σ2, er1, h⟩ := wp_b h
  refine r_callS hc ms_X6_noDrawer ml_X6_76 (c_X6_noDrawer er1) rfl rfl (by decide) rfl (Nat.le_of_ble_eq_true rfl) dX6_told_1 ?_
  refine r_if_ne hc (tgt := 17) dX6_told_4 (by decide) (fun c => ?_) (fun c => ?_)
  · have h := wp_f c h
    refine r_sub [] (lv' := []) rfl ?_
    exact t_X6_told_b17 hc h
  · have h := wp_t c h
    refine r_iload_n hc 2 rfl rfl dX6_told_7 ?_
    refine r_if_lt hc (tgt := 17) dX6_told_8 (by decide) (fun c => ?_) (fun c => ?_)
    · have h := wp_t c h
      refine r_sub [] (lv' := []) rfl ?_
      exact t_X6_told_b17 hc h
    · have h := wp_f c h
      refine r_iload_n hc 2 rfl rfl dX6_told_11 ?_
      refine r_bipush hc (v := 8) (by decide) dX6_told_12 ?_
      refine r_icmp_le hc (tgt := 19) dX6_told_14 (by decide) (fun c => ?_) (fun c => ?_)
      · have h := wp_t c h
        refine r_aload_n hc 0 rfl rfl dX6_told_19 ?_
        refine r_iload_n hc 1 rfl rfl dX6_told_20 ?_
        obtain ⟨_, ek5, h⟩ := wp_g h
        obtain ⟨r3, σ4, er3, h⟩ := wp_b h
        refine r_callV hc (k0 := x0) mv_X6_in ml_X6_91 (c_X6_in er3) (chk_of ek5) cls_6.1 rfl rfl rfl (by decide) rfl (Nat.le_of_ble_eq_true rfl) dX6_told_21 ?_
        refine r_astore_n hc (i := 3) (lv' := [(3, .ref (ad r3)), (0, .ref (ad x0)), (1, .int x1), (2, .int x2)]) rfl (by decide) rfl dX6_told_24 ?_
        refine r_aload_n hc 0 rfl rfl dX6_told_25 ?_
        obtain ⟨_, ek8, h⟩ := wp_g h
        obtain ⟨r6, σ7, er6, h⟩ := wp_b h
        refine r_callV hc (k0 := r3) mv_X1_isEmpty ml_X6_109 (c_X1_isEmpty er6) (chk_of ek8) cls_1.1 rfl rfl rfl (by decide) rfl (Nat.le_of_ble_eq_true rfl) dX6_told_26 ?_
        refine r_if_eq hc (tgt := 35) dX6_told_29 (by decide) (fun c => ?_) (fun c => ?_)
        · have h := wp_t c h
          refine r_iload_n hc 3 rfl rfl dX6_told_35 ?_
          by_cases c0 : x2 = 0
          · have h := wp_t c0 h
            refine r_tabIn hc (off := 48) (tgt := 84) dX6_told_36 c0 (by decide) (by decide) (by decide) (by decide) ?_
            refine r_aload_n hc 0 rfl rfl dX6_told_84 ?_
            obtain ⟨v9, ev9, h⟩ := wp_g h
            refine r_getI hc ev9 fl_X6_126 rfl dX6_told_85 ?_
            have h := wp_v h
            exact r_iret hc h dX6_told_88
          have h := wp_f c0 h
          by_cases c1 : x2 = 1
          · have h := wp_t c1 h
            refine r_tabIn hc (off := 53) (tgt := 89) dX6_told_36 c1 (by decide) (by decide) (by decide) (by decide) ?_
            refine r_aload_n hc 0 rfl rfl dX6_told_89 ?_
            obtain ⟨_, ek12, h⟩ := wp_g h
            obtain ⟨r10, σ11, er10, h⟩ := wp_b h
            refine r_callV hc (k0 := r3) mv_X1_lines ml_X6_102 (c_X1_lines er10) (chk_of ek12) cls_1.1 rfl rfl rfl (by decide) rfl (Nat.le_of_ble_eq_true rfl) dX6_told_90 ?_
            have h := wp_v h
            exact r_iret hc h dX6_told_93
          have h := wp_f c1 h
          by_cases c2 : x2 = 2
          · have h := wp_t c2 h
            refine r_tabIn hc (off := 58) (tgt := 94) dX6_told_36 c2 (by decide) (by decide) (by decide) (by decide) ?_
            refine r_aload_n hc 0 rfl rfl dX6_told_94 ?_
            obtain ⟨_, ek15, h⟩ := wp_g h
            obtain ⟨r13, σ14, er13, h⟩ := wp_b h
            refine r_callV hc (k0 := r3) mv_X1_loops ml_X6_129 (c_X1_loops er13) (chk_of ek15) cls_1.1 rfl rfl rfl (by decide) rfl (Nat.le_of_ble_eq_true rfl) dX6_told_95 ?_
            obtain ⟨r16, σ17, er16, h⟩ := wp_b h
            refine r_callS hc ms_J6_bitCount_0f7a4 ml_X6_132 (c_J6_bitCount_0f7a4 er16) rfl rfl (by decide) rfl (Nat.le_of_ble_eq_true rfl) dX6_told_98 ?_
            have h := wp_v h
            exact r_iret hc h dX6_told_101
          have h := wp_f c2 h
          by_cases c3 : x2 = 3
          · have h := wp_t c3 h
            refine r_tabIn hc (off := 66) (tgt := 102) dX6_told_36 c3 (by decide) (by decide) (by decide) (by decide) ?_
            refine r_aload_n hc 0 rfl rfl dX6_told_102 ?_
            obtain ⟨_, ek20, h⟩ := wp_g h
            obtain ⟨r18, σ19, er18, h⟩ := wp_b h
            refine r_callV hc (k0 := r3) mv_X1_pieces ml_X6_137 (c_X1_pieces er18) (chk_of ek20) cls_1.1 rfl rfl rfl (by decide) rfl (Nat.le_of_ble_eq_true rfl) dX6_told_103 ?_
            have h := wp_v h
            exact r_iret hc h dX6_told_106
          have h := wp_f c3 h
          by_cases c4 : x2 = 4
          · have h := wp_t c4 h
            refine r_tabIn hc (off := 71) (tgt := 107) dX6_told_36 c4 (by decide) (by decide) (by decide) (by decide) ?_
            refine r_aload_n hc 0 rfl rfl dX6_told_107 ?_
            obtain ⟨_, ek23, h⟩ := wp_g h
            obtain ⟨r21, σ22, er21, h⟩ := wp_b h
            refine r_callV hc (k0 := r3) mv_X1_isTwoWay ml_X6_140 (c_X1_isTwoWay er21) (chk_of ek23) cls_1.1 rfl rfl rfl (by decide) rfl (Nat.le_of_ble_eq_true rfl) dX6_told_108 ?_
            refine r_if_eq hc (tgt := 118) dX6_told_111 (by decide) (fun c => ?_) (fun c => ?_)
            · have h := wp_t c h
              refine r_iconst hc (v := 0) (by decide) dX6_told_118 ?_
              refine r_sub [] (lv' := []) rfl ?_
              exact t_X6_told_b119 hc h
            · have h := wp_f c h
              refine r_iconst hc (v := 1) (by decide) dX6_told_114 ?_
              refine r_goto hc (tgt := 119) dX6_told_115 (by decide) ?_
              refine r_sub [] (lv' := []) rfl ?_
              exact t_X6_told_b119 hc h
          have h := wp_f c4 h
          by_cases c5 : x2 = 5
          · have h := wp_t c5 h
            refine r_tabIn hc (off := 84) (tgt := 120) dX6_told_36 c5 (by decide) (by decide) (by decide) (by decide) ?_
            refine r_aload_n hc 0 rfl rfl dX6_told_120 ?_
            obtain ⟨_, ek26, h⟩ := wp_g h
            obtain ⟨r24, σ25, er24, h⟩ := wp_b h
            refine r_callV hc (k0 := r3) mv_X1_shortestRing ml_X6_143 (c_X1_shortestRing er24) (chk_of ek26) cls_1.1 rfl rfl rfl (by decide) rfl (Nat.le_of_ble_eq_true rfl) dX6_told_121 ?_
            have h := wp_v h
            exact r_iret hc h dX6_told_124
          have h := wp_f c5 h
          by_cases c6 : x2 = 6
          · have h := wp_t c6 h
            refine r_tabIn hc (off := 89) (tgt := 125) dX6_told_36 c6 (by decide) (by decide) (by decide) (by decide) ?_
            refine r_aload_n hc 0 rfl rfl dX6_told_125 ?_
            obtain ⟨_, ek29, h⟩ := wp_g h
            obtain ⟨r27, σ28, er27, h⟩ := wp_b h
            refine r_callV hc (k0 := r3) mv_X1_onRings ml_X6_146 (c_X1_onRings er27) (chk_of ek29) cls_1.1 rfl rfl rfl (by decide) rfl (Nat.le_of_ble_eq_true rfl) dX6_told_126 ?_
            have h := wp_v h
            exact r_iret hc h dX6_told_129
          have h := wp_f c6 h
          by_cases c7 : x2 = 7
          · have h := wp_t c7 h
            refine r_tabIn hc (off := 94) (tgt := 130) dX6_told_36 c7 (by decide) (by decide) (by decide) (by decide) ?_
            refine r_aload_n hc 0 rfl rfl dX6_told_130 ?_
            refine r_iconst hc (v := 1) (by decide) dX6_told_131 ?_
            obtain ⟨_, ek32, h⟩ := wp_g h
            obtain ⟨r30, σ31, er30, h⟩ := wp_b h
            refine r_callV hc (k0 := r3) mv_X1_most ml_X6_149 (c_X1_most er30) (chk_of ek32) cls_1.1 rfl rfl rfl (by decide) rfl (Nat.le_of_ble_eq_true rfl) dX6_told_132 ?_
            have h := wp_v h
            exact r_iret hc h dX6_told_135
          have h := wp_f c7 h
          refine r_tabOut hc (tgt := 136) dX6_told_36 (sw_out 0 8 (fun i hi => by rcases (show i = 0 ∨ i = 1 ∨ i = 2 ∨ i = 3 ∨ i = 4 ∨ i = 5 ∨ i = 6 ∨ i = 7 by omega) with rfl | rfl | rfl | rfl | rfl | rfl | rfl | rfl <;> assumption)) (by decide) ?_
          refine r_aload_n hc 0 rfl rfl dX6_told_136 ?_
          refine r_iconst hc (v := 0) (by decide) dX6_told_137 ?_
          obtain ⟨_, ek35, h⟩ := wp_g h
          obtain ⟨r33, σ34, er33, h⟩ := wp_b h
          refine r_callV hc (k0 := r3) mv_X1_most ml_X6_149 (c_X1_most er33) (chk_of ek35) cls_1.1 rfl rfl rfl (by decide) rfl (Nat.le_of_ble_eq_true rfl) dX6_told_138 ?_
          have h := wp_v h
          exact r_iret hc h dX6_told_141
        · have h := wp_f c h
          refine r_bipush hc (v := (-2)) (by decide) dX6_told_32 ?_
          have h := wp_v h
          exact r_iret hc h dX6_told_34
      · have h := wp_f c h
        refine r_sub [] (lv' := []) rfl ?_
        exact t_X6_told_b17 hc h
theorem c_X6_told {l : Launch} {x0 : Nat} {x1 : Int32} {x2 : Int32} {σ σ' : Hp} {r : Int32} (h : f_X6_told x0 x1 x2 σ = some (r, σ')) : Mt l yX6_told cX6_told 4 (some .int) 5 shC (fun ad => [.ref (ad x0), .int x1, .int x2]) σ (fun ad => some (.int r)) σ' := mt_i (own := RX6) (by decide) rfl (fun _ => Nat.le_of_ble_eq_true rfl) (fun γ ad K hc hk => t_X6_told hc ⟨_, _, h, hk⟩)
