-- NetMaps.meets(ILNetMaps$Net;LNetMaps$Net;)Z
theorem dX6_meets_0 : decode cX6_meets 0 = .ok (.iload_n 1, 1) := by decide +kernel
theorem dX6_meets_1 : decode cX6_meets 1 = .ok (.lookupswitch 108 #[(0, 27), (1, 54)], 27) := by decide +kernel
theorem dX6_meets_28 : decode cX6_meets 28 = .ok (.aload_n 0, 1) := by decide +kernel
theorem dX6_meets_29 : decode cX6_meets 29 = .ok (.aload_n 2, 1) := by decide +kernel
theorem dX6_meets_30 : decode cX6_meets 30 = .ok (.aload_n 0, 1) := by decide +kernel
theorem dX6_meets_31 : decode cX6_meets 31 = .ok (.getfield 34, 3) := by decide +kernel
theorem dX6_meets_34 : decode cX6_meets 34 = .ok (.invokevirtual 245, 3) := by decide +kernel
theorem dX6_meets_37 : decode cX6_meets 37 = .ok (.aload_n 0, 1) := by decide +kernel
theorem dX6_meets_38 : decode cX6_meets 38 = .ok (.aload_n 0, 1) := by decide +kernel
theorem dX6_meets_39 : decode cX6_meets 39 = .ok (.getfield 34, 3) := by decide +kernel
theorem dX6_meets_42 : decode cX6_meets 42 = .ok (.aload_n 3, 1) := by decide +kernel
theorem dX6_meets_43 : decode cX6_meets 43 = .ok (.invokevirtual 245, 3) := by decide +kernel
theorem dX6_meets_46 : decode cX6_meets 46 = .ok (.if_icmp .ne 7, 3) := by decide +kernel
theorem dX6_meets_49 : decode cX6_meets 49 = .ok (.iconst 1, 1) := by decide +kernel
theorem dX6_meets_50 : decode cX6_meets 50 = .ok (.goto 4, 3) := by decide +kernel
theorem dX6_meets_53 : decode cX6_meets 53 = .ok (.iconst 0, 1) := by decide +kernel
theorem dX6_meets_54 : decode cX6_meets 54 = .ok (.ireturn, 1) := by decide +kernel
theorem dX6_meets_55 : decode cX6_meets 55 = .ok (.aload_n 0, 1) := by decide +kernel
theorem dX6_meets_56 : decode cX6_meets 56 = .ok (.aload_n 2, 1) := by decide +kernel
theorem dX6_meets_57 : decode cX6_meets 57 = .ok (.aload_n 0, 1) := by decide +kernel
theorem dX6_meets_58 : decode cX6_meets 58 = .ok (.getfield 34, 3) := by decide +kernel
theorem dX6_meets_61 : decode cX6_meets 61 = .ok (.invokevirtual 245, 3) := by decide +kernel
theorem dX6_meets_64 : decode cX6_meets 64 = .ok (.ifCond .eq 43, 3) := by decide +kernel
theorem dX6_meets_67 : decode cX6_meets 67 = .ok (.aload_n 0, 1) := by decide +kernel
theorem dX6_meets_68 : decode cX6_meets 68 = .ok (.aload_n 0, 1) := by decide +kernel
theorem dX6_meets_69 : decode cX6_meets 69 = .ok (.getfield 34, 3) := by decide +kernel
theorem dX6_meets_72 : decode cX6_meets 72 = .ok (.aload_n 3, 1) := by decide +kernel
theorem dX6_meets_73 : decode cX6_meets 73 = .ok (.invokevirtual 245, 3) := by decide +kernel
theorem dX6_meets_76 : decode cX6_meets 76 = .ok (.ifCond .eq 31, 3) := by decide +kernel
theorem dX6_meets_79 : decode cX6_meets 79 = .ok (.aload_n 0, 1) := by decide +kernel
theorem dX6_meets_80 : decode cX6_meets 80 = .ok (.aload_n 0, 1) := by decide +kernel
theorem dX6_meets_81 : decode cX6_meets 81 = .ok (.getfield 34, 3) := by decide +kernel
theorem dX6_meets_84 : decode cX6_meets 84 = .ok (.aload_n 2, 1) := by decide +kernel
theorem dX6_meets_85 : decode cX6_meets 85 = .ok (.invokevirtual 245, 3) := by decide +kernel
theorem dX6_meets_88 : decode cX6_meets 88 = .ok (.ifCond .ne 19, 3) := by decide +kernel
theorem dX6_meets_91 : decode cX6_meets 91 = .ok (.aload_n 0, 1) := by decide +kernel
theorem dX6_meets_92 : decode cX6_meets 92 = .ok (.aload_n 3, 1) := by decide +kernel
theorem dX6_meets_93 : decode cX6_meets 93 = .ok (.aload_n 0, 1) := by decide +kernel
theorem dX6_meets_94 : decode cX6_meets 94 = .ok (.getfield 34, 3) := by decide +kernel
theorem dX6_meets_97 : decode cX6_meets 97 = .ok (.invokevirtual 245, 3) := by decide +kernel
theorem dX6_meets_100 : decode cX6_meets 100 = .ok (.ifCond .ne 7, 3) := by decide +kernel
theorem dX6_meets_103 : decode cX6_meets 103 = .ok (.iconst 1, 1) := by decide +kernel
theorem dX6_meets_104 : decode cX6_meets 104 = .ok (.goto 4, 3) := by decide +kernel
theorem dX6_meets_107 : decode cX6_meets 107 = .ok (.iconst 0, 1) := by decide +kernel
theorem dX6_meets_108 : decode cX6_meets 108 = .ok (.ireturn, 1) := by decide +kernel
theorem dX6_meets_109 : decode cX6_meets 109 = .ok (.aload_n 0, 1) := by decide +kernel
theorem dX6_meets_110 : decode cX6_meets 110 = .ok (.aload_n 0, 1) := by decide +kernel
theorem dX6_meets_111 : decode cX6_meets 111 = .ok (.getfield 34, 3) := by decide +kernel
theorem dX6_meets_114 : decode cX6_meets 114 = .ok (.aload_n 2, 1) := by decide +kernel
theorem dX6_meets_115 : decode cX6_meets 115 = .ok (.invokevirtual 352, 3) := by decide +kernel
theorem dX6_meets_118 : decode cX6_meets 118 = .ok (.aload_n 0, 1) := by decide +kernel
theorem dX6_meets_119 : decode cX6_meets 119 = .ok (.aload_n 0, 1) := by decide +kernel
theorem dX6_meets_120 : decode cX6_meets 120 = .ok (.getfield 34, 3) := by decide +kernel
theorem dX6_meets_123 : decode cX6_meets 123 = .ok (.aload_n 3, 1) := by decide +kernel
theorem dX6_meets_124 : decode cX6_meets 124 = .ok (.invokevirtual 352, 3) := by decide +kernel
theorem dX6_meets_127 : decode cX6_meets 127 = .ok (.if_icmp .eq 7, 3) := by decide +kernel
theorem dX6_meets_130 : decode cX6_meets 130 = .ok (.iconst 1, 1) := by decide +kernel
theorem dX6_meets_131 : decode cX6_meets 131 = .ok (.goto 4, 3) := by decide +kernel
theorem dX6_meets_134 : decode cX6_meets 134 = .ok (.iconst 0, 1) := by decide +kernel
theorem dX6_meets_135 : decode cX6_meets 135 = .ok (.ireturn, 1) := by decide +kernel
noncomputable def f_X6_meets_b54 (s0 : Int32) (σ : Hp) : Option (Int32 × Hp) := gO (zz s0) fun _ => some (s0, σ)
set_option maxRecDepth 100000 in
set_option maxHeartbeats 4000000 in
theorem t_X6_meets_b54 {l : Launch} {γ : Gm} {ad : Nat → Nat} {K : Option Value → Hp → Prop} (hc : Cx l γ 36 4 ad shC RX6 cX6_meets (some .boolean) K) {s0 : Int32} {σ : Hp} (h : wpO (f_X6_meets_b54 s0 σ) (KI K)) : WW l γ 36 4 ad shC 54 [] [.int s0] σ := by
  unfold f_X6_meets_b54 at h
  obtain ⟨_, ek1, h⟩ := wp_g h
  have h := wp_v h
  exact r_zret hc h (zz_of ek1) dX6_meets_54
noncomputable def f_X6_meets_b108 (s0 : Int32) (σ : Hp) : Option (Int32 × Hp) := gO (zz s0) fun _ => some (s0, σ)
set_option maxRecDepth 100000 in
set_option maxHeartbeats 4000000 in
theorem t_X6_meets_b108 {l : Launch} {γ : Gm} {ad : Nat → Nat} {K : Option Value → Hp → Prop} (hc : Cx l γ 36 4 ad shC RX6 cX6_meets (some .boolean) K) {s0 : Int32} {σ : Hp} (h : wpO (f_X6_meets_b108 s0 σ) (KI K)) : WW l γ 36 4 ad shC 108 [] [.int s0] σ := by
  unfold f_X6_meets_b108 at h
  obtain ⟨_, ek1, h⟩ := wp_g h
  have h := wp_v h
  exact r_zret hc h (zz_of ek1) dX6_meets_108
noncomputable def f_X6_meets_b107  (σ : Hp) : Option (Int32 × Hp) := f_X6_meets_b108 0 σ
set_option maxRecDepth 100000 in
set_option maxHeartbeats 4000000 in
theorem t_X6_meets_b107 {l : Launch} {γ : Gm} {ad : Nat → Nat} {K : Option Value → Hp → Prop} (hc : Cx l γ 36 4 ad shC RX6 cX6_meets (some .boolean) K)  {σ : Hp} (h : wpO (f_X6_meets_b107  σ) (KI K)) : WW l γ 36 4 ad shC 107 [] [] σ := by
  unfold f_X6_meets_b107 at h
  refine r_iconst hc (v := 0) (by decide) dX6_meets_107 ?_
  exact t_X6_meets_b108 hc h
noncomputable def f_X6_meets_b135 (s0 : Int32) (σ : Hp) : Option (Int32 × Hp) := gO (zz s0) fun _ => some (s0, σ)
set_option maxRecDepth 100000 in
set_option maxHeartbeats 4000000 in
theorem t_X6_meets_b135 {l : Launch} {γ : Gm} {ad : Nat → Nat} {K : Option Value → Hp → Prop} (hc : Cx l γ 36 4 ad shC RX6 cX6_meets (some .boolean) K) {s0 : Int32} {σ : Hp} (h : wpO (f_X6_meets_b135 s0 σ) (KI K)) : WW l γ 36 4 ad shC 135 [] [.int s0] σ := by
  unfold f_X6_meets_b135 at h
  obtain ⟨_, ek1, h⟩ := wp_g h
  have h := wp_v h
  exact r_zret hc h (zz_of ek1) dX6_meets_135
noncomputable def f_X6_meets (x0 : Nat) (x1 : Int32) (x2 : Nat) (x3 : Nat) (σ : Hp) : Option (Int32 × Hp) := if x1 = 0 then (gO (getR shC 6 x0 6 σ) fun v1 => gO (chk shC x0 6) fun _ => bO (f_X6_fitsInto x0 x2 v1 σ) fun r2 σ3 => gO (getR shC 6 x0 6 σ3) fun v5 => gO (chk shC x0 6) fun _ => bO (f_X6_fitsInto x0 v5 x3 σ3) fun r6 σ7 => if r2 = r6 then (f_X6_meets_b54 1 σ7) else (f_X6_meets_b54 0 σ7)) else (if x1 = 1 then (gO (getR shC 6 x0 6 σ) fun v9 => gO (chk shC x0 6) fun _ => bO (f_X6_fitsInto x0 x2 v9 σ) fun r10 σ11 => if r10 = 0 then (f_X6_meets_b107  σ11) else (gO (getR shC 6 x0 6 σ11) fun v13 => gO (chk shC x0 6) fun _ => bO (f_X6_fitsInto x0 v13 x3 σ11) fun r14 σ15 => if r14 = 0 then (f_X6_meets_b107  σ15) else (gO (getR shC 6 x0 6 σ15) fun v17 => gO (chk shC x0 6) fun _ => bO (f_X6_fitsInto x0 v17 x2 σ15) fun r18 σ19 => if r18 = 0 then (gO (getR shC 6 x0 6 σ19) fun v21 => gO (chk shC x0 6) fun _ => bO (f_X6_fitsInto x0 x3 v21 σ19) fun r22 σ23 => if r22 = 0 then (f_X6_meets_b108 1 σ23) else (f_X6_meets_b107  σ23)) else (f_X6_meets_b107  σ19)))) else (gO (getR shC 6 x0 6 σ) fun v25 => gO (chk shC x0 6) fun _ => bO (f_X6_mapsInto x0 v25 x2 σ) fun r26 σ27 => gO (getR shC 6 x0 6 σ27) fun v29 => gO (chk shC x0 6) fun _ => bO (f_X6_mapsInto x0 v29 x3 σ27) fun r30 σ31 => if r26 = r30 then (f_X6_meets_b135 0 σ31) else (f_X6_meets_b135 1 σ31)))
set_option maxRecDepth 100000 in
set_option maxHeartbeats 4000000 in
theorem t_X6_meets {l : Launch} {γ : Gm} {ad : Nat → Nat} {K : Option Value → Hp → Prop} (hc : Cx l γ 36 4 ad shC RX6 cX6_meets (some .boolean) K) {x0 : Nat} {x1 : Int32} {x2 : Nat} {x3 : Nat} {σ : Hp} (h : wpO (f_X6_meets x0 x1 x2 x3 σ) (KI K)) : WW l γ 36 4 ad shC 0 [(0, .ref (ad x0)), (1, .int x1), (2, .ref (ad x2)), (3, .ref (ad x3))] [] σ := by
  unfold f_X6_meets at h
  refine r_iload_n hc 1 rfl rfl dX6_meets_0 ?_
  by_cases c0 : x1 = 0
  · have h := wp_t c0 h
    refine r_lookup hc (off := 27) (tgt := 28) dX6_meets_1 (by decide) (by rw [c0]; decide) (by decide) ?_
    refine r_aload_n hc 0 rfl rfl dX6_meets_28 ?_
    refine r_aload_n hc 2 rfl rfl dX6_meets_29 ?_
    refine r_aload_n hc 0 rfl rfl dX6_meets_30 ?_
    obtain ⟨v1, ev1, h⟩ := wp_g h
    refine r_getR hc ev1 fl_X6_34 rfl dX6_meets_31 ?_
    obtain ⟨_, ek4, h⟩ := wp_g h
    obtain ⟨r2, σ3, er2, h⟩ := wp_b h
    refine r_callV hc (k0 := x0) mv_X6_fitsInto ml_X6_245 (c_X6_fitsInto er2) (chk_of ek4) cls_6.1 rfl rfl rfl (by decide) rfl (Nat.le_of_ble_eq_true rfl) dX6_meets_34 ?_
    refine r_aload_n hc 0 rfl rfl dX6_meets_37 ?_
    refine r_aload_n hc 0 rfl rfl dX6_meets_38 ?_
    obtain ⟨v5, ev5, h⟩ := wp_g h
    refine r_getR hc ev5 fl_X6_34 rfl dX6_meets_39 ?_
    refine r_aload_n hc 3 rfl rfl dX6_meets_42 ?_
    obtain ⟨_, ek8, h⟩ := wp_g h
    obtain ⟨r6, σ7, er6, h⟩ := wp_b h
    refine r_callV hc (k0 := x0) mv_X6_fitsInto ml_X6_245 (c_X6_fitsInto er6) (chk_of ek8) cls_6.1 rfl rfl rfl (by decide) rfl (Nat.le_of_ble_eq_true rfl) dX6_meets_43 ?_
    refine r_icmp_ne hc (tgt := 53) dX6_meets_46 (by decide) (fun c => ?_) (fun c => ?_)
    · have h := wp_f c h
      refine r_iconst hc (v := 0) (by decide) dX6_meets_53 ?_
      refine r_sub [] (lv' := []) rfl ?_
      exact t_X6_meets_b54 hc h
    · have h := wp_t c h
      refine r_iconst hc (v := 1) (by decide) dX6_meets_49 ?_
      refine r_goto hc (tgt := 54) dX6_meets_50 (by decide) ?_
      refine r_sub [] (lv' := []) rfl ?_
      exact t_X6_meets_b54 hc h
  have h := wp_f c0 h
  by_cases c1 : x1 = 1
  · have h := wp_t c1 h
    refine r_lookup hc (off := 54) (tgt := 55) dX6_meets_1 (by decide) (by rw [c1]; decide) (by decide) ?_
    refine r_aload_n hc 0 rfl rfl dX6_meets_55 ?_
    refine r_aload_n hc 2 rfl rfl dX6_meets_56 ?_
    refine r_aload_n hc 0 rfl rfl dX6_meets_57 ?_
    obtain ⟨v9, ev9, h⟩ := wp_g h
    refine r_getR hc ev9 fl_X6_34 rfl dX6_meets_58 ?_
    obtain ⟨_, ek12, h⟩ := wp_g h
    obtain ⟨r10, σ11, er10, h⟩ := wp_b h
    refine r_callV hc (k0 := x0) mv_X6_fitsInto ml_X6_245 (c_X6_fitsInto er10) (chk_of ek12) cls_6.1 rfl rfl rfl (by decide) rfl (Nat.le_of_ble_eq_true rfl) dX6_meets_61 ?_
    refine r_if_eq hc (tgt := 107) dX6_meets_64 (by decide) (fun c => ?_) (fun c => ?_)
    · have h := wp_t c h
      refine r_sub [] (lv' := []) rfl ?_
      exact t_X6_meets_b107 hc h
    · have h := wp_f c h
      refine r_aload_n hc 0 rfl rfl dX6_meets_67 ?_
      refine r_aload_n hc 0 rfl rfl dX6_meets_68 ?_
      obtain ⟨v13, ev13, h⟩ := wp_g h
      refine r_getR hc ev13 fl_X6_34 rfl dX6_meets_69 ?_
      refine r_aload_n hc 3 rfl rfl dX6_meets_72 ?_
      obtain ⟨_, ek16, h⟩ := wp_g h
      obtain ⟨r14, σ15, er14, h⟩ := wp_b h
      refine r_callV hc (k0 := x0) mv_X6_fitsInto ml_X6_245 (c_X6_fitsInto er14) (chk_of ek16) cls_6.1 rfl rfl rfl (by decide) rfl (Nat.le_of_ble_eq_true rfl) dX6_meets_73 ?_
      refine r_if_eq hc (tgt := 107) dX6_meets_76 (by decide) (fun c => ?_) (fun c => ?_)
      · have h := wp_t c h
        refine r_sub [] (lv' := []) rfl ?_
        exact t_X6_meets_b107 hc h
      · have h := wp_f c h
        refine r_aload_n hc 0 rfl rfl dX6_meets_79 ?_
        refine r_aload_n hc 0 rfl rfl dX6_meets_80 ?_
        obtain ⟨v17, ev17, h⟩ := wp_g h
        refine r_getR hc ev17 fl_X6_34 rfl dX6_meets_81 ?_
        refine r_aload_n hc 2 rfl rfl dX6_meets_84 ?_
        obtain ⟨_, ek20, h⟩ := wp_g h
        obtain ⟨r18, σ19, er18, h⟩ := wp_b h
        refine r_callV hc (k0 := x0) mv_X6_fitsInto ml_X6_245 (c_X6_fitsInto er18) (chk_of ek20) cls_6.1 rfl rfl rfl (by decide) rfl (Nat.le_of_ble_eq_true rfl) dX6_meets_85 ?_
        refine r_if_ne hc (tgt := 107) dX6_meets_88 (by decide) (fun c => ?_) (fun c => ?_)
        · have h := wp_f c h
          refine r_sub [] (lv' := []) rfl ?_
          exact t_X6_meets_b107 hc h
        · have h := wp_t c h
          refine r_aload_n hc 0 rfl rfl dX6_meets_91 ?_
          refine r_aload_n hc 3 rfl rfl dX6_meets_92 ?_
          refine r_aload_n hc 0 rfl rfl dX6_meets_93 ?_
          obtain ⟨v21, ev21, h⟩ := wp_g h
          refine r_getR hc ev21 fl_X6_34 rfl dX6_meets_94 ?_
          obtain ⟨_, ek24, h⟩ := wp_g h
          obtain ⟨r22, σ23, er22, h⟩ := wp_b h
          refine r_callV hc (k0 := x0) mv_X6_fitsInto ml_X6_245 (c_X6_fitsInto er22) (chk_of ek24) cls_6.1 rfl rfl rfl (by decide) rfl (Nat.le_of_ble_eq_true rfl) dX6_meets_97 ?_
          refine r_if_ne hc (tgt := 107) dX6_meets_100 (by decide) (fun c => ?_) (fun c => ?_)
          · have h := wp_f c h
            refine r_sub [] (lv' := []) rfl ?_
            exact t_X6_meets_b107 hc h
          · have h := wp_t c h
            refine r_iconst hc (v := 1) (by decide) dX6_meets_103 ?_
            refine r_goto hc (tgt := 108) dX6_meets_104 (by decide) ?_
            refine r_sub [] (lv' := []) rfl ?_
            exact t_X6_meets_b108 hc h
  have h := wp_f c1 h
  refine r_lookup hc (off := 108) (tgt := 109) dX6_meets_1 (by decide) (lk_out2 c0 c1) (by decide) ?_
  refine r_aload_n hc 0 rfl rfl dX6_meets_109 ?_
  refine r_aload_n hc 0 rfl rfl dX6_meets_110 ?_
  obtain ⟨v25, ev25, h⟩ := wp_g h
  refine r_getR hc ev25 fl_X6_34 rfl dX6_meets_111 ?_
  refine r_aload_n hc 2 rfl rfl dX6_meets_114 ?_
  obtain ⟨_, ek28, h⟩ := wp_g h
  obtain ⟨r26, σ27, er26, h⟩ := wp_b h
  refine r_callV hc (k0 := x0) mv_X6_mapsInto ml_X6_352 (c_X6_mapsInto er26) (chk_of ek28) cls_6.1 rfl rfl rfl (by decide) rfl (Nat.le_of_ble_eq_true rfl) dX6_meets_115 ?_
  refine r_aload_n hc 0 rfl rfl dX6_meets_118 ?_
  refine r_aload_n hc 0 rfl rfl dX6_meets_119 ?_
  obtain ⟨v29, ev29, h⟩ := wp_g h
  refine r_getR hc ev29 fl_X6_34 rfl dX6_meets_120 ?_
  refine r_aload_n hc 3 rfl rfl dX6_meets_123 ?_
  obtain ⟨_, ek32, h⟩ := wp_g h
  obtain ⟨r30, σ31, er30, h⟩ := wp_b h
  refine r_callV hc (k0 := x0) mv_X6_mapsInto ml_X6_352 (c_X6_mapsInto er30) (chk_of ek32) cls_6.1 rfl rfl rfl (by decide) rfl (Nat.le_of_ble_eq_true rfl) dX6_meets_124 ?_
  refine r_icmp_eq hc (tgt := 134) dX6_meets_127 (by decide) (fun c => ?_) (fun c => ?_)
  · have h := wp_t c h
    refine r_iconst hc (v := 0) (by decide) dX6_meets_134 ?_
    refine r_sub [] (lv' := []) rfl ?_
    exact t_X6_meets_b135 hc h
  · have h := wp_f c h
    refine r_iconst hc (v := 1) (by decide) dX6_meets_130 ?_
    refine r_goto hc (tgt := 135) dX6_meets_131 (by decide) ?_
    refine r_sub [] (lv' := []) rfl ?_
    exact t_X6_meets_b135 hc h
theorem c_X6_meets {l : Launch} {x0 : Nat} {x1 : Int32} {x2 : Nat} {x3 : Nat} {σ σ' : Hp} {r : Int32} (h : f_X6_meets x0 x1 x2 x3 σ = some (r, σ')) : Mt l yX6_meets cX6_meets 4 (some .boolean) 36 shC (fun ad => [.ref (ad x0), .int x1, .ref (ad x2), .ref (ad x3)]) σ (fun ad => some (.int r)) σ' := mt_i (own := RX6) (by decide) rfl (fun _ => Nat.le_of_ble_eq_true rfl) (fun γ ad K hc hk => t_X6_meets hc ⟨_, _, h, hk⟩)

-- NetMaps$Net.number(II)V
theorem dX1_number_0 : decode cX1_number 0 = .ok (.aload_n 0, 1) := by decide +kernel
theorem dX1_number_1 : decode cX1_number 1 = .ok (.iload_n 1, 1) := by decide +kernel
theorem dX1_number_2 : decode cX1_number 2 = .ok (.invokevirtual 22, 3) := by decide +kernel
theorem dX1_number_5 : decode cX1_number 5 = .ok (.iconst 0, 1) := by decide +kernel
theorem dX1_number_6 : decode cX1_number 6 = .ok (.istore_n 3, 1) := by decide +kernel
theorem dX1_number_7 : decode cX1_number 7 = .ok (.iload_n 3, 1) := by decide +kernel
theorem dX1_number_8 : decode cX1_number 8 = .ok (.iload_n 1, 1) := by decide +kernel
theorem dX1_number_9 : decode cX1_number 9 = .ok (.if_icmp .ge 44, 3) := by decide +kernel
theorem dX1_number_12 : decode cX1_number 12 = .ok (.iconst 0, 1) := by decide +kernel
theorem dX1_number_13 : decode cX1_number 13 = .ok (.istore 4, 2) := by decide +kernel
theorem dX1_number_15 : decode cX1_number 15 = .ok (.iload 4, 2) := by decide +kernel
theorem dX1_number_17 : decode cX1_number 17 = .ok (.iload_n 1, 1) := by decide +kernel
theorem dX1_number_18 : decode cX1_number 18 = .ok (.if_icmp .ge 29, 3) := by decide +kernel
theorem dX1_number_21 : decode cX1_number 21 = .ok (.iload_n 2, 1) := by decide +kernel
theorem dX1_number_22 : decode cX1_number 22 = .ok (.iload_n 3, 1) := by decide +kernel
theorem dX1_number_23 : decode cX1_number 23 = .ok (.iload_n 1, 1) := by decide +kernel
theorem dX1_number_24 : decode cX1_number 24 = .ok (.imul, 1) := by decide +kernel
theorem dX1_number_25 : decode cX1_number 25 = .ok (.iload 4, 2) := by decide +kernel
theorem dX1_number_27 : decode cX1_number 27 = .ok (.iadd, 1) := by decide +kernel
theorem dX1_number_28 : decode cX1_number 28 = .ok (.invokestatic 26, 3) := by decide +kernel
theorem dX1_number_31 : decode cX1_number 31 = .ok (.ifCond .eq 10, 3) := by decide +kernel
theorem dX1_number_34 : decode cX1_number 34 = .ok (.aload_n 0, 1) := by decide +kernel
theorem dX1_number_35 : decode cX1_number 35 = .ok (.iload_n 3, 1) := by decide +kernel
theorem dX1_number_36 : decode cX1_number 36 = .ok (.iload 4, 2) := by decide +kernel
theorem dX1_number_38 : decode cX1_number 38 = .ok (.invokevirtual 30, 3) := by decide +kernel
theorem dX1_number_41 : decode cX1_number 41 = .ok (.iinc 4 1, 3) := by decide +kernel
theorem dX1_number_44 : decode cX1_number 44 = .ok (.goto (-29), 3) := by decide +kernel
theorem dX1_number_47 : decode cX1_number 47 = .ok (.iinc 3 1, 3) := by decide +kernel
theorem dX1_number_50 : decode cX1_number 50 = .ok (.goto (-43), 3) := by decide +kernel
theorem dX1_number_53 : decode cX1_number 53 = .ok (.return_, 1) := by decide +kernel
noncomputable def f_X1_number_b41 (x0 : Nat) (x1 : Int32) (x2 : Int32) (x3 : Int32) (x4 : Int32) (σ : Hp) : Option (((Int32) ⊕ (Unit)) × Hp) := some (Sum.inl (x4 + 1), σ)
set_option maxRecDepth 100000 in
set_option maxHeartbeats 4000000 in
theorem t_X1_number_b41 {l : Launch} {γ : Gm} {ad : Nat → Nat} {K : Option Value → Hp → Prop} (hc : Cx l γ 2 5 ad shC RX1 cX1_number none K) {x0 : Nat} {x1 : Int32} {x2 : Int32} {x3 : Int32} {x4 : Int32}  {σ : Hp} {KL : ((Int32) ⊕ (Unit)) → Hp → Prop} (h : wpO (f_X1_number_b41 x0 x1 x2 x3 x4 σ) KL) (kn : ∀ (v : (Int32)) (σ : Hp), KL (Sum.inl v) σ → WW l γ 2 5 ad shC 15 [(0, .ref (ad x0)), (1, .int x1), (2, .int x2), (3, .int x3), (4, .int v)] [] σ) (kx47 : ∀ (v : Unit) (σ : Hp), KL (Sum.inr v) σ → WW l γ 2 5 ad shC 47 [(0, .ref (ad x0)), (1, .int x1), (2, .int x2), (3, .int x3)] [] σ) : WW l γ 2 5 ad shC 41 [(0, .ref (ad x0)), (1, .int x1), (2, .int x2), (3, .int x3), (4, .int x4)] [] σ := by
  unfold f_X1_number_b41 at h
  refine r_iincE hc (j := 4) (w := 1) (lv' := [(4, .int (x4 + 1)), (0, .ref (ad x0)), (1, .int x1), (2, .int x2), (3, .int x3)]) rfl (by decide) rfl (by decide) rfl dX1_number_41 ?_
  refine r_goto hc (tgt := 15) dX1_number_44 (by decide) ?_
  refine r_sub [1, 2, 3, 4, 0] (lv' := [(0, .ref (ad x0)), (1, .int x1), (2, .int x2), (3, .int x3), (4, .int (x4 + 1))]) rfl ?_
  have h := wp_v h
  exact kn (x4 + 1) _ h
noncomputable def f_X1_number_L15 (x0 : Nat) (x1 : Int32) (x2 : Int32) (x3 : Int32) (v : (Int32)) (σ : Hp) : Option (((Int32) ⊕ (Unit)) × Hp) := if x1 ≤ v then (some (Sum.inr (), σ)) else (bO (f_X6_has x2 ((x3 * x1) + v) σ) fun r1 σ2 => if r1 = 0 then (f_X1_number_b41 x0 x1 x2 x3 v σ2) else (gO (chk shC x0 1) fun _ => bO (f_X1_join x0 x3 v σ2) fun _ σ4 => f_X1_number_b41 x0 x1 x2 x3 v σ4))
set_option maxRecDepth 100000 in
set_option maxHeartbeats 4000000 in
theorem t_X1_number_L15 {l : Launch} {γ : Gm} {ad : Nat → Nat} {K : Option Value → Hp → Prop}  (hc : Cx l γ 2 5 ad shC RX1 cX1_number none K) {x0 : Nat} {x1 : Int32} {x2 : Int32} {x3 : Int32} {v : (Int32)} {σ : Hp} {KX : (Unit) → Hp → Prop} (h : wpO (wh (f_X1_number_L15 x0 x1 x2 x3) v σ) KX) (kx47 : ∀ (v : Unit) (σ : Hp), KX v σ → WW l γ 2 5 ad shC 47 [(0, .ref (ad x0)), (1, .int x1), (2, .int x2), (3, .int x3)] [] σ) : WW l γ 2 5 ad shC 15 [(0, .ref (ad x0)), (1, .int x1), (2, .int x2), (3, .int x3), (4, .int v)] [] σ := by
  refine wh_W (P := fun v σ => WW l γ 2 5 ad shC 15 [(0, .ref (ad x0)), (1, .int x1), (2, .int x2), (3, .int x3), (4, .int v)] [] σ) (fun v σ h => ?_) h
  have kn : ∀ (v : (Int32)) (σ : Hp), WW l γ 2 5 ad shC 15 [(0, .ref (ad x0)), (1, .int x1), (2, .int x2), (3, .int x3), (4, .int v)] [] σ → WW l γ 2 5 ad shC 15 [(0, .ref (ad x0)), (1, .int x1), (2, .int x2), (3, .int x3), (4, .int v)] [] σ := fun _ _ h => h
  · unfold f_X1_number_L15 at h
    refine r_iload hc 4 rfl dX1_number_15 ?_
    refine r_iload_n hc 1 rfl rfl dX1_number_17 ?_
    refine r_icmp_ge hc (tgt := 47) dX1_number_18 (by decide) (fun c => ?_) (fun c => ?_)
    · have h := wp_t c h
      refine r_sub [0, 1, 2, 3] (lv' := [(0, .ref (ad x0)), (1, .int x1), (2, .int x2), (3, .int x3)]) rfl ?_
      have h := wp_v h
      exact kx47 () _ h
    · have h := wp_f c h
      refine r_iload_n hc 2 rfl rfl dX1_number_21 ?_
      refine r_iload_n hc 3 rfl rfl dX1_number_22 ?_
      refine r_iload_n hc 1 rfl rfl dX1_number_23 ?_
      refine r_imul hc dX1_number_24 ?_
      refine r_iload hc 4 rfl dX1_number_25 ?_
      refine r_iadd hc dX1_number_27 ?_
      obtain ⟨r1, σ2, er1, h⟩ := wp_b h
      refine r_callSN hc ms_X6_has nl_X1_26 (c_X6_has er1) rfl rfl (by decide) rfl (Nat.le_of_ble_eq_true rfl) dX1_number_28 ?_
      refine r_if_eq hc (tgt := 41) dX1_number_31 (by decide) (fun c => ?_) (fun c => ?_)
      · have h := wp_t c h
        exact t_X1_number_b41 hc h kn kx47
      · have h := wp_f c h
        refine r_aload_n hc 0 rfl rfl dX1_number_34 ?_
        refine r_iload_n hc 3 rfl rfl dX1_number_35 ?_
        refine r_iload hc 4 rfl dX1_number_36 ?_
        obtain ⟨_, ek5, h⟩ := wp_g h
        obtain ⟨_, σ4, er3, h⟩ := wp_b h
        refine r_callV hc (k0 := x0) mv_X1_join ml_X1_30 (c_X1_join er3) (chk_of ek5) cls_1.1 rfl rfl rfl (by decide) rfl (Nat.le_of_ble_eq_true rfl) dX1_number_38 ?_
        exact t_X1_number_b41 hc h kn kx47
noncomputable def f_X1_number_L7 (x0 : Nat) (x1 : Int32) (x2 : Int32) (v : (Int32)) (σ : Hp) : Option (((Int32) ⊕ (Unit)) × Hp) := if x1 ≤ v then (some (Sum.inr (), σ)) else (bO (wh (f_X1_number_L15 x0 x1 x2 v) 0 σ) fun y1 σ2 => (some (Sum.inl (v + 1), σ2)))
set_option maxRecDepth 100000 in
set_option maxHeartbeats 4000000 in
theorem t_X1_number_L7 {l : Launch} {γ : Gm} {ad : Nat → Nat} {K : Option Value → Hp → Prop}  (hc : Cx l γ 2 5 ad shC RX1 cX1_number none K) {x0 : Nat} {x1 : Int32} {x2 : Int32} {v : (Int32)} {σ : Hp} {KX : (Unit) → Hp → Prop} (h : wpO (wh (f_X1_number_L7 x0 x1 x2) v σ) KX) (kx53 : ∀ (v : Unit) (σ : Hp), KX v σ → WW l γ 2 5 ad shC 53 [] [] σ) : WW l γ 2 5 ad shC 7 [(0, .ref (ad x0)), (1, .int x1), (2, .int x2), (3, .int v)] [] σ := by
  refine wh_W (P := fun v σ => WW l γ 2 5 ad shC 7 [(0, .ref (ad x0)), (1, .int x1), (2, .int x2), (3, .int v)] [] σ) (fun v σ h => ?_) h
  have kn : ∀ (v : (Int32)) (σ : Hp), WW l γ 2 5 ad shC 7 [(0, .ref (ad x0)), (1, .int x1), (2, .int x2), (3, .int v)] [] σ → WW l γ 2 5 ad shC 7 [(0, .ref (ad x0)), (1, .int x1), (2, .int x2), (3, .int v)] [] σ := fun _ _ h => h
  · unfold f_X1_number_L7 at h
    refine r_iload_n hc 3 rfl rfl dX1_number_7 ?_
    refine r_iload_n hc 1 rfl rfl dX1_number_8 ?_
    refine r_icmp_ge hc (tgt := 53) dX1_number_9 (by decide) (fun c => ?_) (fun c => ?_)
    · have h := wp_t c h
      refine r_sub [] (lv' := []) rfl ?_
      have h := wp_v h
      exact kx53 () _ h
    · have h := wp_f c h
      refine r_iconst hc (v := 0) (by decide) dX1_number_12 ?_
      refine r_istoreE hc (i := 4) (lv' := [(4, .int 0), (0, .ref (ad x0)), (1, .int x1), (2, .int x2), (3, .int v)]) rfl (by decide) rfl dX1_number_13 ?_
      refine r_sub [1, 2, 3, 4, 0] (lv' := [(0, .ref (ad x0)), (1, .int x1), (2, .int x2), (3, .int v), (4, .int 0)]) rfl ?_
      refine t_X1_number_L15 hc (wp_bb h) ?_
      · intro y1 σ2 h
        refine r_iincE hc (j := 3) (w := 1) (lv' := [(3, .int (v + 1)), (0, .ref (ad x0)), (1, .int x1), (2, .int x2)]) rfl (by decide) rfl (by decide) rfl dX1_number_47 ?_
        refine r_goto hc (tgt := 7) dX1_number_50 (by decide) ?_
        refine r_sub [1, 2, 3, 0] (lv' := [(0, .ref (ad x0)), (1, .int x1), (2, .int x2), (3, .int (v + 1))]) rfl ?_
        have h := wp_v h
        exact kn (v + 1) _ h
noncomputable def f_X1_number (x0 : Nat) (x1 : Int32) (x2 : Int32) (σ : Hp) : Option (Unit × Hp) := gO (chk shC x0 1) fun _ => bO (f_X1_begin x0 x1 σ) fun _ σ2 => bO (wh (f_X1_number_L7 x0 x1 x2) 0 σ2) fun y4 σ5 => (some ((), σ5))
set_option maxRecDepth 100000 in
set_option maxHeartbeats 4000000 in
theorem t_X1_number {l : Launch} {γ : Gm} {ad : Nat → Nat} {K : Option Value → Hp → Prop} (hc : Cx l γ 2 5 ad shC RX1 cX1_number none K) {x0 : Nat} {x1 : Int32} {x2 : Int32} {σ : Hp} (h : wpO (f_X1_number x0 x1 x2 σ) (KU K)) : WW l γ 2 5 ad shC 0 [(0, .ref (ad x0)), (1, .int x1), (2, .int x2)] [] σ := by
  unfold f_X1_number at h
  refine r_aload_n hc 0 rfl rfl dX1_number_0 ?_
  refine r_iload_n hc 1 rfl rfl dX1_number_1 ?_
  obtain ⟨_, ek3, h⟩ := wp_g h
  obtain ⟨_, σ2, er1, h⟩ := wp_b h
  refine r_callV hc (k0 := x0) mv_X1_begin ml_X1_22 (c_X1_begin er1) (chk_of ek3) cls_1.1 rfl rfl rfl (by decide) rfl (Nat.le_of_ble_eq_true rfl) dX1_number_2 ?_
  refine r_iconst hc (v := 0) (by decide) dX1_number_5 ?_
  refine r_istore_nE hc (i := 3) (lv' := [(3, .int 0), (0, .ref (ad x0)), (1, .int x1), (2, .int x2)]) rfl rfl (by decide) rfl dX1_number_6 ?_
  refine r_sub [1, 2, 3, 0] (lv' := [(0, .ref (ad x0)), (1, .int x1), (2, .int x2), (3, .int 0)]) rfl ?_
  refine t_X1_number_L7 hc (wp_bb h) ?_
  · intro y4 σ5 h
    have h := wp_v h
    exact r_vret hc h dX1_number_53
theorem c_X1_number {l : Launch} {x0 : Nat} {x1 : Int32} {x2 : Int32} {σ σ' : Hp} {r : Unit} (h : f_X1_number x0 x1 x2 σ = some (r, σ')) : Mt l yX1_number cX1_number 5 none 2 shC (fun ad => [.ref (ad x0), .int x1, .int x2]) σ (fun ad => none) σ' := mt_i (own := RX1) (by decide) rfl (fun _ => Nat.le_of_ble_eq_true rfl) (fun γ ad K hc hk => t_X1_number hc ⟨_, _, h, hk⟩)

-- NetMaps.triedOnSmall(IIIIZ)I
theorem dX6_triedOnSmall_0 : decode cX6_triedOnSmall 0 = .ok (.iload_n 2, 1) := by decide +kernel
theorem dX6_triedOnSmall_1 : decode cX6_triedOnSmall 1 = .ok (.invokestatic 76, 3) := by decide +kernel
theorem dX6_triedOnSmall_4 : decode cX6_triedOnSmall 4 = .ok (.ifCond .ne 22, 3) := by decide +kernel
theorem dX6_triedOnSmall_7 : decode cX6_triedOnSmall 7 = .ok (.iload_n 3, 1) := by decide +kernel
theorem dX6_triedOnSmall_8 : decode cX6_triedOnSmall 8 = .ok (.invokestatic 76, 3) := by decide +kernel
theorem dX6_triedOnSmall_11 : decode cX6_triedOnSmall 11 = .ok (.ifCond .ne 15, 3) := by decide +kernel
theorem dX6_triedOnSmall_14 : decode cX6_triedOnSmall 14 = .ok (.iload 4, 2) := by decide +kernel
theorem dX6_triedOnSmall_16 : decode cX6_triedOnSmall 16 = .ok (.iconst 1, 1) := by decide +kernel
theorem dX6_triedOnSmall_17 : decode cX6_triedOnSmall 17 = .ok (.if_icmp .lt 9, 3) := by decide +kernel
theorem dX6_triedOnSmall_20 : decode cX6_triedOnSmall 20 = .ok (.iload 4, 2) := by decide +kernel
theorem dX6_triedOnSmall_22 : decode cX6_triedOnSmall 22 = .ok (.iconst 3, 1) := by decide +kernel
theorem dX6_triedOnSmall_23 : decode cX6_triedOnSmall 23 = .ok (.if_icmp .le 5, 3) := by decide +kernel
theorem dX6_triedOnSmall_26 : decode cX6_triedOnSmall 26 = .ok (.iconst (-1), 1) := by decide +kernel
theorem dX6_triedOnSmall_27 : decode cX6_triedOnSmall 27 = .ok (.ireturn, 1) := by decide +kernel
theorem dX6_triedOnSmall_28 : decode cX6_triedOnSmall 28 = .ok (.aload_n 0, 1) := by decide +kernel
theorem dX6_triedOnSmall_29 : decode cX6_triedOnSmall 29 = .ok (.iload_n 2, 1) := by decide +kernel
theorem dX6_triedOnSmall_30 : decode cX6_triedOnSmall 30 = .ok (.invokevirtual 91, 3) := by decide +kernel
theorem dX6_triedOnSmall_33 : decode cX6_triedOnSmall 33 = .ok (.invokevirtual 109, 3) := by decide +kernel
theorem dX6_triedOnSmall_36 : decode cX6_triedOnSmall 36 = .ok (.ifCond .ne 14, 3) := by decide +kernel
theorem dX6_triedOnSmall_39 : decode cX6_triedOnSmall 39 = .ok (.aload_n 0, 1) := by decide +kernel
theorem dX6_triedOnSmall_40 : decode cX6_triedOnSmall 40 = .ok (.iload_n 3, 1) := by decide +kernel
theorem dX6_triedOnSmall_41 : decode cX6_triedOnSmall 41 = .ok (.invokevirtual 91, 3) := by decide +kernel
theorem dX6_triedOnSmall_44 : decode cX6_triedOnSmall 44 = .ok (.invokevirtual 109, 3) := by decide +kernel
theorem dX6_triedOnSmall_47 : decode cX6_triedOnSmall 47 = .ok (.ifCond .eq 6, 3) := by decide +kernel
theorem dX6_triedOnSmall_50 : decode cX6_triedOnSmall 50 = .ok (.bipush (-2), 2) := by decide +kernel
theorem dX6_triedOnSmall_52 : decode cX6_triedOnSmall 52 = .ok (.ireturn, 1) := by decide +kernel
theorem dX6_triedOnSmall_53 : decode cX6_triedOnSmall 53 = .ok (.iconst 0, 1) := by decide +kernel
theorem dX6_triedOnSmall_54 : decode cX6_triedOnSmall 54 = .ok (.istore 6, 2) := by decide +kernel
theorem dX6_triedOnSmall_56 : decode cX6_triedOnSmall 56 = .ok (.iconst 0, 1) := by decide +kernel
theorem dX6_triedOnSmall_57 : decode cX6_triedOnSmall 57 = .ok (.istore 7, 2) := by decide +kernel
theorem dX6_triedOnSmall_59 : decode cX6_triedOnSmall 59 = .ok (.iload 7, 2) := by decide +kernel
theorem dX6_triedOnSmall_61 : decode cX6_triedOnSmall 61 = .ok (.iconst 1, 1) := by decide +kernel
theorem dX6_triedOnSmall_62 : decode cX6_triedOnSmall 62 = .ok (.iload 4, 2) := by decide +kernel
theorem dX6_triedOnSmall_64 : decode cX6_triedOnSmall 64 = .ok (.iload 4, 2) := by decide +kernel
theorem dX6_triedOnSmall_66 : decode cX6_triedOnSmall 66 = .ok (.imul, 1) := by decide +kernel
theorem dX6_triedOnSmall_67 : decode cX6_triedOnSmall 67 = .ok (.ishl, 1) := by decide +kernel
theorem dX6_triedOnSmall_68 : decode cX6_triedOnSmall 68 = .ok (.if_icmp .ge 49, 3) := by decide +kernel
theorem dX6_triedOnSmall_71 : decode cX6_triedOnSmall 71 = .ok (.aload_n 0, 1) := by decide +kernel
theorem dX6_triedOnSmall_72 : decode cX6_triedOnSmall 72 = .ok (.getfield 34, 3) := by decide +kernel
theorem dX6_triedOnSmall_75 : decode cX6_triedOnSmall 75 = .ok (.iload 4, 2) := by decide +kernel
theorem dX6_triedOnSmall_77 : decode cX6_triedOnSmall 77 = .ok (.iload 7, 2) := by decide +kernel
theorem dX6_triedOnSmall_79 : decode cX6_triedOnSmall 79 = .ok (.invokevirtual 345, 3) := by decide +kernel
theorem dX6_triedOnSmall_82 : decode cX6_triedOnSmall 82 = .ok (.aload_n 0, 1) := by decide +kernel
theorem dX6_triedOnSmall_83 : decode cX6_triedOnSmall 83 = .ok (.iload_n 1, 1) := by decide +kernel
theorem dX6_triedOnSmall_84 : decode cX6_triedOnSmall 84 = .ok (.aload_n 0, 1) := by decide +kernel
theorem dX6_triedOnSmall_85 : decode cX6_triedOnSmall 85 = .ok (.iload_n 2, 1) := by decide +kernel
theorem dX6_triedOnSmall_86 : decode cX6_triedOnSmall 86 = .ok (.invokevirtual 91, 3) := by decide +kernel
theorem dX6_triedOnSmall_89 : decode cX6_triedOnSmall 89 = .ok (.aload_n 0, 1) := by decide +kernel
theorem dX6_triedOnSmall_90 : decode cX6_triedOnSmall 90 = .ok (.iload_n 3, 1) := by decide +kernel
theorem dX6_triedOnSmall_91 : decode cX6_triedOnSmall 91 = .ok (.invokevirtual 91, 3) := by decide +kernel
theorem dX6_triedOnSmall_94 : decode cX6_triedOnSmall 94 = .ok (.invokevirtual 348, 3) := by decide +kernel
theorem dX6_triedOnSmall_97 : decode cX6_triedOnSmall 97 = .ok (.ifCond .eq 14, 3) := by decide +kernel
theorem dX6_triedOnSmall_100 : decode cX6_triedOnSmall 100 = .ok (.iload 5, 2) := by decide +kernel
theorem dX6_triedOnSmall_102 : decode cX6_triedOnSmall 102 = .ok (.ifCond .eq 6, 3) := by decide +kernel
theorem dX6_triedOnSmall_105 : decode cX6_triedOnSmall 105 = .ok (.iload 7, 2) := by decide +kernel
theorem dX6_triedOnSmall_107 : decode cX6_triedOnSmall 107 = .ok (.ireturn, 1) := by decide +kernel
theorem dX6_triedOnSmall_108 : decode cX6_triedOnSmall 108 = .ok (.iinc 6 1, 3) := by decide +kernel
theorem dX6_triedOnSmall_111 : decode cX6_triedOnSmall 111 = .ok (.iinc 7 1, 3) := by decide +kernel
theorem dX6_triedOnSmall_114 : decode cX6_triedOnSmall 114 = .ok (.goto (-55), 3) := by decide +kernel
theorem dX6_triedOnSmall_117 : decode cX6_triedOnSmall 117 = .ok (.iload 5, 2) := by decide +kernel
theorem dX6_triedOnSmall_119 : decode cX6_triedOnSmall 119 = .ok (.ifCond .eq 8, 3) := by decide +kernel
theorem dX6_triedOnSmall_122 : decode cX6_triedOnSmall 122 = .ok (.bipush (-4), 2) := by decide +kernel
theorem dX6_triedOnSmall_124 : decode cX6_triedOnSmall 124 = .ok (.goto 5, 3) := by decide +kernel
theorem dX6_triedOnSmall_127 : decode cX6_triedOnSmall 127 = .ok (.iload 6, 2) := by decide +kernel
theorem dX6_triedOnSmall_129 : decode cX6_triedOnSmall 129 = .ok (.ireturn, 1) := by decide +kernel
noncomputable def f_X6_triedOnSmall_b26  (σ : Hp) : Option (Int32 × Hp) := some ((-1), σ)
set_option maxRecDepth 100000 in
set_option maxHeartbeats 4000000 in
theorem t_X6_triedOnSmall_b26 {l : Launch} {γ : Gm} {ad : Nat → Nat} {K : Option Value → Hp → Prop} (hc : Cx l γ 37 8 ad shC RX6 cX6_triedOnSmall (some .int) K)  {σ : Hp} (h : wpO (f_X6_triedOnSmall_b26  σ) (KI K)) : WW l γ 37 8 ad shC 26 [] [] σ := by
  unfold f_X6_triedOnSmall_b26 at h
  refine r_iconst hc (v := (-1)) (by decide) dX6_triedOnSmall_26 ?_
  have h := wp_v h
  exact r_iret hc h dX6_triedOnSmall_27
noncomputable def f_X6_triedOnSmall_b50  (σ : Hp) : Option (Int32 × Hp) := some ((-2), σ)
set_option maxRecDepth 100000 in
set_option maxHeartbeats 4000000 in
theorem t_X6_triedOnSmall_b50 {l : Launch} {γ : Gm} {ad : Nat → Nat} {K : Option Value → Hp → Prop} (hc : Cx l γ 37 8 ad shC RX6 cX6_triedOnSmall (some .int) K)  {σ : Hp} (h : wpO (f_X6_triedOnSmall_b50  σ) (KI K)) : WW l γ 37 8 ad shC 50 [] [] σ := by
  unfold f_X6_triedOnSmall_b50 at h
  refine r_bipush hc (v := (-2)) (by decide) dX6_triedOnSmall_50 ?_
  have h := wp_v h
  exact r_iret hc h dX6_triedOnSmall_52
noncomputable def f_X6_triedOnSmall_b111 (x0 : Nat) (x1 : Int32) (x2 : Int32) (x3 : Int32) (x4 : Int32) (x5 : Int32) (x6 : Int32) (x7 : Int32) (σ : Hp) : Option (((Int32 × Int32) ⊕ ((Int32) ⊕ (Int32))) × Hp) := some (Sum.inl (x6, (x7 + 1)), σ)
set_option maxRecDepth 100000 in
set_option maxHeartbeats 4000000 in
theorem t_X6_triedOnSmall_b111 {l : Launch} {γ : Gm} {ad : Nat → Nat} {K : Option Value → Hp → Prop} (hc : Cx l γ 37 8 ad shC RX6 cX6_triedOnSmall (some .int) K) {x0 : Nat} {x1 : Int32} {x2 : Int32} {x3 : Int32} {x4 : Int32} {x5 : Int32} {x6 : Int32} {x7 : Int32}  {σ : Hp} {KL : ((Int32 × Int32) ⊕ ((Int32) ⊕ (Int32))) → Hp → Prop} (h : wpO (f_X6_triedOnSmall_b111 x0 x1 x2 x3 x4 x5 x6 x7 σ) KL) (kn : ∀ (v : (Int32 × Int32)) (σ : Hp), KL (Sum.inl v) σ → WW l γ 37 8 ad shC 59 [(0, .ref (ad x0)), (1, .int x1), (2, .int x2), (3, .int x3), (4, .int x4), (5, .int x5), (6, .int v.1), (7, .int v.2)] [] σ) (kx105 : ∀ (v : Int32) (σ : Hp), KL (Sum.inr (Sum.inl v)) σ → WW l γ 37 8 ad shC 105 [(7, .int v)] [] σ) (kx117 : ∀ (v : Int32) (σ : Hp), KL (Sum.inr (Sum.inr v)) σ → WW l γ 37 8 ad shC 117 [(5, .int x5), (6, .int v)] [] σ) : WW l γ 37 8 ad shC 111 [(0, .ref (ad x0)), (1, .int x1), (2, .int x2), (3, .int x3), (4, .int x4), (5, .int x5), (6, .int x6), (7, .int x7)] [] σ := by
  unfold f_X6_triedOnSmall_b111 at h
  refine r_iincE hc (j := 7) (w := 1) (lv' := [(7, .int (x7 + 1)), (0, .ref (ad x0)), (1, .int x1), (2, .int x2), (3, .int x3), (4, .int x4), (5, .int x5), (6, .int x6)]) rfl (by decide) rfl (by decide) rfl dX6_triedOnSmall_111 ?_
  refine r_goto hc (tgt := 59) dX6_triedOnSmall_114 (by decide) ?_
  refine r_sub [1, 2, 3, 4, 5, 6, 7, 0] (lv' := [(0, .ref (ad x0)), (1, .int x1), (2, .int x2), (3, .int x3), (4, .int x4), (5, .int x5), (6, .int x6), (7, .int (x7 + 1))]) rfl ?_
  have h := wp_v h
  exact kn (x6, (x7 + 1)) _ h
noncomputable def f_X6_triedOnSmall_L59 (x0 : Nat) (x1 : Int32) (x2 : Int32) (x3 : Int32) (x4 : Int32) (x5 : Int32) (v : (Int32 × Int32)) (σ : Hp) : Option (((Int32 × Int32) ⊕ ((Int32) ⊕ (Int32))) × Hp) := if ((1 : Int32) <<< ((x4 * x4) &&& 31)) ≤ v.2 then (some (Sum.inr (Sum.inr v.1), σ)) else (gO (getR shC 6 x0 6 σ) fun v1 => gO (chk shC v1 1) fun _ => bO (f_X1_number v1 x4 v.2 σ) fun _ σ3 => gO (chk shC x0 6) fun _ => bO (f_X6_in x0 x2 σ3) fun r5 σ6 => gO (chk shC x0 6) fun _ => bO (f_X6_in x0 x3 σ6) fun r8 σ9 => gO (chk shC x0 6) fun _ => bO (f_X6_meets x0 x1 r5 r8 σ9) fun r11 σ12 => if r11 = 0 then (f_X6_triedOnSmall_b111 x0 x1 x2 x3 x4 x5 v.1 v.2 σ12) else (if x5 = 0 then (f_X6_triedOnSmall_b111 x0 x1 x2 x3 x4 x5 (v.1 + 1) v.2 σ12) else (some (Sum.inr (Sum.inl v.2), σ12))))
set_option maxRecDepth 100000 in
set_option maxHeartbeats 4000000 in
theorem t_X6_triedOnSmall_L59 {l : Launch} {γ : Gm} {ad : Nat → Nat} {K : Option Value → Hp → Prop}  (hc : Cx l γ 37 8 ad shC RX6 cX6_triedOnSmall (some .int) K) {x0 : Nat} {x1 : Int32} {x2 : Int32} {x3 : Int32} {x4 : Int32} {x5 : Int32} {v : (Int32 × Int32)} {σ : Hp} {KX : ((Int32) ⊕ (Int32)) → Hp → Prop} (h : wpO (wh (f_X6_triedOnSmall_L59 x0 x1 x2 x3 x4 x5) v σ) KX) (kx105 : ∀ (v : Int32) (σ : Hp), KX (Sum.inl v) σ → WW l γ 37 8 ad shC 105 [(7, .int v)] [] σ) (kx117 : ∀ (v : Int32) (σ : Hp), KX (Sum.inr v) σ → WW l γ 37 8 ad shC 117 [(5, .int x5), (6, .int v)] [] σ) : WW l γ 37 8 ad shC 59 [(0, .ref (ad x0)), (1, .int x1), (2, .int x2), (3, .int x3), (4, .int x4), (5, .int x5), (6, .int v.1), (7, .int v.2)] [] σ := by
  refine wh_W (P := fun v σ => WW l γ 37 8 ad shC 59 [(0, .ref (ad x0)), (1, .int x1), (2, .int x2), (3, .int x3), (4, .int x4), (5, .int x5), (6, .int v.1), (7, .int v.2)] [] σ) (fun v σ h => ?_) h
  have kn : ∀ (v : (Int32 × Int32)) (σ : Hp), WW l γ 37 8 ad shC 59 [(0, .ref (ad x0)), (1, .int x1), (2, .int x2), (3, .int x3), (4, .int x4), (5, .int x5), (6, .int v.1), (7, .int v.2)] [] σ → WW l γ 37 8 ad shC 59 [(0, .ref (ad x0)), (1, .int x1), (2, .int x2), (3, .int x3), (4, .int x4), (5, .int x5), (6, .int v.1), (7, .int v.2)] [] σ := fun _ _ h => h
  · unfold f_X6_triedOnSmall_L59 at h
    refine r_iload hc 7 rfl dX6_triedOnSmall_59 ?_
    refine r_iconst hc (v := 1) (by decide) dX6_triedOnSmall_61 ?_
    refine r_iload hc 4 rfl dX6_triedOnSmall_62 ?_
    refine r_iload hc 4 rfl dX6_triedOnSmall_64 ?_
    refine r_imul hc dX6_triedOnSmall_66 ?_
    refine r_ishl hc dX6_triedOnSmall_67 ?_
    refine r_icmp_ge hc (tgt := 117) dX6_triedOnSmall_68 (by decide) (fun c => ?_) (fun c => ?_)
    · have h := wp_t c h
      refine r_sub [5, 6] (lv' := [(5, .int x5), (6, .int v.1)]) rfl ?_
      have h := wp_v h
      exact kx117 v.1 _ h
    · have h := wp_f c h
      refine r_aload_n hc 0 rfl rfl dX6_triedOnSmall_71 ?_
      obtain ⟨v1, ev1, h⟩ := wp_g h
      refine r_getR hc ev1 fl_X6_34 rfl dX6_triedOnSmall_72 ?_
      refine r_iload hc 4 rfl dX6_triedOnSmall_75 ?_
      refine r_iload hc 7 rfl dX6_triedOnSmall_77 ?_
      obtain ⟨_, ek4, h⟩ := wp_g h
      obtain ⟨_, σ3, er2, h⟩ := wp_b h
      refine r_callV hc (k0 := v1) mv_X1_number ml_X6_345 (c_X1_number er2) (chk_of ek4) cls_1.1 rfl rfl rfl (by decide) rfl (Nat.le_of_ble_eq_true rfl) dX6_triedOnSmall_79 ?_
      refine r_aload_n hc 0 rfl rfl dX6_triedOnSmall_82 ?_
      refine r_iload_n hc 1 rfl rfl dX6_triedOnSmall_83 ?_
      refine r_aload_n hc 0 rfl rfl dX6_triedOnSmall_84 ?_
      refine r_iload_n hc 2 rfl rfl dX6_triedOnSmall_85 ?_
      obtain ⟨_, ek7, h⟩ := wp_g h
      obtain ⟨r5, σ6, er5, h⟩ := wp_b h
      refine r_callV hc (k0 := x0) mv_X6_in ml_X6_91 (c_X6_in er5) (chk_of ek7) cls_6.1 rfl rfl rfl (by decide) rfl (Nat.le_of_ble_eq_true rfl) dX6_triedOnSmall_86 ?_
      refine r_aload_n hc 0 rfl rfl dX6_triedOnSmall_89 ?_
      refine r_iload_n hc 3 rfl rfl dX6_triedOnSmall_90 ?_
      obtain ⟨_, ek10, h⟩ := wp_g h
      obtain ⟨r8, σ9, er8, h⟩ := wp_b h
      refine r_callV hc (k0 := x0) mv_X6_in ml_X6_91 (c_X6_in er8) (chk_of ek10) cls_6.1 rfl rfl rfl (by decide) rfl (Nat.le_of_ble_eq_true rfl) dX6_triedOnSmall_91 ?_
      obtain ⟨_, ek13, h⟩ := wp_g h
      obtain ⟨r11, σ12, er11, h⟩ := wp_b h
      refine r_callV hc (k0 := x0) mv_X6_meets ml_X6_348 (c_X6_meets er11) (chk_of ek13) cls_6.1 rfl rfl rfl (by decide) rfl (Nat.le_of_ble_eq_true rfl) dX6_triedOnSmall_94 ?_
      refine r_if_eq hc (tgt := 111) dX6_triedOnSmall_97 (by decide) (fun c => ?_) (fun c => ?_)
      · have h := wp_t c h
        exact t_X6_triedOnSmall_b111 hc h kn kx105 kx117
      · have h := wp_f c h
        refine r_iload hc 5 rfl dX6_triedOnSmall_100 ?_
        refine r_if_eq hc (tgt := 108) dX6_triedOnSmall_102 (by decide) (fun c => ?_) (fun c => ?_)
        · have h := wp_t c h
          refine r_iincE hc (j := 6) (w := 1) (lv' := [(6, .int (v.1 + 1)), (0, .ref (ad x0)), (1, .int x1), (2, .int x2), (3, .int x3), (4, .int x4), (5, .int x5), (7, .int v.2)]) rfl (by decide) rfl (by decide) rfl dX6_triedOnSmall_108 ?_
          refine r_sub [1, 2, 3, 4, 5, 6, 0, 7] (lv' := [(0, .ref (ad x0)), (1, .int x1), (2, .int x2), (3, .int x3), (4, .int x4), (5, .int x5), (6, .int (v.1 + 1)), (7, .int v.2)]) rfl ?_
          exact t_X6_triedOnSmall_b111 hc h kn kx105 kx117
        · have h := wp_f c h
          refine r_sub [7] (lv' := [(7, .int v.2)]) rfl ?_
          have h := wp_v h
          exact kx105 v.2 _ h
noncomputable def f_X6_triedOnSmall_b129 (s0 : Int32) (σ : Hp) : Option (Int32 × Hp) := some (s0, σ)
set_option maxRecDepth 100000 in
set_option maxHeartbeats 4000000 in
theorem t_X6_triedOnSmall_b129 {l : Launch} {γ : Gm} {ad : Nat → Nat} {K : Option Value → Hp → Prop} (hc : Cx l γ 37 8 ad shC RX6 cX6_triedOnSmall (some .int) K) {s0 : Int32} {σ : Hp} (h : wpO (f_X6_triedOnSmall_b129 s0 σ) (KI K)) : WW l γ 37 8 ad shC 129 [] [.int s0] σ := by
  unfold f_X6_triedOnSmall_b129 at h
  have h := wp_v h
  exact r_iret hc h dX6_triedOnSmall_129
noncomputable def f_X6_triedOnSmall (x0 : Nat) (x1 : Int32) (x2 : Int32) (x3 : Int32) (x4 : Int32) (x5 : Int32) (σ : Hp) : Option (Int32 × Hp) := bO (f_X6_noDrawer x2 σ) fun r1 σ2 => if r1 = 0 then (bO (f_X6_noDrawer x3 σ2) fun r3 σ4 => if r3 = 0 then (if x4 < 1 then (f_X6_triedOnSmall_b26  σ4) else (if x4 ≤ 3 then (gO (chk shC x0 6) fun _ => bO (f_X6_in x0 x2 σ4) fun r5 σ6 => gO (chk shC r5 1) fun _ => bO (f_X1_isEmpty r5 σ6) fun r8 σ9 => if r8 = 0 then (gO (chk shC x0 6) fun _ => bO (f_X6_in x0 x3 σ9) fun r11 σ12 => gO (chk shC r11 1) fun _ => bO (f_X1_isEmpty r11 σ12) fun r14 σ15 => if r14 = 0 then (bO (wh (f_X6_triedOnSmall_L59 x0 x1 x2 x3 x4 x5) (0, 0) σ15) fun y17 σ18 => (Sum.elim (fun y17' => (some (y17', σ18))) (fun y19 => (if x5 = 0 then (f_X6_triedOnSmall_b129 y19 σ18) else (f_X6_triedOnSmall_b129 (-4) σ18))) y17)) else (f_X6_triedOnSmall_b50  σ15)) else (f_X6_triedOnSmall_b50  σ9)) else (f_X6_triedOnSmall_b26  σ4))) else (f_X6_triedOnSmall_b26  σ4)) else (f_X6_triedOnSmall_b26  σ2)
set_option maxRecDepth 100000 in
set_option maxHeartbeats 4000000 in
theorem t_X6_triedOnSmall {l : Launch} {γ : Gm} {ad : Nat → Nat} {K : Option Value → Hp → Prop} (hc : Cx l γ 37 8 ad shC RX6 cX6_triedOnSmall (some .int) K) {x0 : Nat} {x1 : Int32} {x2 : Int32} {x3 : Int32} {x4 : Int32} {x5 : Int32} {σ : Hp} (h : wpO (f_X6_triedOnSmall x0 x1 x2 x3 x4 x5 σ) (KI K)) : WW l γ 37 8 ad shC 0 [(0, .ref (ad x0)), (1, .int x1), (2, .int x2), (3, .int x3), (4, .int x4), (5, .int x5)] [] σ := by
  unfold f_X6_triedOnSmall at h
  refine r_iload_n hc 2 rfl rfl dX6_triedOnSmall_0 ?_
  obtain ⟨r1, σ2, er1, h⟩ := wp_b h
  refine r_callS hc ms_X6_noDrawer ml_X6_76 (c_X6_noDrawer er1) rfl rfl (by decide) rfl (Nat.le_of_ble_eq_true rfl) dX6_triedOnSmall_1 ?_
  refine r_if_ne hc (tgt := 26) dX6_triedOnSmall_4 (by decide) (fun c => ?_) (fun c => ?_)
  · have h := wp_f c h
    refine r_sub [] (lv' := []) rfl ?_
    exact t_X6_triedOnSmall_b26 hc h
  · have h := wp_t c h
    refine r_iload_n hc 3 rfl rfl dX6_triedOnSmall_7 ?_
    obtain ⟨r3, σ4, er3, h⟩ := wp_b h
    refine r_callS hc ms_X6_noDrawer ml_X6_76 (c_X6_noDrawer er3) rfl rfl (by decide) rfl (Nat.le_of_ble_eq_true rfl) dX6_triedOnSmall_8 ?_
    refine r_if_ne hc (tgt := 26) dX6_triedOnSmall_11 (by decide) (fun c => ?_) (fun c => ?_)
    · have h := wp_f c h
      refine r_sub [] (lv' := []) rfl ?_
      exact t_X6_triedOnSmall_b26 hc h
    · have h := wp_t c h
      refine r_iload hc 4 rfl dX6_triedOnSmall_14 ?_
      refine r_iconst hc (v := 1) (by decide) dX6_triedOnSmall_16 ?_
      refine r_icmp_lt hc (tgt := 26) dX6_triedOnSmall_17 (by decide) (fun c => ?_) (fun c => ?_)
      · have h := wp_t c h
        refine r_sub [] (lv' := []) rfl ?_
        exact t_X6_triedOnSmall_b26 hc h
      · have h := wp_f c h
        refine r_iload hc 4 rfl dX6_triedOnSmall_20 ?_
        refine r_iconst hc (v := 3) (by decide) dX6_triedOnSmall_22 ?_
        refine r_icmp_le hc (tgt := 28) dX6_triedOnSmall_23 (by decide) (fun c => ?_) (fun c => ?_)
        · have h := wp_t c h
          refine r_aload_n hc 0 rfl rfl dX6_triedOnSmall_28 ?_
          refine r_iload_n hc 2 rfl rfl dX6_triedOnSmall_29 ?_
          obtain ⟨_, ek7, h⟩ := wp_g h
          obtain ⟨r5, σ6, er5, h⟩ := wp_b h
          refine r_callV hc (k0 := x0) mv_X6_in ml_X6_91 (c_X6_in er5) (chk_of ek7) cls_6.1 rfl rfl rfl (by decide) rfl (Nat.le_of_ble_eq_true rfl) dX6_triedOnSmall_30 ?_
          obtain ⟨_, ek10, h⟩ := wp_g h
          obtain ⟨r8, σ9, er8, h⟩ := wp_b h
          refine r_callV hc (k0 := r5) mv_X1_isEmpty ml_X6_109 (c_X1_isEmpty er8) (chk_of ek10) cls_1.1 rfl rfl rfl (by decide) rfl (Nat.le_of_ble_eq_true rfl) dX6_triedOnSmall_33 ?_
          refine r_if_ne hc (tgt := 50) dX6_triedOnSmall_36 (by decide) (fun c => ?_) (fun c => ?_)
          · have h := wp_f c h
            refine r_sub [] (lv' := []) rfl ?_
            exact t_X6_triedOnSmall_b50 hc h
          · have h := wp_t c h
            refine r_aload_n hc 0 rfl rfl dX6_triedOnSmall_39 ?_
            refine r_iload_n hc 3 rfl rfl dX6_triedOnSmall_40 ?_
            obtain ⟨_, ek13, h⟩ := wp_g h
            obtain ⟨r11, σ12, er11, h⟩ := wp_b h
            refine r_callV hc (k0 := x0) mv_X6_in ml_X6_91 (c_X6_in er11) (chk_of ek13) cls_6.1 rfl rfl rfl (by decide) rfl (Nat.le_of_ble_eq_true rfl) dX6_triedOnSmall_41 ?_
            obtain ⟨_, ek16, h⟩ := wp_g h
            obtain ⟨r14, σ15, er14, h⟩ := wp_b h
            refine r_callV hc (k0 := r11) mv_X1_isEmpty ml_X6_109 (c_X1_isEmpty er14) (chk_of ek16) cls_1.1 rfl rfl rfl (by decide) rfl (Nat.le_of_ble_eq_true rfl) dX6_triedOnSmall_44 ?_
            refine r_if_eq hc (tgt := 53) dX6_triedOnSmall_47 (by decide) (fun c => ?_) (fun c => ?_)
            · have h := wp_t c h
              refine r_iconst hc (v := 0) (by decide) dX6_triedOnSmall_53 ?_
              refine r_istoreE hc (i := 6) (lv' := [(6, .int 0), (0, .ref (ad x0)), (1, .int x1), (2, .int x2), (3, .int x3), (4, .int x4), (5, .int x5)]) rfl (by decide) rfl dX6_triedOnSmall_54 ?_
              refine r_iconst hc (v := 0) (by decide) dX6_triedOnSmall_56 ?_
              refine r_istoreE hc (i := 7) (lv' := [(7, .int 0), (6, .int 0), (0, .ref (ad x0)), (1, .int x1), (2, .int x2), (3, .int x3), (4, .int x4), (5, .int x5)]) rfl (by decide) rfl dX6_triedOnSmall_57 ?_
              refine r_sub [2, 3, 4, 5, 6, 7, 1, 0] (lv' := [(0, .ref (ad x0)), (1, .int x1), (2, .int x2), (3, .int x3), (4, .int x4), (5, .int x5), (6, .int 0), (7, .int 0)]) rfl ?_
              refine t_X6_triedOnSmall_L59 hc (wp_bb h) ?_ ?_
              · intro y17' σ18 h
                have h := wp_sl h
                refine r_iload hc 0 rfl dX6_triedOnSmall_105 ?_
                have h := wp_v h
                exact r_iret hc h dX6_triedOnSmall_107
              · intro y19 σ18 h
                have h := wp_sr h
                refine r_iload hc 0 rfl dX6_triedOnSmall_117 ?_
                refine r_if_eq hc (tgt := 127) dX6_triedOnSmall_119 (by decide) (fun c => ?_) (fun c => ?_)
                · have h := wp_t c h
                  refine r_iload hc 1 rfl dX6_triedOnSmall_127 ?_
                  refine r_sub [] (lv' := []) rfl ?_
                  exact t_X6_triedOnSmall_b129 hc h
                · have h := wp_f c h
                  refine r_bipush hc (v := (-4)) (by decide) dX6_triedOnSmall_122 ?_
                  refine r_goto hc (tgt := 129) dX6_triedOnSmall_124 (by decide) ?_
                  refine r_sub [] (lv' := []) rfl ?_
                  exact t_X6_triedOnSmall_b129 hc h
            · have h := wp_f c h
              refine r_sub [] (lv' := []) rfl ?_
              exact t_X6_triedOnSmall_b50 hc h
        · have h := wp_f c h
          refine r_sub [] (lv' := []) rfl ?_
          exact t_X6_triedOnSmall_b26 hc h
theorem c_X6_triedOnSmall {l : Launch} {x0 : Nat} {x1 : Int32} {x2 : Int32} {x3 : Int32} {x4 : Int32} {x5 : Int32} {σ σ' : Hp} {r : Int32} (h : f_X6_triedOnSmall x0 x1 x2 x3 x4 x5 σ = some (r, σ')) : Mt l yX6_triedOnSmall cX6_triedOnSmall 8 (some .int) 37 shC (fun ad => [.ref (ad x0), .int x1, .int x2, .int x3, .int x4, .int x5]) σ (fun ad => some (.int r)) σ' := mt_i (own := RX6) (by decide) rfl (fun _ => Nat.le_of_ble_eq_true rfl) (fun γ ad K hc hk => t_X6_triedOnSmall hc ⟨_, _, h, hk⟩)

-- NetMaps.duality(IIIZ)I
theorem dX6_duality_0 : decode cX6_duality 0 = .ok (.aload_n 0, 1) := by decide +kernel
theorem dX6_duality_1 : decode cX6_duality 1 = .ok (.iconst 0, 1) := by decide +kernel
theorem dX6_duality_2 : decode cX6_duality 2 = .ok (.iload_n 1, 1) := by decide +kernel
theorem dX6_duality_3 : decode cX6_duality 3 = .ok (.iload_n 2, 1) := by decide +kernel
theorem dX6_duality_4 : decode cX6_duality 4 = .ok (.iload_n 3, 1) := by decide +kernel
theorem dX6_duality_5 : decode cX6_duality 5 = .ok (.iload 4, 2) := by decide +kernel
theorem dX6_duality_7 : decode cX6_duality 7 = .ok (.invokevirtual 341, 3) := by decide +kernel
theorem dX6_duality_10 : decode cX6_duality 10 = .ok (.ireturn, 1) := by decide +kernel
noncomputable def f_X6_duality (x0 : Nat) (x1 : Int32) (x2 : Int32) (x3 : Int32) (x4 : Int32) (σ : Hp) : Option (Int32 × Hp) := gO (chk shC x0 6) fun _ => bO (f_X6_triedOnSmall x0 0 x1 x2 x3 x4 σ) fun r1 σ2 => some (r1, σ2)
set_option maxRecDepth 100000 in
set_option maxHeartbeats 4000000 in
theorem t_X6_duality {l : Launch} {γ : Gm} {ad : Nat → Nat} {K : Option Value → Hp → Prop} (hc : Cx l γ 38 5 ad shC RX6 cX6_duality (some .int) K) {x0 : Nat} {x1 : Int32} {x2 : Int32} {x3 : Int32} {x4 : Int32} {σ : Hp} (h : wpO (f_X6_duality x0 x1 x2 x3 x4 σ) (KI K)) : WW l γ 38 5 ad shC 0 [(0, .ref (ad x0)), (1, .int x1), (2, .int x2), (3, .int x3), (4, .int x4)] [] σ := by
  unfold f_X6_duality at h
  refine r_aload_n hc 0 rfl rfl dX6_duality_0 ?_
  refine r_iconst hc (v := 0) (by decide) dX6_duality_1 ?_
  refine r_iload_n hc 1 rfl rfl dX6_duality_2 ?_
  refine r_iload_n hc 2 rfl rfl dX6_duality_3 ?_
  refine r_iload_n hc 3 rfl rfl dX6_duality_4 ?_
  refine r_iload hc 4 rfl dX6_duality_5 ?_
  obtain ⟨_, ek3, h⟩ := wp_g h
  obtain ⟨r1, σ2, er1, h⟩ := wp_b h
  refine r_callV hc (k0 := x0) mv_X6_triedOnSmall ml_X6_341 (c_X6_triedOnSmall er1) (chk_of ek3) cls_6.1 rfl rfl rfl (by decide) rfl (Nat.le_of_ble_eq_true rfl) dX6_duality_7 ?_
  have h := wp_v h
  exact r_iret hc h dX6_duality_10
theorem c_X6_duality {l : Launch} {x0 : Nat} {x1 : Int32} {x2 : Int32} {x3 : Int32} {x4 : Int32} {σ σ' : Hp} {r : Int32} (h : f_X6_duality x0 x1 x2 x3 x4 σ = some (r, σ')) : Mt l yX6_duality cX6_duality 5 (some .int) 38 shC (fun ad => [.ref (ad x0), .int x1, .int x2, .int x3, .int x4]) σ (fun ad => some (.int r)) σ' := mt_i (own := RX6) (by decide) rfl (fun _ => Nat.le_of_ble_eq_true rfl) (fun γ ad K hc hk => t_X6_duality hc ⟨_, _, h, hk⟩)

-- NetMaps.between(IIIZ)I
theorem dX6_between_0 : decode cX6_between 0 = .ok (.aload_n 0, 1) := by decide +kernel
theorem dX6_between_1 : decode cX6_between 1 = .ok (.iconst 1, 1) := by decide +kernel
theorem dX6_between_2 : decode cX6_between 2 = .ok (.iload_n 1, 1) := by decide +kernel
theorem dX6_between_3 : decode cX6_between 3 = .ok (.iload_n 2, 1) := by decide +kernel
theorem dX6_between_4 : decode cX6_between 4 = .ok (.iload_n 3, 1) := by decide +kernel
theorem dX6_between_5 : decode cX6_between 5 = .ok (.iload 4, 2) := by decide +kernel
theorem dX6_between_7 : decode cX6_between 7 = .ok (.invokevirtual 341, 3) := by decide +kernel
theorem dX6_between_10 : decode cX6_between 10 = .ok (.ireturn, 1) := by decide +kernel
noncomputable def f_X6_between (x0 : Nat) (x1 : Int32) (x2 : Int32) (x3 : Int32) (x4 : Int32) (σ : Hp) : Option (Int32 × Hp) := gO (chk shC x0 6) fun _ => bO (f_X6_triedOnSmall x0 1 x1 x2 x3 x4 σ) fun r1 σ2 => some (r1, σ2)
set_option maxRecDepth 100000 in
set_option maxHeartbeats 4000000 in
theorem t_X6_between {l : Launch} {γ : Gm} {ad : Nat → Nat} {K : Option Value → Hp → Prop} (hc : Cx l γ 38 5 ad shC RX6 cX6_between (some .int) K) {x0 : Nat} {x1 : Int32} {x2 : Int32} {x3 : Int32} {x4 : Int32} {σ : Hp} (h : wpO (f_X6_between x0 x1 x2 x3 x4 σ) (KI K)) : WW l γ 38 5 ad shC 0 [(0, .ref (ad x0)), (1, .int x1), (2, .int x2), (3, .int x3), (4, .int x4)] [] σ := by
  unfold f_X6_between at h
  refine r_aload_n hc 0 rfl rfl dX6_between_0 ?_
  refine r_iconst hc (v := 1) (by decide) dX6_between_1 ?_
  refine r_iload_n hc 1 rfl rfl dX6_between_2 ?_
  refine r_iload_n hc 2 rfl rfl dX6_between_3 ?_
  refine r_iload_n hc 3 rfl rfl dX6_between_4 ?_
  refine r_iload hc 4 rfl dX6_between_5 ?_
  obtain ⟨_, ek3, h⟩ := wp_g h
  obtain ⟨r1, σ2, er1, h⟩ := wp_b h
  refine r_callV hc (k0 := x0) mv_X6_triedOnSmall ml_X6_341 (c_X6_triedOnSmall er1) (chk_of ek3) cls_6.1 rfl rfl rfl (by decide) rfl (Nat.le_of_ble_eq_true rfl) dX6_between_7 ?_
  have h := wp_v h
  exact r_iret hc h dX6_between_10
theorem c_X6_between {l : Launch} {x0 : Nat} {x1 : Int32} {x2 : Int32} {x3 : Int32} {x4 : Int32} {σ σ' : Hp} {r : Int32} (h : f_X6_between x0 x1 x2 x3 x4 σ = some (r, σ')) : Mt l yX6_between cX6_between 5 (some .int) 38 shC (fun ad => [.ref (ad x0), .int x1, .int x2, .int x3, .int x4]) σ (fun ad => some (.int r)) σ' := mt_i (own := RX6) (by decide) rfl (fun _ => Nat.le_of_ble_eq_true rfl) (fun γ ad K hc hk => t_X6_between hc ⟨_, _, h, hk⟩)

-- NetMaps.unlike(IIIZ)I
theorem dX6_unlike_0 : decode cX6_unlike 0 = .ok (.aload_n 0, 1) := by decide +kernel
theorem dX6_unlike_1 : decode cX6_unlike 1 = .ok (.iconst 2, 1) := by decide +kernel
theorem dX6_unlike_2 : decode cX6_unlike 2 = .ok (.iload_n 1, 1) := by decide +kernel
theorem dX6_unlike_3 : decode cX6_unlike 3 = .ok (.iload_n 2, 1) := by decide +kernel
theorem dX6_unlike_4 : decode cX6_unlike 4 = .ok (.iload_n 3, 1) := by decide +kernel
theorem dX6_unlike_5 : decode cX6_unlike 5 = .ok (.iload 4, 2) := by decide +kernel
theorem dX6_unlike_7 : decode cX6_unlike 7 = .ok (.invokevirtual 341, 3) := by decide +kernel
theorem dX6_unlike_10 : decode cX6_unlike 10 = .ok (.ireturn, 1) := by decide +kernel
noncomputable def f_X6_unlike (x0 : Nat) (x1 : Int32) (x2 : Int32) (x3 : Int32) (x4 : Int32) (σ : Hp) : Option (Int32 × Hp) := gO (chk shC x0 6) fun _ => bO (f_X6_triedOnSmall x0 2 x1 x2 x3 x4 σ) fun r1 σ2 => some (r1, σ2)
set_option maxRecDepth 100000 in
set_option maxHeartbeats 4000000 in
theorem t_X6_unlike {l : Launch} {γ : Gm} {ad : Nat → Nat} {K : Option Value → Hp → Prop} (hc : Cx l γ 38 5 ad shC RX6 cX6_unlike (some .int) K) {x0 : Nat} {x1 : Int32} {x2 : Int32} {x3 : Int32} {x4 : Int32} {σ : Hp} (h : wpO (f_X6_unlike x0 x1 x2 x3 x4 σ) (KI K)) : WW l γ 38 5 ad shC 0 [(0, .ref (ad x0)), (1, .int x1), (2, .int x2), (3, .int x3), (4, .int x4)] [] σ := by
  unfold f_X6_unlike at h
  refine r_aload_n hc 0 rfl rfl dX6_unlike_0 ?_
  refine r_iconst hc (v := 2) (by decide) dX6_unlike_1 ?_
  refine r_iload_n hc 1 rfl rfl dX6_unlike_2 ?_
  refine r_iload_n hc 2 rfl rfl dX6_unlike_3 ?_
  refine r_iload_n hc 3 rfl rfl dX6_unlike_4 ?_
  refine r_iload hc 4 rfl dX6_unlike_5 ?_
  obtain ⟨_, ek3, h⟩ := wp_g h
  obtain ⟨r1, σ2, er1, h⟩ := wp_b h
  refine r_callV hc (k0 := x0) mv_X6_triedOnSmall ml_X6_341 (c_X6_triedOnSmall er1) (chk_of ek3) cls_6.1 rfl rfl rfl (by decide) rfl (Nat.le_of_ble_eq_true rfl) dX6_unlike_7 ?_
  have h := wp_v h
  exact r_iret hc h dX6_unlike_10
theorem c_X6_unlike {l : Launch} {x0 : Nat} {x1 : Int32} {x2 : Int32} {x3 : Int32} {x4 : Int32} {σ σ' : Hp} {r : Int32} (h : f_X6_unlike x0 x1 x2 x3 x4 σ = some (r, σ')) : Mt l yX6_unlike cX6_unlike 5 (some .int) 38 shC (fun ad => [.ref (ad x0), .int x1, .int x2, .int x3, .int x4]) σ (fun ad => some (.int r)) σ' := mt_i (own := RX6) (by decide) rfl (fun _ => Nat.le_of_ble_eq_true rfl) (fun γ ad K hc hk => t_X6_unlike hc ⟨_, _, h, hk⟩)

-- NetMaps.colours(II)I
theorem dX6_colours_0 : decode cX6_colours 0 = .ok (.iload_n 1, 1) := by decide +kernel
theorem dX6_colours_1 : decode cX6_colours 1 = .ok (.invokestatic 76, 3) := by decide +kernel
theorem dX6_colours_4 : decode cX6_colours 4 = .ok (.ifCond .ne 14, 3) := by decide +kernel
theorem dX6_colours_7 : decode cX6_colours 7 = .ok (.iload_n 2, 1) := by decide +kernel
theorem dX6_colours_8 : decode cX6_colours 8 = .ok (.iconst 1, 1) := by decide +kernel
theorem dX6_colours_9 : decode cX6_colours 9 = .ok (.if_icmp .lt 9, 3) := by decide +kernel
theorem dX6_colours_12 : decode cX6_colours 12 = .ok (.iload_n 2, 1) := by decide +kernel
theorem dX6_colours_13 : decode cX6_colours 13 = .ok (.bipush 7, 2) := by decide +kernel
theorem dX6_colours_15 : decode cX6_colours 15 = .ok (.if_icmp .le 5, 3) := by decide +kernel
theorem dX6_colours_18 : decode cX6_colours 18 = .ok (.iconst (-1), 1) := by decide +kernel
theorem dX6_colours_19 : decode cX6_colours 19 = .ok (.ireturn, 1) := by decide +kernel
theorem dX6_colours_20 : decode cX6_colours 20 = .ok (.aload_n 0, 1) := by decide +kernel
theorem dX6_colours_21 : decode cX6_colours 21 = .ok (.iload_n 1, 1) := by decide +kernel
theorem dX6_colours_22 : decode cX6_colours 22 = .ok (.invokevirtual 91, 3) := by decide +kernel
theorem dX6_colours_25 : decode cX6_colours 25 = .ok (.invokevirtual 109, 3) := by decide +kernel
theorem dX6_colours_28 : decode cX6_colours 28 = .ok (.ifCond .eq 6, 3) := by decide +kernel
theorem dX6_colours_31 : decode cX6_colours 31 = .ok (.bipush (-2), 2) := by decide +kernel
theorem dX6_colours_33 : decode cX6_colours 33 = .ok (.ireturn, 1) := by decide +kernel
theorem dX6_colours_34 : decode cX6_colours 34 = .ok (.aload_n 0, 1) := by decide +kernel
theorem dX6_colours_35 : decode cX6_colours 35 = .ok (.getfield 34, 3) := by decide +kernel
theorem dX6_colours_38 : decode cX6_colours 38 = .ok (.iload_n 2, 1) := by decide +kernel
theorem dX6_colours_39 : decode cX6_colours 39 = .ok (.invokevirtual 106, 3) := by decide +kernel
theorem dX6_colours_42 : decode cX6_colours 42 = .ok (.iconst 0, 1) := by decide +kernel
theorem dX6_colours_43 : decode cX6_colours 43 = .ok (.istore_n 3, 1) := by decide +kernel
theorem dX6_colours_44 : decode cX6_colours 44 = .ok (.iload_n 3, 1) := by decide +kernel
theorem dX6_colours_45 : decode cX6_colours 45 = .ok (.iload_n 2, 1) := by decide +kernel
theorem dX6_colours_46 : decode cX6_colours 46 = .ok (.if_icmp .ge 40, 3) := by decide +kernel
theorem dX6_colours_49 : decode cX6_colours 49 = .ok (.iconst 0, 1) := by decide +kernel
theorem dX6_colours_50 : decode cX6_colours 50 = .ok (.istore 4, 2) := by decide +kernel
theorem dX6_colours_52 : decode cX6_colours 52 = .ok (.iload 4, 2) := by decide +kernel
theorem dX6_colours_54 : decode cX6_colours 54 = .ok (.iload_n 2, 1) := by decide +kernel
theorem dX6_colours_55 : decode cX6_colours 55 = .ok (.if_icmp .ge 25, 3) := by decide +kernel
theorem dX6_colours_58 : decode cX6_colours 58 = .ok (.iload_n 3, 1) := by decide +kernel
theorem dX6_colours_59 : decode cX6_colours 59 = .ok (.iload 4, 2) := by decide +kernel
theorem dX6_colours_61 : decode cX6_colours 61 = .ok (.if_icmp .eq 13, 3) := by decide +kernel
theorem dX6_colours_64 : decode cX6_colours 64 = .ok (.aload_n 0, 1) := by decide +kernel
theorem dX6_colours_65 : decode cX6_colours 65 = .ok (.getfield 34, 3) := by decide +kernel
theorem dX6_colours_68 : decode cX6_colours 68 = .ok (.iload_n 3, 1) := by decide +kernel
theorem dX6_colours_69 : decode cX6_colours 69 = .ok (.iload 4, 2) := by decide +kernel
theorem dX6_colours_71 : decode cX6_colours 71 = .ok (.invokevirtual 119, 3) := by decide +kernel
theorem dX6_colours_74 : decode cX6_colours 74 = .ok (.iinc 4 1, 3) := by decide +kernel
theorem dX6_colours_77 : decode cX6_colours 77 = .ok (.goto (-25), 3) := by decide +kernel
theorem dX6_colours_80 : decode cX6_colours 80 = .ok (.iinc 3 1, 3) := by decide +kernel
theorem dX6_colours_83 : decode cX6_colours 83 = .ok (.goto (-39), 3) := by decide +kernel
theorem dX6_colours_86 : decode cX6_colours 86 = .ok (.aload_n 0, 1) := by decide +kernel
theorem dX6_colours_87 : decode cX6_colours 87 = .ok (.aload_n 0, 1) := by decide +kernel
theorem dX6_colours_88 : decode cX6_colours 88 = .ok (.iload_n 1, 1) := by decide +kernel
theorem dX6_colours_89 : decode cX6_colours 89 = .ok (.invokevirtual 91, 3) := by decide +kernel
theorem dX6_colours_92 : decode cX6_colours 92 = .ok (.aload_n 0, 1) := by decide +kernel
theorem dX6_colours_93 : decode cX6_colours 93 = .ok (.getfield 34, 3) := by decide +kernel
theorem dX6_colours_96 : decode cX6_colours 96 = .ok (.invokevirtual 352, 3) := by decide +kernel
theorem dX6_colours_99 : decode cX6_colours 99 = .ok (.ireturn, 1) := by decide +kernel
noncomputable def f_X6_colours_b18  (σ : Hp) : Option (Int32 × Hp) := some ((-1), σ)
set_option maxRecDepth 100000 in
set_option maxHeartbeats 4000000 in
theorem t_X6_colours_b18 {l : Launch} {γ : Gm} {ad : Nat → Nat} {K : Option Value → Hp → Prop} (hc : Cx l γ 36 5 ad shC RX6 cX6_colours (some .int) K)  {σ : Hp} (h : wpO (f_X6_colours_b18  σ) (KI K)) : WW l γ 36 5 ad shC 18 [] [] σ := by
  unfold f_X6_colours_b18 at h
  refine r_iconst hc (v := (-1)) (by decide) dX6_colours_18 ?_
  have h := wp_v h
  exact r_iret hc h dX6_colours_19
noncomputable def f_X6_colours_b74 (x0 : Nat) (x1 : Int32) (x2 : Int32) (x3 : Int32) (x4 : Int32) (σ : Hp) : Option (((Int32) ⊕ (Unit)) × Hp) := some (Sum.inl (x4 + 1), σ)
set_option maxRecDepth 100000 in
set_option maxHeartbeats 4000000 in
theorem t_X6_colours_b74 {l : Launch} {γ : Gm} {ad : Nat → Nat} {K : Option Value → Hp → Prop} (hc : Cx l γ 36 5 ad shC RX6 cX6_colours (some .int) K) {x0 : Nat} {x1 : Int32} {x2 : Int32} {x3 : Int32} {x4 : Int32}  {σ : Hp} {KL : ((Int32) ⊕ (Unit)) → Hp → Prop} (h : wpO (f_X6_colours_b74 x0 x1 x2 x3 x4 σ) KL) (kn : ∀ (v : (Int32)) (σ : Hp), KL (Sum.inl v) σ → WW l γ 36 5 ad shC 52 [(0, .ref (ad x0)), (1, .int x1), (2, .int x2), (3, .int x3), (4, .int v)] [] σ) (kx80 : ∀ (v : Unit) (σ : Hp), KL (Sum.inr v) σ → WW l γ 36 5 ad shC 80 [(0, .ref (ad x0)), (1, .int x1), (2, .int x2), (3, .int x3)] [] σ) : WW l γ 36 5 ad shC 74 [(0, .ref (ad x0)), (1, .int x1), (2, .int x2), (3, .int x3), (4, .int x4)] [] σ := by
  unfold f_X6_colours_b74 at h
  refine r_iincE hc (j := 4) (w := 1) (lv' := [(4, .int (x4 + 1)), (0, .ref (ad x0)), (1, .int x1), (2, .int x2), (3, .int x3)]) rfl (by decide) rfl (by decide) rfl dX6_colours_74 ?_
  refine r_goto hc (tgt := 52) dX6_colours_77 (by decide) ?_
  refine r_sub [1, 2, 3, 4, 0] (lv' := [(0, .ref (ad x0)), (1, .int x1), (2, .int x2), (3, .int x3), (4, .int (x4 + 1))]) rfl ?_
  have h := wp_v h
  exact kn (x4 + 1) _ h
noncomputable def f_X6_colours_L52 (x0 : Nat) (x1 : Int32) (x2 : Int32) (x3 : Int32) (v : (Int32)) (σ : Hp) : Option (((Int32) ⊕ (Unit)) × Hp) := if x2 ≤ v then (some (Sum.inr (), σ)) else (if x3 = v then (f_X6_colours_b74 x0 x1 x2 x3 v σ) else (gO (getR shC 6 x0 6 σ) fun v1 => gO (chk shC v1 1) fun _ => bO (f_X1_join v1 x3 v σ) fun _ σ3 => f_X6_colours_b74 x0 x1 x2 x3 v σ3))
set_option maxRecDepth 100000 in
set_option maxHeartbeats 4000000 in
theorem t_X6_colours_L52 {l : Launch} {γ : Gm} {ad : Nat → Nat} {K : Option Value → Hp → Prop}  (hc : Cx l γ 36 5 ad shC RX6 cX6_colours (some .int) K) {x0 : Nat} {x1 : Int32} {x2 : Int32} {x3 : Int32} {v : (Int32)} {σ : Hp} {KX : (Unit) → Hp → Prop} (h : wpO (wh (f_X6_colours_L52 x0 x1 x2 x3) v σ) KX) (kx80 : ∀ (v : Unit) (σ : Hp), KX v σ → WW l γ 36 5 ad shC 80 [(0, .ref (ad x0)), (1, .int x1), (2, .int x2), (3, .int x3)] [] σ) : WW l γ 36 5 ad shC 52 [(0, .ref (ad x0)), (1, .int x1), (2, .int x2), (3, .int x3), (4, .int v)] [] σ := by
  refine wh_W (P := fun v σ => WW l γ 36 5 ad shC 52 [(0, .ref (ad x0)), (1, .int x1), (2, .int x2), (3, .int x3), (4, .int v)] [] σ) (fun v σ h => ?_) h
  have kn : ∀ (v : (Int32)) (σ : Hp), WW l γ 36 5 ad shC 52 [(0, .ref (ad x0)), (1, .int x1), (2, .int x2), (3, .int x3), (4, .int v)] [] σ → WW l γ 36 5 ad shC 52 [(0, .ref (ad x0)), (1, .int x1), (2, .int x2), (3, .int x3), (4, .int v)] [] σ := fun _ _ h => h
  · unfold f_X6_colours_L52 at h
    refine r_iload hc 4 rfl dX6_colours_52 ?_
    refine r_iload_n hc 2 rfl rfl dX6_colours_54 ?_
    refine r_icmp_ge hc (tgt := 80) dX6_colours_55 (by decide) (fun c => ?_) (fun c => ?_)
    · have h := wp_t c h
      refine r_sub [0, 1, 2, 3] (lv' := [(0, .ref (ad x0)), (1, .int x1), (2, .int x2), (3, .int x3)]) rfl ?_
      have h := wp_v h
      exact kx80 () _ h
    · have h := wp_f c h
      refine r_iload_n hc 3 rfl rfl dX6_colours_58 ?_
      refine r_iload hc 4 rfl dX6_colours_59 ?_
      refine r_icmp_eq hc (tgt := 74) dX6_colours_61 (by decide) (fun c => ?_) (fun c => ?_)
      · have h := wp_t c h
        exact t_X6_colours_b74 hc h kn kx80
      · have h := wp_f c h
        refine r_aload_n hc 0 rfl rfl dX6_colours_64 ?_
        obtain ⟨v1, ev1, h⟩ := wp_g h
        refine r_getR hc ev1 fl_X6_34 rfl dX6_colours_65 ?_
        refine r_iload_n hc 3 rfl rfl dX6_colours_68 ?_
        refine r_iload hc 4 rfl dX6_colours_69 ?_
        obtain ⟨_, ek4, h⟩ := wp_g h
        obtain ⟨_, σ3, er2, h⟩ := wp_b h
        refine r_callV hc (k0 := v1) mv_X1_join ml_X6_119 (c_X1_join er2) (chk_of ek4) cls_1.1 rfl rfl rfl (by decide) rfl (Nat.le_of_ble_eq_true rfl) dX6_colours_71 ?_
        exact t_X6_colours_b74 hc h kn kx80
noncomputable def f_X6_colours_L44 (x0 : Nat) (x1 : Int32) (x2 : Int32) (v : (Int32)) (σ : Hp) : Option (((Int32) ⊕ (Unit)) × Hp) := if x2 ≤ v then (some (Sum.inr (), σ)) else (bO (wh (f_X6_colours_L52 x0 x1 x2 v) 0 σ) fun y1 σ2 => (some (Sum.inl (v + 1), σ2)))
set_option maxRecDepth 100000 in
set_option maxHeartbeats 4000000 in
theorem t_X6_colours_L44 {l : Launch} {γ : Gm} {ad : Nat → Nat} {K : Option Value → Hp → Prop}  (hc : Cx l γ 36 5 ad shC RX6 cX6_colours (some .int) K) {x0 : Nat} {x1 : Int32} {x2 : Int32} {v : (Int32)} {σ : Hp} {KX : (Unit) → Hp → Prop} (h : wpO (wh (f_X6_colours_L44 x0 x1 x2) v σ) KX) (kx86 : ∀ (v : Unit) (σ : Hp), KX v σ → WW l γ 36 5 ad shC 86 [(0, .ref (ad x0)), (1, .int x1)] [] σ) : WW l γ 36 5 ad shC 44 [(0, .ref (ad x0)), (1, .int x1), (2, .int x2), (3, .int v)] [] σ := by
  refine wh_W (P := fun v σ => WW l γ 36 5 ad shC 44 [(0, .ref (ad x0)), (1, .int x1), (2, .int x2), (3, .int v)] [] σ) (fun v σ h => ?_) h
  have kn : ∀ (v : (Int32)) (σ : Hp), WW l γ 36 5 ad shC 44 [(0, .ref (ad x0)), (1, .int x1), (2, .int x2), (3, .int v)] [] σ → WW l γ 36 5 ad shC 44 [(0, .ref (ad x0)), (1, .int x1), (2, .int x2), (3, .int v)] [] σ := fun _ _ h => h
  · unfold f_X6_colours_L44 at h
    refine r_iload_n hc 3 rfl rfl dX6_colours_44 ?_
    refine r_iload_n hc 2 rfl rfl dX6_colours_45 ?_
    refine r_icmp_ge hc (tgt := 86) dX6_colours_46 (by decide) (fun c => ?_) (fun c => ?_)
    · have h := wp_t c h
      refine r_sub [0, 1] (lv' := [(0, .ref (ad x0)), (1, .int x1)]) rfl ?_
      have h := wp_v h
      exact kx86 () _ h
    · have h := wp_f c h
      refine r_iconst hc (v := 0) (by decide) dX6_colours_49 ?_
      refine r_istoreE hc (i := 4) (lv' := [(4, .int 0), (0, .ref (ad x0)), (1, .int x1), (2, .int x2), (3, .int v)]) rfl (by decide) rfl dX6_colours_50 ?_
      refine r_sub [1, 2, 3, 4, 0] (lv' := [(0, .ref (ad x0)), (1, .int x1), (2, .int x2), (3, .int v), (4, .int 0)]) rfl ?_
      refine t_X6_colours_L52 hc (wp_bb h) ?_
      · intro y1 σ2 h
        refine r_iincE hc (j := 3) (w := 1) (lv' := [(3, .int (v + 1)), (0, .ref (ad x0)), (1, .int x1), (2, .int x2)]) rfl (by decide) rfl (by decide) rfl dX6_colours_80 ?_
        refine r_goto hc (tgt := 44) dX6_colours_83 (by decide) ?_
        refine r_sub [1, 2, 3, 0] (lv' := [(0, .ref (ad x0)), (1, .int x1), (2, .int x2), (3, .int (v + 1))]) rfl ?_
        have h := wp_v h
        exact kn (v + 1) _ h
noncomputable def f_X6_colours (x0 : Nat) (x1 : Int32) (x2 : Int32) (σ : Hp) : Option (Int32 × Hp) := bO (f_X6_noDrawer x1 σ) fun r1 σ2 => if r1 = 0 then (if x2 < 1 then (f_X6_colours_b18  σ2) else (if x2 ≤ 7 then (gO (chk shC x0 6) fun _ => bO (f_X6_in x0 x1 σ2) fun r3 σ4 => gO (chk shC r3 1) fun _ => bO (f_X1_isEmpty r3 σ4) fun r6 σ7 => if r6 = 0 then (gO (getR shC 6 x0 6 σ7) fun v9 => gO (chk shC v9 1) fun _ => bO (f_X1_begin v9 x2 σ7) fun _ σ11 => bO (wh (f_X6_colours_L44 x0 x1 x2) 0 σ11) fun y13 σ14 => (gO (chk shC x0 6) fun _ => bO (f_X6_in x0 x1 σ14) fun r15 σ16 => gO (getR shC 6 x0 6 σ16) fun v18 => gO (chk shC x0 6) fun _ => bO (f_X6_mapsInto x0 r15 v18 σ16) fun r19 σ20 => some (r19, σ20))) else (some ((-2), σ7))) else (f_X6_colours_b18  σ2))) else (f_X6_colours_b18  σ2)
set_option maxRecDepth 100000 in
set_option maxHeartbeats 4000000 in
theorem t_X6_colours {l : Launch} {γ : Gm} {ad : Nat → Nat} {K : Option Value → Hp → Prop} (hc : Cx l γ 36 5 ad shC RX6 cX6_colours (some .int) K) {x0 : Nat} {x1 : Int32} {x2 : Int32} {σ : Hp} (h : wpO (f_X6_colours x0 x1 x2 σ) (KI K)) : WW l γ 36 5 ad shC 0 [(0, .ref (ad x0)), (1, .int x1), (2, .int x2)] [] σ := by
  unfold f_X6_colours at h
  refine r_iload_n hc 1 rfl rfl dX6_colours_0 ?_
  obtain ⟨r1, σ2, er1, h⟩ := wp_b h
  refine r_callS hc ms_X6_noDrawer ml_X6_76 (c_X6_noDrawer er1) rfl rfl (by decide) rfl (Nat.le_of_ble_eq_true rfl) dX6_colours_1 ?_
  refine r_if_ne hc (tgt := 18) dX6_colours_4 (by decide) (fun c => ?_) (fun c => ?_)
  · have h := wp_f c h
    refine r_sub [] (lv' := []) rfl ?_
    exact t_X6_colours_b18 hc h
  · have h := wp_t c h
    refine r_iload_n hc 2 rfl rfl dX6_colours_7 ?_
    refine r_iconst hc (v := 1) (by decide) dX6_colours_8 ?_
    refine r_icmp_lt hc (tgt := 18) dX6_colours_9 (by decide) (fun c => ?_) (fun c => ?_)
    · have h := wp_t c h
      refine r_sub [] (lv' := []) rfl ?_
      exact t_X6_colours_b18 hc h
    · have h := wp_f c h
      refine r_iload_n hc 2 rfl rfl dX6_colours_12 ?_
      refine r_bipush hc (v := 7) (by decide) dX6_colours_13 ?_
      refine r_icmp_le hc (tgt := 20) dX6_colours_15 (by decide) (fun c => ?_) (fun c => ?_)
      · have h := wp_t c h
        refine r_aload_n hc 0 rfl rfl dX6_colours_20 ?_
        refine r_iload_n hc 1 rfl rfl dX6_colours_21 ?_
        obtain ⟨_, ek5, h⟩ := wp_g h
        obtain ⟨r3, σ4, er3, h⟩ := wp_b h
        refine r_callV hc (k0 := x0) mv_X6_in ml_X6_91 (c_X6_in er3) (chk_of ek5) cls_6.1 rfl rfl rfl (by decide) rfl (Nat.le_of_ble_eq_true rfl) dX6_colours_22 ?_
        obtain ⟨_, ek8, h⟩ := wp_g h
        obtain ⟨r6, σ7, er6, h⟩ := wp_b h
        refine r_callV hc (k0 := r3) mv_X1_isEmpty ml_X6_109 (c_X1_isEmpty er6) (chk_of ek8) cls_1.1 rfl rfl rfl (by decide) rfl (Nat.le_of_ble_eq_true rfl) dX6_colours_25 ?_
        refine r_if_eq hc (tgt := 34) dX6_colours_28 (by decide) (fun c => ?_) (fun c => ?_)
        · have h := wp_t c h
          refine r_aload_n hc 0 rfl rfl dX6_colours_34 ?_
          obtain ⟨v9, ev9, h⟩ := wp_g h
          refine r_getR hc ev9 fl_X6_34 rfl dX6_colours_35 ?_
          refine r_iload_n hc 2 rfl rfl dX6_colours_38 ?_
          obtain ⟨_, ek12, h⟩ := wp_g h
          obtain ⟨_, σ11, er10, h⟩ := wp_b h
          refine r_callV hc (k0 := v9) mv_X1_begin ml_X6_106 (c_X1_begin er10) (chk_of ek12) cls_1.1 rfl rfl rfl (by decide) rfl (Nat.le_of_ble_eq_true rfl) dX6_colours_39 ?_
          refine r_iconst hc (v := 0) (by decide) dX6_colours_42 ?_
          refine r_istore_nE hc (i := 3) (lv' := [(3, .int 0), (0, .ref (ad x0)), (1, .int x1), (2, .int x2)]) rfl rfl (by decide) rfl dX6_colours_43 ?_
          refine r_sub [1, 2, 3, 0] (lv' := [(0, .ref (ad x0)), (1, .int x1), (2, .int x2), (3, .int 0)]) rfl ?_
          refine t_X6_colours_L44 hc (wp_bb h) ?_
          · intro y13 σ14 h
            refine r_aload_n hc 0 rfl rfl dX6_colours_86 ?_
            refine r_aload_n hc 0 rfl rfl dX6_colours_87 ?_
            refine r_iload_n hc 1 rfl rfl dX6_colours_88 ?_
            obtain ⟨_, ek17, h⟩ := wp_g h
            obtain ⟨r15, σ16, er15, h⟩ := wp_b h
            refine r_callV hc (k0 := x0) mv_X6_in ml_X6_91 (c_X6_in er15) (chk_of ek17) cls_6.1 rfl rfl rfl (by decide) rfl (Nat.le_of_ble_eq_true rfl) dX6_colours_89 ?_
            refine r_aload_n hc 0 rfl rfl dX6_colours_92 ?_
            obtain ⟨v18, ev18, h⟩ := wp_g h
            refine r_getR hc ev18 fl_X6_34 rfl dX6_colours_93 ?_
            obtain ⟨_, ek21, h⟩ := wp_g h
            obtain ⟨r19, σ20, er19, h⟩ := wp_b h
            refine r_callV hc (k0 := x0) mv_X6_mapsInto ml_X6_352 (c_X6_mapsInto er19) (chk_of ek21) cls_6.1 rfl rfl rfl (by decide) rfl (Nat.le_of_ble_eq_true rfl) dX6_colours_96 ?_
            have h := wp_v h
            exact r_iret hc h dX6_colours_99
        · have h := wp_f c h
          refine r_bipush hc (v := (-2)) (by decide) dX6_colours_31 ?_
          have h := wp_v h
          exact r_iret hc h dX6_colours_33
      · have h := wp_f c h
        refine r_sub [] (lv' := []) rfl ?_
        exact t_X6_colours_b18 hc h
theorem c_X6_colours {l : Launch} {x0 : Nat} {x1 : Int32} {x2 : Int32} {σ σ' : Hp} {r : Int32} (h : f_X6_colours x0 x1 x2 σ = some (r, σ')) : Mt l yX6_colours cX6_colours 5 (some .int) 36 shC (fun ad => [.ref (ad x0), .int x1, .int x2]) σ (fun ad => some (.int r)) σ' := mt_i (own := RX6) (by decide) rfl (fun _ => Nat.le_of_ble_eq_true rfl) (fun γ ad K hc hk => t_X6_colours hc ⟨_, _, h, hk⟩)

-- NetMaps.levels(I)I
theorem dX6_levels_0 : decode cX6_levels 0 = .ok (.iload_n 1, 1) := by decide +kernel
theorem dX6_levels_1 : decode cX6_levels 1 = .ok (.invokestatic 76, 3) := by decide +kernel
theorem dX6_levels_4 : decode cX6_levels 4 = .ok (.ifCond .eq 5, 3) := by decide +kernel
theorem dX6_levels_7 : decode cX6_levels 7 = .ok (.iconst (-1), 1) := by decide +kernel
theorem dX6_levels_8 : decode cX6_levels 8 = .ok (.ireturn, 1) := by decide +kernel
theorem dX6_levels_9 : decode cX6_levels 9 = .ok (.aload_n 0, 1) := by decide +kernel
theorem dX6_levels_10 : decode cX6_levels 10 = .ok (.iload_n 1, 1) := by decide +kernel
theorem dX6_levels_11 : decode cX6_levels 11 = .ok (.invokevirtual 91, 3) := by decide +kernel
theorem dX6_levels_14 : decode cX6_levels 14 = .ok (.invokevirtual 109, 3) := by decide +kernel
theorem dX6_levels_17 : decode cX6_levels 17 = .ok (.ifCond .eq 6, 3) := by decide +kernel
theorem dX6_levels_20 : decode cX6_levels 20 = .ok (.bipush (-2), 2) := by decide +kernel
theorem dX6_levels_22 : decode cX6_levels 22 = .ok (.ireturn, 1) := by decide +kernel
theorem dX6_levels_23 : decode cX6_levels 23 = .ok (.iconst 0, 1) := by decide +kernel
theorem dX6_levels_24 : decode cX6_levels 24 = .ok (.istore_n 2, 1) := by decide +kernel
theorem dX6_levels_25 : decode cX6_levels 25 = .ok (.iload_n 2, 1) := by decide +kernel
theorem dX6_levels_26 : decode cX6_levels 26 = .ok (.bipush 7, 2) := by decide +kernel
theorem dX6_levels_28 : decode cX6_levels 28 = .ok (.if_icmp .ge 61, 3) := by decide +kernel
theorem dX6_levels_31 : decode cX6_levels 31 = .ok (.aload_n 0, 1) := by decide +kernel
theorem dX6_levels_32 : decode cX6_levels 32 = .ok (.getfield 34, 3) := by decide +kernel
theorem dX6_levels_35 : decode cX6_levels 35 = .ok (.iload_n 2, 1) := by decide +kernel
theorem dX6_levels_36 : decode cX6_levels 36 = .ok (.iconst 1, 1) := by decide +kernel
theorem dX6_levels_37 : decode cX6_levels 37 = .ok (.iadd, 1) := by decide +kernel
theorem dX6_levels_38 : decode cX6_levels 38 = .ok (.invokevirtual 106, 3) := by decide +kernel
theorem dX6_levels_41 : decode cX6_levels 41 = .ok (.iconst 0, 1) := by decide +kernel
theorem dX6_levels_42 : decode cX6_levels 42 = .ok (.istore_n 3, 1) := by decide +kernel
theorem dX6_levels_43 : decode cX6_levels 43 = .ok (.iload_n 3, 1) := by decide +kernel
theorem dX6_levels_44 : decode cX6_levels 44 = .ok (.iload_n 2, 1) := by decide +kernel
theorem dX6_levels_45 : decode cX6_levels 45 = .ok (.if_icmp .ge 20, 3) := by decide +kernel
theorem dX6_levels_48 : decode cX6_levels 48 = .ok (.aload_n 0, 1) := by decide +kernel
theorem dX6_levels_49 : decode cX6_levels 49 = .ok (.getfield 34, 3) := by decide +kernel
theorem dX6_levels_52 : decode cX6_levels 52 = .ok (.iload_n 3, 1) := by decide +kernel
theorem dX6_levels_53 : decode cX6_levels 53 = .ok (.iload_n 3, 1) := by decide +kernel
theorem dX6_levels_54 : decode cX6_levels 54 = .ok (.iconst 1, 1) := by decide +kernel
theorem dX6_levels_55 : decode cX6_levels 55 = .ok (.iadd, 1) := by decide +kernel
theorem dX6_levels_56 : decode cX6_levels 56 = .ok (.invokevirtual 119, 3) := by decide +kernel
theorem dX6_levels_59 : decode cX6_levels 59 = .ok (.iinc 3 1, 3) := by decide +kernel
theorem dX6_levels_62 : decode cX6_levels 62 = .ok (.goto (-19), 3) := by decide +kernel
theorem dX6_levels_65 : decode cX6_levels 65 = .ok (.aload_n 0, 1) := by decide +kernel
theorem dX6_levels_66 : decode cX6_levels 66 = .ok (.aload_n 0, 1) := by decide +kernel
theorem dX6_levels_67 : decode cX6_levels 67 = .ok (.iload_n 1, 1) := by decide +kernel
theorem dX6_levels_68 : decode cX6_levels 68 = .ok (.invokevirtual 91, 3) := by decide +kernel
theorem dX6_levels_71 : decode cX6_levels 71 = .ok (.aload_n 0, 1) := by decide +kernel
theorem dX6_levels_72 : decode cX6_levels 72 = .ok (.getfield 34, 3) := by decide +kernel
theorem dX6_levels_75 : decode cX6_levels 75 = .ok (.invokevirtual 245, 3) := by decide +kernel
theorem dX6_levels_78 : decode cX6_levels 78 = .ok (.ifCond .eq 5, 3) := by decide +kernel
theorem dX6_levels_81 : decode cX6_levels 81 = .ok (.iload_n 2, 1) := by decide +kernel
theorem dX6_levels_82 : decode cX6_levels 82 = .ok (.ireturn, 1) := by decide +kernel
theorem dX6_levels_83 : decode cX6_levels 83 = .ok (.iinc 2 1, 3) := by decide +kernel
theorem dX6_levels_86 : decode cX6_levels 86 = .ok (.goto (-61), 3) := by decide +kernel
theorem dX6_levels_89 : decode cX6_levels 89 = .ok (.bipush (-4), 2) := by decide +kernel
theorem dX6_levels_91 : decode cX6_levels 91 = .ok (.ireturn, 1) := by decide +kernel
noncomputable def f_X6_levels_L43 (x0 : Nat) (x1 : Int32) (x2 : Int32) (v : (Int32)) (σ : Hp) : Option (((Int32) ⊕ (Unit)) × Hp) := if x2 ≤ v then (some (Sum.inr (), σ)) else (gO (getR shC 6 x0 6 σ) fun v1 => gO (chk shC v1 1) fun _ => bO (f_X1_join v1 v (v + 1) σ) fun _ σ3 => some (Sum.inl (v + 1), σ3))
set_option maxRecDepth 100000 in
set_option maxHeartbeats 4000000 in
theorem t_X6_levels_L43 {l : Launch} {γ : Gm} {ad : Nat → Nat} {K : Option Value → Hp → Prop}  (hc : Cx l γ 36 4 ad shC RX6 cX6_levels (some .int) K) {x0 : Nat} {x1 : Int32} {x2 : Int32} {v : (Int32)} {σ : Hp} {KX : (Unit) → Hp → Prop} (h : wpO (wh (f_X6_levels_L43 x0 x1 x2) v σ) KX) (kx65 : ∀ (v : Unit) (σ : Hp), KX v σ → WW l γ 36 4 ad shC 65 [(0, .ref (ad x0)), (1, .int x1), (2, .int x2)] [] σ) : WW l γ 36 4 ad shC 43 [(0, .ref (ad x0)), (1, .int x1), (2, .int x2), (3, .int v)] [] σ := by
  refine wh_W (P := fun v σ => WW l γ 36 4 ad shC 43 [(0, .ref (ad x0)), (1, .int x1), (2, .int x2), (3, .int v)] [] σ) (fun v σ h => ?_) h
  have kn : ∀ (v : (Int32)) (σ : Hp), WW l γ 36 4 ad shC 43 [(0, .ref (ad x0)), (1, .int x1), (2, .int x2), (3, .int v)] [] σ → WW l γ 36 4 ad shC 43 [(0, .ref (ad x0)), (1, .int x1), (2, .int x2), (3, .int v)] [] σ := fun _ _ h => h
  · unfold f_X6_levels_L43 at h
    refine r_iload_n hc 3 rfl rfl dX6_levels_43 ?_
    refine r_iload_n hc 2 rfl rfl dX6_levels_44 ?_
    refine r_icmp_ge hc (tgt := 65) dX6_levels_45 (by decide) (fun c => ?_) (fun c => ?_)
    · have h := wp_t c h
      refine r_sub [0, 1, 2] (lv' := [(0, .ref (ad x0)), (1, .int x1), (2, .int x2)]) rfl ?_
      have h := wp_v h
      exact kx65 () _ h
    · have h := wp_f c h
      refine r_aload_n hc 0 rfl rfl dX6_levels_48 ?_
      obtain ⟨v1, ev1, h⟩ := wp_g h
      refine r_getR hc ev1 fl_X6_34 rfl dX6_levels_49 ?_
      refine r_iload_n hc 3 rfl rfl dX6_levels_52 ?_
      refine r_iload_n hc 3 rfl rfl dX6_levels_53 ?_
      refine r_iconst hc (v := 1) (by decide) dX6_levels_54 ?_
      refine r_iadd hc dX6_levels_55 ?_
      obtain ⟨_, ek4, h⟩ := wp_g h
      obtain ⟨_, σ3, er2, h⟩ := wp_b h
      refine r_callV hc (k0 := v1) mv_X1_join ml_X6_119 (c_X1_join er2) (chk_of ek4) cls_1.1 rfl rfl rfl (by decide) rfl (Nat.le_of_ble_eq_true rfl) dX6_levels_56 ?_
      refine r_iincE hc (j := 3) (w := 1) (lv' := [(3, .int (v + 1)), (0, .ref (ad x0)), (1, .int x1), (2, .int x2)]) rfl (by decide) rfl (by decide) rfl dX6_levels_59 ?_
      refine r_goto hc (tgt := 43) dX6_levels_62 (by decide) ?_
      refine r_sub [1, 2, 3, 0] (lv' := [(0, .ref (ad x0)), (1, .int x1), (2, .int x2), (3, .int (v + 1))]) rfl ?_
      have h := wp_v h
      exact kn (v + 1) _ h
noncomputable def f_X6_levels_L25 (x0 : Nat) (x1 : Int32) (v : (Int32)) (σ : Hp) : Option (((Int32) ⊕ ((Int32) ⊕ (Unit))) × Hp) := if 7 ≤ v then (some (Sum.inr (Sum.inr ()), σ)) else (gO (getR shC 6 x0 6 σ) fun v1 => gO (chk shC v1 1) fun _ => bO (f_X1_begin v1 (v + 1) σ) fun _ σ3 => bO (wh (f_X6_levels_L43 x0 x1 v) 0 σ3) fun y5 σ6 => (gO (chk shC x0 6) fun _ => bO (f_X6_in x0 x1 σ6) fun r7 σ8 => gO (getR shC 6 x0 6 σ8) fun v10 => gO (chk shC x0 6) fun _ => bO (f_X6_fitsInto x0 r7 v10 σ8) fun r11 σ12 => if r11 = 0 then (some (Sum.inl (v + 1), σ12)) else (some (Sum.inr (Sum.inl v), σ12))))
set_option maxRecDepth 100000 in
set_option maxHeartbeats 4000000 in
theorem t_X6_levels_L25 {l : Launch} {γ : Gm} {ad : Nat → Nat} {K : Option Value → Hp → Prop}  (hc : Cx l γ 36 4 ad shC RX6 cX6_levels (some .int) K) {x0 : Nat} {x1 : Int32} {v : (Int32)} {σ : Hp} {KX : ((Int32) ⊕ (Unit)) → Hp → Prop} (h : wpO (wh (f_X6_levels_L25 x0 x1) v σ) KX) (kx81 : ∀ (v : Int32) (σ : Hp), KX (Sum.inl v) σ → WW l γ 36 4 ad shC 81 [(2, .int v)] [] σ) (kx89 : ∀ (v : Unit) (σ : Hp), KX (Sum.inr v) σ → WW l γ 36 4 ad shC 89 [] [] σ) : WW l γ 36 4 ad shC 25 [(0, .ref (ad x0)), (1, .int x1), (2, .int v)] [] σ := by
  refine wh_W (P := fun v σ => WW l γ 36 4 ad shC 25 [(0, .ref (ad x0)), (1, .int x1), (2, .int v)] [] σ) (fun v σ h => ?_) h
  have kn : ∀ (v : (Int32)) (σ : Hp), WW l γ 36 4 ad shC 25 [(0, .ref (ad x0)), (1, .int x1), (2, .int v)] [] σ → WW l γ 36 4 ad shC 25 [(0, .ref (ad x0)), (1, .int x1), (2, .int v)] [] σ := fun _ _ h => h
  · unfold f_X6_levels_L25 at h
    refine r_iload_n hc 2 rfl rfl dX6_levels_25 ?_
    refine r_bipush hc (v := 7) (by decide) dX6_levels_26 ?_
    refine r_icmp_ge hc (tgt := 89) dX6_levels_28 (by decide) (fun c => ?_) (fun c => ?_)
    · have h := wp_t c h
      refine r_sub [] (lv' := []) rfl ?_
      have h := wp_v h
      exact kx89 () _ h
    · have h := wp_f c h
      refine r_aload_n hc 0 rfl rfl dX6_levels_31 ?_
      obtain ⟨v1, ev1, h⟩ := wp_g h
      refine r_getR hc ev1 fl_X6_34 rfl dX6_levels_32 ?_
      refine r_iload_n hc 2 rfl rfl dX6_levels_35 ?_
      refine r_iconst hc (v := 1) (by decide) dX6_levels_36 ?_
      refine r_iadd hc dX6_levels_37 ?_
      obtain ⟨_, ek4, h⟩ := wp_g h
      obtain ⟨_, σ3, er2, h⟩ := wp_b h
      refine r_callV hc (k0 := v1) mv_X1_begin ml_X6_106 (c_X1_begin er2) (chk_of ek4) cls_1.1 rfl rfl rfl (by decide) rfl (Nat.le_of_ble_eq_true rfl) dX6_levels_38 ?_
      refine r_iconst hc (v := 0) (by decide) dX6_levels_41 ?_
      refine r_istore_nE hc (i := 3) (lv' := [(3, .int 0), (0, .ref (ad x0)), (1, .int x1), (2, .int v)]) rfl rfl (by decide) rfl dX6_levels_42 ?_
      refine r_sub [1, 2, 3, 0] (lv' := [(0, .ref (ad x0)), (1, .int x1), (2, .int v), (3, .int 0)]) rfl ?_
      refine t_X6_levels_L43 hc (wp_bb h) ?_
      · intro y5 σ6 h
        refine r_aload_n hc 0 rfl rfl dX6_levels_65 ?_
        refine r_aload_n hc 0 rfl rfl dX6_levels_66 ?_
        refine r_iload_n hc 1 rfl rfl dX6_levels_67 ?_
        obtain ⟨_, ek9, h⟩ := wp_g h
        obtain ⟨r7, σ8, er7, h⟩ := wp_b h
        refine r_callV hc (k0 := x0) mv_X6_in ml_X6_91 (c_X6_in er7) (chk_of ek9) cls_6.1 rfl rfl rfl (by decide) rfl (Nat.le_of_ble_eq_true rfl) dX6_levels_68 ?_
        refine r_aload_n hc 0 rfl rfl dX6_levels_71 ?_
        obtain ⟨v10, ev10, h⟩ := wp_g h
        refine r_getR hc ev10 fl_X6_34 rfl dX6_levels_72 ?_
        obtain ⟨_, ek13, h⟩ := wp_g h
        obtain ⟨r11, σ12, er11, h⟩ := wp_b h
        refine r_callV hc (k0 := x0) mv_X6_fitsInto ml_X6_245 (c_X6_fitsInto er11) (chk_of ek13) cls_6.1 rfl rfl rfl (by decide) rfl (Nat.le_of_ble_eq_true rfl) dX6_levels_75 ?_
        refine r_if_eq hc (tgt := 83) dX6_levels_78 (by decide) (fun c => ?_) (fun c => ?_)
        · have h := wp_t c h
          refine r_iincE hc (j := 2) (w := 1) (lv' := [(2, .int (v + 1)), (0, .ref (ad x0)), (1, .int x1)]) rfl (by decide) rfl (by decide) rfl dX6_levels_83 ?_
          refine r_goto hc (tgt := 25) dX6_levels_86 (by decide) ?_
          refine r_sub [1, 2, 0] (lv' := [(0, .ref (ad x0)), (1, .int x1), (2, .int (v + 1))]) rfl ?_
          have h := wp_v h
          exact kn (v + 1) _ h
        · have h := wp_f c h
          refine r_sub [2] (lv' := [(2, .int v)]) rfl ?_
          have h := wp_v h
          exact kx81 v _ h
noncomputable def f_X6_levels (x0 : Nat) (x1 : Int32) (σ : Hp) : Option (Int32 × Hp) := bO (f_X6_noDrawer x1 σ) fun r1 σ2 => if r1 = 0 then (gO (chk shC x0 6) fun _ => bO (f_X6_in x0 x1 σ2) fun r3 σ4 => gO (chk shC r3 1) fun _ => bO (f_X1_isEmpty r3 σ4) fun r6 σ7 => if r6 = 0 then (bO (wh (f_X6_levels_L25 x0 x1) 0 σ7) fun y9 σ10 => (Sum.elim (fun y9' => (some (y9', σ10))) (fun y11 => (some ((-4), σ10))) y9)) else (some ((-2), σ7))) else (some ((-1), σ2))
set_option maxRecDepth 100000 in
set_option maxHeartbeats 4000000 in
theorem t_X6_levels {l : Launch} {γ : Gm} {ad : Nat → Nat} {K : Option Value → Hp → Prop} (hc : Cx l γ 36 4 ad shC RX6 cX6_levels (some .int) K) {x0 : Nat} {x1 : Int32} {σ : Hp} (h : wpO (f_X6_levels x0 x1 σ) (KI K)) : WW l γ 36 4 ad shC 0 [(0, .ref (ad x0)), (1, .int x1)] [] σ := by
  unfold f_X6_levels at h
  refine r_iload_n hc 1 rfl rfl dX6_levels_0 ?_
  obtain ⟨r1, σ2, er1, h⟩ := wp_b h
  refine r_callS hc ms_X6_noDrawer ml_X6_76 (c_X6_noDrawer er1) rfl rfl (by decide) rfl (Nat.le_of_ble_eq_true rfl) dX6_levels_1 ?_
  refine r_if_eq hc (tgt := 9) dX6_levels_4 (by decide) (fun c => ?_) (fun c => ?_)
  · have h := wp_t c h
    refine r_aload_n hc 0 rfl rfl dX6_levels_9 ?_
    refine r_iload_n hc 1 rfl rfl dX6_levels_10 ?_
    obtain ⟨_, ek5, h⟩ := wp_g h
    obtain ⟨r3, σ4, er3, h⟩ := wp_b h
    refine r_callV hc (k0 := x0) mv_X6_in ml_X6_91 (c_X6_in er3) (chk_of ek5) cls_6.1 rfl rfl rfl (by decide) rfl (Nat.le_of_ble_eq_true rfl) dX6_levels_11 ?_
    obtain ⟨_, ek8, h⟩ := wp_g h
    obtain ⟨r6, σ7, er6, h⟩ := wp_b h
    refine r_callV hc (k0 := r3) mv_X1_isEmpty ml_X6_109 (c_X1_isEmpty er6) (chk_of ek8) cls_1.1 rfl rfl rfl (by decide) rfl (Nat.le_of_ble_eq_true rfl) dX6_levels_14 ?_
    refine r_if_eq hc (tgt := 23) dX6_levels_17 (by decide) (fun c => ?_) (fun c => ?_)
    · have h := wp_t c h
      refine r_iconst hc (v := 0) (by decide) dX6_levels_23 ?_
      refine r_istore_nE hc (i := 2) (lv' := [(2, .int 0), (0, .ref (ad x0)), (1, .int x1)]) rfl rfl (by decide) rfl dX6_levels_24 ?_
      refine r_sub [1, 2, 0] (lv' := [(0, .ref (ad x0)), (1, .int x1), (2, .int 0)]) rfl ?_
      refine t_X6_levels_L25 hc (wp_bb h) ?_ ?_
      · intro y9' σ10 h
        have h := wp_sl h
        refine r_iload_n hc 0 rfl rfl dX6_levels_81 ?_
        have h := wp_v h
        exact r_iret hc h dX6_levels_82
      · intro y11 σ10 h
        have h := wp_sr h
        refine r_bipush hc (v := (-4)) (by decide) dX6_levels_89 ?_
        have h := wp_v h
        exact r_iret hc h dX6_levels_91
    · have h := wp_f c h
      refine r_bipush hc (v := (-2)) (by decide) dX6_levels_20 ?_
      have h := wp_v h
      exact r_iret hc h dX6_levels_22
  · have h := wp_f c h
    refine r_iconst hc (v := (-1)) (by decide) dX6_levels_7 ?_
    have h := wp_v h
    exact r_iret hc h dX6_levels_8
theorem c_X6_levels {l : Launch} {x0 : Nat} {x1 : Int32} {σ σ' : Hp} {r : Int32} (h : f_X6_levels x0 x1 σ = some (r, σ')) : Mt l yX6_levels cX6_levels 4 (some .int) 36 shC (fun ad => [.ref (ad x0), .int x1]) σ (fun ad => some (.int r)) σ' := mt_i (own := RX6) (by decide) rfl (fun _ => Nat.le_of_ble_eq_true rfl) (fun γ ad K hc hk => t_X6_levels hc ⟨_, _, h, hk⟩)

-- NetMaps.lowestFold(LNetMaps$Net;I)I
theorem dX6_lowestFold_0 : decode cX6_lowestFold 0 = .ok (.iconst 0, 1) := by decide +kernel
theorem dX6_lowestFold_1 : decode cX6_lowestFold 1 = .ok (.istore_n 2, 1) := by decide +kernel
theorem dX6_lowestFold_2 : decode cX6_lowestFold 2 = .ok (.iload_n 2, 1) := by decide +kernel
theorem dX6_lowestFold_3 : decode cX6_lowestFold 3 = .ok (.aload_n 0, 1) := by decide +kernel
theorem dX6_lowestFold_4 : decode cX6_lowestFold 4 = .ok (.getfield 126, 3) := by decide +kernel
theorem dX6_lowestFold_7 : decode cX6_lowestFold 7 = .ok (.if_icmp .ge 90, 3) := by decide +kernel
theorem dX6_lowestFold_10 : decode cX6_lowestFold 10 = .ok (.iconst 0, 1) := by decide +kernel
theorem dX6_lowestFold_11 : decode cX6_lowestFold 11 = .ok (.istore_n 3, 1) := by decide +kernel
theorem dX6_lowestFold_12 : decode cX6_lowestFold 12 = .ok (.iload_n 3, 1) := by decide +kernel
theorem dX6_lowestFold_13 : decode cX6_lowestFold 13 = .ok (.aload_n 0, 1) := by decide +kernel
theorem dX6_lowestFold_14 : decode cX6_lowestFold 14 = .ok (.getfield 126, 3) := by decide +kernel
theorem dX6_lowestFold_17 : decode cX6_lowestFold 17 = .ok (.if_icmp .ge 74, 3) := by decide +kernel
theorem dX6_lowestFold_20 : decode cX6_lowestFold 20 = .ok (.iload_n 2, 1) := by decide +kernel
theorem dX6_lowestFold_21 : decode cX6_lowestFold 21 = .ok (.iload_n 3, 1) := by decide +kernel
theorem dX6_lowestFold_22 : decode cX6_lowestFold 22 = .ok (.if_icmp .eq 63, 3) := by decide +kernel
theorem dX6_lowestFold_25 : decode cX6_lowestFold 25 = .ok (.iload_n 1, 1) := by decide +kernel
theorem dX6_lowestFold_26 : decode cX6_lowestFold 26 = .ok (.iload_n 2, 1) := by decide +kernel
theorem dX6_lowestFold_27 : decode cX6_lowestFold 27 = .ok (.invokestatic 203, 3) := by decide +kernel
theorem dX6_lowestFold_30 : decode cX6_lowestFold 30 = .ok (.ifCond .eq 55, 3) := by decide +kernel
theorem dX6_lowestFold_33 : decode cX6_lowestFold 33 = .ok (.iload_n 1, 1) := by decide +kernel
theorem dX6_lowestFold_34 : decode cX6_lowestFold 34 = .ok (.iload_n 3, 1) := by decide +kernel
theorem dX6_lowestFold_35 : decode cX6_lowestFold 35 = .ok (.invokestatic 203, 3) := by decide +kernel
theorem dX6_lowestFold_38 : decode cX6_lowestFold 38 = .ok (.ifCond .eq 47, 3) := by decide +kernel
theorem dX6_lowestFold_41 : decode cX6_lowestFold 41 = .ok (.aload_n 0, 1) := by decide +kernel
theorem dX6_lowestFold_42 : decode cX6_lowestFold 42 = .ok (.getfield 153, 3) := by decide +kernel
theorem dX6_lowestFold_45 : decode cX6_lowestFold 45 = .ok (.iload_n 2, 1) := by decide +kernel
theorem dX6_lowestFold_46 : decode cX6_lowestFold 46 = .ok (.iaload, 1) := by decide +kernel
theorem dX6_lowestFold_47 : decode cX6_lowestFold 47 = .ok (.iload_n 1, 1) := by decide +kernel
theorem dX6_lowestFold_48 : decode cX6_lowestFold 48 = .ok (.iand, 1) := by decide +kernel
theorem dX6_lowestFold_49 : decode cX6_lowestFold 49 = .ok (.aload_n 0, 1) := by decide +kernel
theorem dX6_lowestFold_50 : decode cX6_lowestFold 50 = .ok (.getfield 153, 3) := by decide +kernel
theorem dX6_lowestFold_53 : decode cX6_lowestFold 53 = .ok (.iload_n 3, 1) := by decide +kernel
theorem dX6_lowestFold_54 : decode cX6_lowestFold 54 = .ok (.iaload, 1) := by decide +kernel
theorem dX6_lowestFold_55 : decode cX6_lowestFold 55 = .ok (.iconst (-1), 1) := by decide +kernel
theorem dX6_lowestFold_56 : decode cX6_lowestFold 56 = .ok (.ixor, 1) := by decide +kernel
theorem dX6_lowestFold_57 : decode cX6_lowestFold 57 = .ok (.iand, 1) := by decide +kernel
theorem dX6_lowestFold_58 : decode cX6_lowestFold 58 = .ok (.ifCond .ne 27, 3) := by decide +kernel
theorem dX6_lowestFold_61 : decode cX6_lowestFold 61 = .ok (.aload_n 0, 1) := by decide +kernel
theorem dX6_lowestFold_62 : decode cX6_lowestFold 62 = .ok (.getfield 156, 3) := by decide +kernel
theorem dX6_lowestFold_65 : decode cX6_lowestFold 65 = .ok (.iload_n 2, 1) := by decide +kernel
theorem dX6_lowestFold_66 : decode cX6_lowestFold 66 = .ok (.iaload, 1) := by decide +kernel
theorem dX6_lowestFold_67 : decode cX6_lowestFold 67 = .ok (.iload_n 1, 1) := by decide +kernel
theorem dX6_lowestFold_68 : decode cX6_lowestFold 68 = .ok (.iand, 1) := by decide +kernel
theorem dX6_lowestFold_69 : decode cX6_lowestFold 69 = .ok (.aload_n 0, 1) := by decide +kernel
theorem dX6_lowestFold_70 : decode cX6_lowestFold 70 = .ok (.getfield 156, 3) := by decide +kernel
theorem dX6_lowestFold_73 : decode cX6_lowestFold 73 = .ok (.iload_n 3, 1) := by decide +kernel
theorem dX6_lowestFold_74 : decode cX6_lowestFold 74 = .ok (.iaload, 1) := by decide +kernel
theorem dX6_lowestFold_75 : decode cX6_lowestFold 75 = .ok (.iconst (-1), 1) := by decide +kernel
theorem dX6_lowestFold_76 : decode cX6_lowestFold 76 = .ok (.ixor, 1) := by decide +kernel
theorem dX6_lowestFold_77 : decode cX6_lowestFold 77 = .ok (.iand, 1) := by decide +kernel
theorem dX6_lowestFold_78 : decode cX6_lowestFold 78 = .ok (.ifCond .ne 7, 3) := by decide +kernel
theorem dX6_lowestFold_81 : decode cX6_lowestFold 81 = .ok (.iconst 1, 1) := by decide +kernel
theorem dX6_lowestFold_82 : decode cX6_lowestFold 82 = .ok (.iload_n 2, 1) := by decide +kernel
theorem dX6_lowestFold_83 : decode cX6_lowestFold 83 = .ok (.ishl, 1) := by decide +kernel
theorem dX6_lowestFold_84 : decode cX6_lowestFold 84 = .ok (.ireturn, 1) := by decide +kernel
theorem dX6_lowestFold_85 : decode cX6_lowestFold 85 = .ok (.iinc 3 1, 3) := by decide +kernel
theorem dX6_lowestFold_88 : decode cX6_lowestFold 88 = .ok (.goto (-76), 3) := by decide +kernel
theorem dX6_lowestFold_91 : decode cX6_lowestFold 91 = .ok (.iinc 2 1, 3) := by decide +kernel
theorem dX6_lowestFold_94 : decode cX6_lowestFold 94 = .ok (.goto (-92), 3) := by decide +kernel
theorem dX6_lowestFold_97 : decode cX6_lowestFold 97 = .ok (.iconst 0, 1) := by decide +kernel
theorem dX6_lowestFold_98 : decode cX6_lowestFold 98 = .ok (.ireturn, 1) := by decide +kernel
noncomputable def f_X6_lowestFold_b85 (x0 : Nat) (x1 : Int32) (x2 : Int32) (x3 : Int32) (σ : Hp) : Option (((Int32) ⊕ ((Unit) ⊕ (Unit))) × Hp) := some (Sum.inl (x3 + 1), σ)
set_option maxRecDepth 100000 in
set_option maxHeartbeats 4000000 in
theorem t_X6_lowestFold_b85 {l : Launch} {γ : Gm} {ad : Nat → Nat} {K : Option Value → Hp → Prop} (hc : Cx l γ 2 4 ad shC RX6 cX6_lowestFold (some .int) K) {x0 : Nat} {x1 : Int32} {x2 : Int32} {x3 : Int32}  {σ : Hp} {KL : ((Int32) ⊕ ((Unit) ⊕ (Unit))) → Hp → Prop} (h : wpO (f_X6_lowestFold_b85 x0 x1 x2 x3 σ) KL) (kn : ∀ (v : (Int32)) (σ : Hp), KL (Sum.inl v) σ → WW l γ 2 4 ad shC 12 [(0, .ref (ad x0)), (1, .int x1), (2, .int x2), (3, .int v)] [] σ) (kx81 : ∀ (v : Unit) (σ : Hp), KL (Sum.inr (Sum.inl v)) σ → WW l γ 2 4 ad shC 81 [(2, .int x2)] [] σ) (kx91 : ∀ (v : Unit) (σ : Hp), KL (Sum.inr (Sum.inr v)) σ → WW l γ 2 4 ad shC 91 [(0, .ref (ad x0)), (1, .int x1), (2, .int x2)] [] σ) : WW l γ 2 4 ad shC 85 [(0, .ref (ad x0)), (1, .int x1), (2, .int x2), (3, .int x3)] [] σ := by
  unfold f_X6_lowestFold_b85 at h
  refine r_iincE hc (j := 3) (w := 1) (lv' := [(3, .int (x3 + 1)), (0, .ref (ad x0)), (1, .int x1), (2, .int x2)]) rfl (by decide) rfl (by decide) rfl dX6_lowestFold_85 ?_
  refine r_goto hc (tgt := 12) dX6_lowestFold_88 (by decide) ?_
  refine r_sub [1, 2, 3, 0] (lv' := [(0, .ref (ad x0)), (1, .int x1), (2, .int x2), (3, .int (x3 + 1))]) rfl ?_
  have h := wp_v h
  exact kn (x3 + 1) _ h
noncomputable def f_X6_lowestFold_L12 (x0 : Nat) (x1 : Int32) (x2 : Int32) (v : (Int32)) (σ : Hp) : Option (((Int32) ⊕ ((Unit) ⊕ (Unit))) × Hp) := gO (getI shC 1 x0 0 σ) fun v1 => if v1 ≤ v then (some (Sum.inr (Sum.inr ()), σ)) else (if x2 = v then (f_X6_lowestFold_b85 x0 x1 x2 v σ) else (bO (f_X6_has x1 x2 σ) fun r2 σ3 => if r2 = 0 then (f_X6_lowestFold_b85 x0 x1 x2 v σ3) else (bO (f_X6_has x1 v σ3) fun r4 σ5 => if r4 = 0 then (f_X6_lowestFold_b85 x0 x1 x2 v σ5) else (gO (getR shC 1 x0 1 σ5) fun v6 => gO (aldI shC 0 v6 x2 σ5) fun v7 => gO (getR shC 1 x0 1 σ5) fun v8 => gO (aldI shC 0 v8 v σ5) fun v9 => if ((v7 &&& x1) &&& (v9 ^^^ (-1))) = 0 then (gO (getR shC 1 x0 2 σ5) fun v10 => gO (aldI shC 0 v10 x2 σ5) fun v11 => gO (getR shC 1 x0 2 σ5) fun v12 => gO (aldI shC 0 v12 v σ5) fun v13 => if ((v11 &&& x1) &&& (v13 ^^^ (-1))) = 0 then (some (Sum.inr (Sum.inl ()), σ5)) else (f_X6_lowestFold_b85 x0 x1 x2 v σ5)) else (f_X6_lowestFold_b85 x0 x1 x2 v σ5)))))
set_option maxRecDepth 100000 in
set_option maxHeartbeats 4000000 in
theorem t_X6_lowestFold_L12 {l : Launch} {γ : Gm} {ad : Nat → Nat} {K : Option Value → Hp → Prop}  (hc : Cx l γ 2 4 ad shC RX6 cX6_lowestFold (some .int) K) {x0 : Nat} {x1 : Int32} {x2 : Int32} {v : (Int32)} {σ : Hp} {KX : ((Unit) ⊕ (Unit)) → Hp → Prop} (h : wpO (wh (f_X6_lowestFold_L12 x0 x1 x2) v σ) KX) (kx81 : ∀ (v : Unit) (σ : Hp), KX (Sum.inl v) σ → WW l γ 2 4 ad shC 81 [(2, .int x2)] [] σ) (kx91 : ∀ (v : Unit) (σ : Hp), KX (Sum.inr v) σ → WW l γ 2 4 ad shC 91 [(0, .ref (ad x0)), (1, .int x1), (2, .int x2)] [] σ) : WW l γ 2 4 ad shC 12 [(0, .ref (ad x0)), (1, .int x1), (2, .int x2), (3, .int v)] [] σ := by
  refine wh_W (P := fun v σ => WW l γ 2 4 ad shC 12 [(0, .ref (ad x0)), (1, .int x1), (2, .int x2), (3, .int v)] [] σ) (fun v σ h => ?_) h
  have kn : ∀ (v : (Int32)) (σ : Hp), WW l γ 2 4 ad shC 12 [(0, .ref (ad x0)), (1, .int x1), (2, .int x2), (3, .int v)] [] σ → WW l γ 2 4 ad shC 12 [(0, .ref (ad x0)), (1, .int x1), (2, .int x2), (3, .int v)] [] σ := fun _ _ h => h
  · unfold f_X6_lowestFold_L12 at h
    refine r_iload_n hc 3 rfl rfl dX6_lowestFold_12 ?_
    refine r_aload_n hc 0 rfl rfl dX6_lowestFold_13 ?_
    obtain ⟨v1, ev1, h⟩ := wp_g h
    refine r_getI hc ev1 fl_X6_126 rfl dX6_lowestFold_14 ?_
    refine r_icmp_ge hc (tgt := 91) dX6_lowestFold_17 (by decide) (fun c => ?_) (fun c => ?_)
    · have h := wp_t c h
      refine r_sub [0, 1, 2] (lv' := [(0, .ref (ad x0)), (1, .int x1), (2, .int x2)]) rfl ?_
      have h := wp_v h
      exact kx91 () _ h
    · have h := wp_f c h
      refine r_iload_n hc 2 rfl rfl dX6_lowestFold_20 ?_
      refine r_iload_n hc 3 rfl rfl dX6_lowestFold_21 ?_
      refine r_icmp_eq hc (tgt := 85) dX6_lowestFold_22 (by decide) (fun c => ?_) (fun c => ?_)
      · have h := wp_t c h
        exact t_X6_lowestFold_b85 hc h kn kx81 kx91
      · have h := wp_f c h
        refine r_iload_n hc 1 rfl rfl dX6_lowestFold_25 ?_
        refine r_iload_n hc 2 rfl rfl dX6_lowestFold_26 ?_
        obtain ⟨r2, σ3, er2, h⟩ := wp_b h
        refine r_callS hc ms_X6_has ml_X6_203 (c_X6_has er2) rfl rfl (by decide) rfl (Nat.le_of_ble_eq_true rfl) dX6_lowestFold_27 ?_
        refine r_if_eq hc (tgt := 85) dX6_lowestFold_30 (by decide) (fun c => ?_) (fun c => ?_)
        · have h := wp_t c h
          exact t_X6_lowestFold_b85 hc h kn kx81 kx91
        · have h := wp_f c h
          refine r_iload_n hc 1 rfl rfl dX6_lowestFold_33 ?_
          refine r_iload_n hc 3 rfl rfl dX6_lowestFold_34 ?_
          obtain ⟨r4, σ5, er4, h⟩ := wp_b h
          refine r_callS hc ms_X6_has ml_X6_203 (c_X6_has er4) rfl rfl (by decide) rfl (Nat.le_of_ble_eq_true rfl) dX6_lowestFold_35 ?_
          refine r_if_eq hc (tgt := 85) dX6_lowestFold_38 (by decide) (fun c => ?_) (fun c => ?_)
          · have h := wp_t c h
            exact t_X6_lowestFold_b85 hc h kn kx81 kx91
          · have h := wp_f c h
            refine r_aload_n hc 0 rfl rfl dX6_lowestFold_41 ?_
            obtain ⟨v6, ev6, h⟩ := wp_g h
            refine r_getR hc ev6 fl_X6_153 rfl dX6_lowestFold_42 ?_
            refine r_iload_n hc 2 rfl rfl dX6_lowestFold_45 ?_
            obtain ⟨v7, ev7, h⟩ := wp_g h
            refine r_iald hc ev7 dX6_lowestFold_46 ?_
            refine r_iload_n hc 1 rfl rfl dX6_lowestFold_47 ?_
            refine r_iand hc dX6_lowestFold_48 ?_
            refine r_aload_n hc 0 rfl rfl dX6_lowestFold_49 ?_
            obtain ⟨v8, ev8, h⟩ := wp_g h
            refine r_getR hc ev8 fl_X6_153 rfl dX6_lowestFold_50 ?_
            refine r_iload_n hc 3 rfl rfl dX6_lowestFold_53 ?_
            obtain ⟨v9, ev9, h⟩ := wp_g h
            refine r_iald hc ev9 dX6_lowestFold_54 ?_
            refine r_iconst hc (v := (-1)) (by decide) dX6_lowestFold_55 ?_
            refine r_ixor hc dX6_lowestFold_56 ?_
            refine r_iand hc dX6_lowestFold_57 ?_
            refine r_if_ne hc (tgt := 85) dX6_lowestFold_58 (by decide) (fun c => ?_) (fun c => ?_)
            · have h := wp_f c h
              exact t_X6_lowestFold_b85 hc h kn kx81 kx91
            · have h := wp_t c h
              refine r_aload_n hc 0 rfl rfl dX6_lowestFold_61 ?_
              obtain ⟨v10, ev10, h⟩ := wp_g h
              refine r_getR hc ev10 fl_X6_156 rfl dX6_lowestFold_62 ?_
              refine r_iload_n hc 2 rfl rfl dX6_lowestFold_65 ?_
              obtain ⟨v11, ev11, h⟩ := wp_g h
              refine r_iald hc ev11 dX6_lowestFold_66 ?_
              refine r_iload_n hc 1 rfl rfl dX6_lowestFold_67 ?_
              refine r_iand hc dX6_lowestFold_68 ?_
              refine r_aload_n hc 0 rfl rfl dX6_lowestFold_69 ?_
              obtain ⟨v12, ev12, h⟩ := wp_g h
              refine r_getR hc ev12 fl_X6_156 rfl dX6_lowestFold_70 ?_
              refine r_iload_n hc 3 rfl rfl dX6_lowestFold_73 ?_
              obtain ⟨v13, ev13, h⟩ := wp_g h
              refine r_iald hc ev13 dX6_lowestFold_74 ?_
              refine r_iconst hc (v := (-1)) (by decide) dX6_lowestFold_75 ?_
              refine r_ixor hc dX6_lowestFold_76 ?_
              refine r_iand hc dX6_lowestFold_77 ?_
              refine r_if_ne hc (tgt := 85) dX6_lowestFold_78 (by decide) (fun c => ?_) (fun c => ?_)
              · have h := wp_f c h
                exact t_X6_lowestFold_b85 hc h kn kx81 kx91
              · have h := wp_t c h
                refine r_sub [2] (lv' := [(2, .int x2)]) rfl ?_
                have h := wp_v h
                exact kx81 () _ h
noncomputable def f_X6_lowestFold_L2 (x0 : Nat) (x1 : Int32) (v : (Int32)) (σ : Hp) : Option (((Int32) ⊕ ((Int32) ⊕ (Unit))) × Hp) := gO (getI shC 1 x0 0 σ) fun v1 => if v1 ≤ v then (some (Sum.inr (Sum.inr ()), σ)) else (bO (wh (f_X6_lowestFold_L12 x0 x1 v) 0 σ) fun y2 σ3 => (Sum.elim (fun y2' => (some (Sum.inr (Sum.inl v), σ3))) (fun y4 => (some (Sum.inl (v + 1), σ3))) y2))
set_option maxRecDepth 100000 in
set_option maxHeartbeats 4000000 in
theorem t_X6_lowestFold_L2 {l : Launch} {γ : Gm} {ad : Nat → Nat} {K : Option Value → Hp → Prop}  (hc : Cx l γ 2 4 ad shC RX6 cX6_lowestFold (some .int) K) {x0 : Nat} {x1 : Int32} {v : (Int32)} {σ : Hp} {KX : ((Int32) ⊕ (Unit)) → Hp → Prop} (h : wpO (wh (f_X6_lowestFold_L2 x0 x1) v σ) KX) (kx81 : ∀ (v : Int32) (σ : Hp), KX (Sum.inl v) σ → WW l γ 2 4 ad shC 81 [(2, .int v)] [] σ) (kx97 : ∀ (v : Unit) (σ : Hp), KX (Sum.inr v) σ → WW l γ 2 4 ad shC 97 [] [] σ) : WW l γ 2 4 ad shC 2 [(0, .ref (ad x0)), (1, .int x1), (2, .int v)] [] σ := by
  refine wh_W (P := fun v σ => WW l γ 2 4 ad shC 2 [(0, .ref (ad x0)), (1, .int x1), (2, .int v)] [] σ) (fun v σ h => ?_) h
  have kn : ∀ (v : (Int32)) (σ : Hp), WW l γ 2 4 ad shC 2 [(0, .ref (ad x0)), (1, .int x1), (2, .int v)] [] σ → WW l γ 2 4 ad shC 2 [(0, .ref (ad x0)), (1, .int x1), (2, .int v)] [] σ := fun _ _ h => h
  · unfold f_X6_lowestFold_L2 at h
    refine r_iload_n hc 2 rfl rfl dX6_lowestFold_2 ?_
    refine r_aload_n hc 0 rfl rfl dX6_lowestFold_3 ?_
    obtain ⟨v1, ev1, h⟩ := wp_g h
    refine r_getI hc ev1 fl_X6_126 rfl dX6_lowestFold_4 ?_
    refine r_icmp_ge hc (tgt := 97) dX6_lowestFold_7 (by decide) (fun c => ?_) (fun c => ?_)
    · have h := wp_t c h
      refine r_sub [] (lv' := []) rfl ?_
      have h := wp_v h
      exact kx97 () _ h
    · have h := wp_f c h
      refine r_iconst hc (v := 0) (by decide) dX6_lowestFold_10 ?_
      refine r_istore_nE hc (i := 3) (lv' := [(3, .int 0), (0, .ref (ad x0)), (1, .int x1), (2, .int v)]) rfl rfl (by decide) rfl dX6_lowestFold_11 ?_
      refine r_sub [1, 2, 3, 0] (lv' := [(0, .ref (ad x0)), (1, .int x1), (2, .int v), (3, .int 0)]) rfl ?_
      refine t_X6_lowestFold_L12 hc (wp_bb h) ?_ ?_
      · intro y2' σ3 h
        have h := wp_sl h
        have h := wp_v h
        exact kx81 v _ h
      · intro y4 σ3 h
        have h := wp_sr h
        refine r_iincE hc (j := 2) (w := 1) (lv' := [(2, .int (v + 1)), (0, .ref (ad x0)), (1, .int x1)]) rfl (by decide) rfl (by decide) rfl dX6_lowestFold_91 ?_
        refine r_goto hc (tgt := 2) dX6_lowestFold_94 (by decide) ?_
        refine r_sub [1, 2, 0] (lv' := [(0, .ref (ad x0)), (1, .int x1), (2, .int (v + 1))]) rfl ?_
        have h := wp_v h
        exact kn (v + 1) _ h
noncomputable def f_X6_lowestFold (x0 : Nat) (x1 : Int32) (σ : Hp) : Option (Int32 × Hp) := bO (wh (f_X6_lowestFold_L2 x0 x1) 0 σ) fun y1 σ2 => (Sum.elim (fun y1' => (some (((1 : Int32) <<< (y1' &&& 31)), σ2))) (fun y3 => (some (0, σ2))) y1)
set_option maxRecDepth 100000 in
set_option maxHeartbeats 4000000 in
theorem t_X6_lowestFold {l : Launch} {γ : Gm} {ad : Nat → Nat} {K : Option Value → Hp → Prop} (hc : Cx l γ 2 4 ad shC RX6 cX6_lowestFold (some .int) K) {x0 : Nat} {x1 : Int32} {σ : Hp} (h : wpO (f_X6_lowestFold x0 x1 σ) (KI K)) : WW l γ 2 4 ad shC 0 [(0, .ref (ad x0)), (1, .int x1)] [] σ := by
  unfold f_X6_lowestFold at h
  refine r_iconst hc (v := 0) (by decide) dX6_lowestFold_0 ?_
  refine r_istore_nE hc (i := 2) (lv' := [(2, .int 0), (0, .ref (ad x0)), (1, .int x1)]) rfl rfl (by decide) rfl dX6_lowestFold_1 ?_
  refine r_sub [1, 2, 0] (lv' := [(0, .ref (ad x0)), (1, .int x1), (2, .int 0)]) rfl ?_
  refine t_X6_lowestFold_L2 hc (wp_bb h) ?_ ?_
  · intro y1' σ2 h
    have h := wp_sl h
    refine r_iconst hc (v := 1) (by decide) dX6_lowestFold_81 ?_
    refine r_iload_n hc 0 rfl rfl dX6_lowestFold_82 ?_
    refine r_ishl hc dX6_lowestFold_83 ?_
    have h := wp_v h
    exact r_iret hc h dX6_lowestFold_84
  · intro y3 σ2 h
    have h := wp_sr h
    refine r_iconst hc (v := 0) (by decide) dX6_lowestFold_97 ?_
    have h := wp_v h
    exact r_iret hc h dX6_lowestFold_98
theorem c_X6_lowestFold {l : Launch} {x0 : Nat} {x1 : Int32} {σ σ' : Hp} {r : Int32} (h : f_X6_lowestFold x0 x1 σ = some (r, σ')) : Mt l yX6_lowestFold cX6_lowestFold 4 (some .int) 2 shC (fun ad => [.ref (ad x0), .int x1]) σ (fun ad => some (.int r)) σ' := mt_i (own := RX6) (by decide) rfl (fun _ => Nat.le_of_ble_eq_true rfl) (fun γ ad K hc hk => t_X6_lowestFold hc ⟨_, _, h, hk⟩)

-- NetMaps.folded(II)I
theorem dX6_folded_0 : decode cX6_folded 0 = .ok (.iload_n 1, 1) := by decide +kernel
theorem dX6_folded_1 : decode cX6_folded 1 = .ok (.invokestatic 76, 3) := by decide +kernel
theorem dX6_folded_4 : decode cX6_folded 4 = .ok (.ifCond .ne 12, 3) := by decide +kernel
theorem dX6_folded_7 : decode cX6_folded 7 = .ok (.iload_n 2, 1) := by decide +kernel
theorem dX6_folded_8 : decode cX6_folded 8 = .ok (.ifCond .lt 8, 3) := by decide +kernel
theorem dX6_folded_11 : decode cX6_folded 11 = .ok (.iload_n 2, 1) := by decide +kernel
theorem dX6_folded_12 : decode cX6_folded 12 = .ok (.iconst 1, 1) := by decide +kernel
theorem dX6_folded_13 : decode cX6_folded 13 = .ok (.if_icmp .le 5, 3) := by decide +kernel
theorem dX6_folded_16 : decode cX6_folded 16 = .ok (.iconst (-1), 1) := by decide +kernel
theorem dX6_folded_17 : decode cX6_folded 17 = .ok (.ireturn, 1) := by decide +kernel
theorem dX6_folded_18 : decode cX6_folded 18 = .ok (.aload_n 0, 1) := by decide +kernel
theorem dX6_folded_19 : decode cX6_folded 19 = .ok (.iload_n 1, 1) := by decide +kernel
theorem dX6_folded_20 : decode cX6_folded 20 = .ok (.invokevirtual 91, 3) := by decide +kernel
theorem dX6_folded_23 : decode cX6_folded 23 = .ok (.astore_n 3, 1) := by decide +kernel
theorem dX6_folded_24 : decode cX6_folded 24 = .ok (.aload_n 3, 1) := by decide +kernel
theorem dX6_folded_25 : decode cX6_folded 25 = .ok (.invokevirtual 109, 3) := by decide +kernel
theorem dX6_folded_28 : decode cX6_folded 28 = .ok (.ifCond .eq 6, 3) := by decide +kernel
theorem dX6_folded_31 : decode cX6_folded 31 = .ok (.bipush (-2), 2) := by decide +kernel
theorem dX6_folded_33 : decode cX6_folded 33 = .ok (.ireturn, 1) := by decide +kernel
theorem dX6_folded_34 : decode cX6_folded 34 = .ok (.aload_n 3, 1) := by decide +kernel
theorem dX6_folded_35 : decode cX6_folded 35 = .ok (.invokevirtual 206, 3) := by decide +kernel
theorem dX6_folded_38 : decode cX6_folded 38 = .ok (.istore 4, 2) := by decide +kernel
theorem dX6_folded_40 : decode cX6_folded 40 = .ok (.iconst 1, 1) := by decide +kernel
theorem dX6_folded_41 : decode cX6_folded 41 = .ok (.istore 5, 2) := by decide +kernel
theorem dX6_folded_43 : decode cX6_folded 43 = .ok (.iload 5, 2) := by decide +kernel
theorem dX6_folded_45 : decode cX6_folded 45 = .ok (.aload_n 3, 1) := by decide +kernel
theorem dX6_folded_46 : decode cX6_folded 46 = .ok (.getfield 126, 3) := by decide +kernel
theorem dX6_folded_49 : decode cX6_folded 49 = .ok (.if_icmp .ge 22, 3) := by decide +kernel
theorem dX6_folded_52 : decode cX6_folded 52 = .ok (.iload 4, 2) := by decide +kernel
theorem dX6_folded_54 : decode cX6_folded 54 = .ok (.aload_n 3, 1) := by decide +kernel
theorem dX6_folded_55 : decode cX6_folded 55 = .ok (.iload 4, 2) := by decide +kernel
theorem dX6_folded_57 : decode cX6_folded 57 = .ok (.invokestatic 356, 3) := by decide +kernel
theorem dX6_folded_60 : decode cX6_folded 60 = .ok (.iconst (-1), 1) := by decide +kernel
theorem dX6_folded_61 : decode cX6_folded 61 = .ok (.ixor, 1) := by decide +kernel
theorem dX6_folded_62 : decode cX6_folded 62 = .ok (.iand, 1) := by decide +kernel
theorem dX6_folded_63 : decode cX6_folded 63 = .ok (.istore 4, 2) := by decide +kernel
theorem dX6_folded_65 : decode cX6_folded 65 = .ok (.iinc 5 1, 3) := by decide +kernel
theorem dX6_folded_68 : decode cX6_folded 68 = .ok (.goto (-25), 3) := by decide +kernel
theorem dX6_folded_71 : decode cX6_folded 71 = .ok (.iload_n 2, 1) := by decide +kernel
theorem dX6_folded_72 : decode cX6_folded 72 = .ok (.ifCond .ne 8, 3) := by decide +kernel
theorem dX6_folded_75 : decode cX6_folded 75 = .ok (.iload 4, 2) := by decide +kernel
theorem dX6_folded_77 : decode cX6_folded 77 = .ok (.goto 8, 3) := by decide +kernel
theorem dX6_folded_80 : decode cX6_folded 80 = .ok (.iload 4, 2) := by decide +kernel
theorem dX6_folded_82 : decode cX6_folded 82 = .ok (.invokestatic 132, 3) := by decide +kernel
theorem dX6_folded_85 : decode cX6_folded 85 = .ok (.ireturn, 1) := by decide +kernel
noncomputable def f_X6_folded_b16  (σ : Hp) : Option (Int32 × Hp) := some ((-1), σ)
set_option maxRecDepth 100000 in
set_option maxHeartbeats 4000000 in
theorem t_X6_folded_b16 {l : Launch} {γ : Gm} {ad : Nat → Nat} {K : Option Value → Hp → Prop} (hc : Cx l γ 3 6 ad shC RX6 cX6_folded (some .int) K)  {σ : Hp} (h : wpO (f_X6_folded_b16  σ) (KI K)) : WW l γ 3 6 ad shC 16 [] [] σ := by
  unfold f_X6_folded_b16 at h
  refine r_iconst hc (v := (-1)) (by decide) dX6_folded_16 ?_
  have h := wp_v h
  exact r_iret hc h dX6_folded_17
noncomputable def f_X6_folded_L43 (x2 : Int32) (x3 : Nat) (v : (Int32 × Int32)) (σ : Hp) : Option (((Int32 × Int32) ⊕ (Int32)) × Hp) := gO (getI shC 1 x3 0 σ) fun v1 => if v1 ≤ v.2 then (some (Sum.inr v.1, σ)) else (bO (f_X6_lowestFold x3 v.1 σ) fun r2 σ3 => some (Sum.inl ((v.1 &&& (r2 ^^^ (-1))), (v.2 + 1)), σ3))
set_option maxRecDepth 100000 in
set_option maxHeartbeats 4000000 in
theorem t_X6_folded_L43 {l : Launch} {γ : Gm} {ad : Nat → Nat} {K : Option Value → Hp → Prop}  (hc : Cx l γ 3 6 ad shC RX6 cX6_folded (some .int) K) {x2 : Int32} {x3 : Nat} {v : (Int32 × Int32)} {σ : Hp} {KX : (Int32) → Hp → Prop} (h : wpO (wh (f_X6_folded_L43 x2 x3) v σ) KX) (kx71 : ∀ (v : Int32) (σ : Hp), KX v σ → WW l γ 3 6 ad shC 71 [(2, .int x2), (4, .int v)] [] σ) : WW l γ 3 6 ad shC 43 [(2, .int x2), (3, .ref (ad x3)), (4, .int v.1), (5, .int v.2)] [] σ := by
  refine wh_W (P := fun v σ => WW l γ 3 6 ad shC 43 [(2, .int x2), (3, .ref (ad x3)), (4, .int v.1), (5, .int v.2)] [] σ) (fun v σ h => ?_) h
  have kn : ∀ (v : (Int32 × Int32)) (σ : Hp), WW l γ 3 6 ad shC 43 [(2, .int x2), (3, .ref (ad x3)), (4, .int v.1), (5, .int v.2)] [] σ → WW l γ 3 6 ad shC 43 [(2, .int x2), (3, .ref (ad x3)), (4, .int v.1), (5, .int v.2)] [] σ := fun _ _ h => h
  · unfold f_X6_folded_L43 at h
    refine r_iload hc 3 rfl dX6_folded_43 ?_
    refine r_aload_n hc 1 rfl rfl dX6_folded_45 ?_
    obtain ⟨v1, ev1, h⟩ := wp_g h
    refine r_getI hc ev1 fl_X6_126 rfl dX6_folded_46 ?_
    refine r_icmp_ge hc (tgt := 71) dX6_folded_49 (by decide) (fun c => ?_) (fun c => ?_)
    · have h := wp_t c h
      refine r_sub [0, 2] (lv' := [(2, .int x2), (4, .int v.1)]) rfl ?_
      have h := wp_v h
      exact kx71 v.1 _ h
    · have h := wp_f c h
      refine r_iload hc 2 rfl dX6_folded_52 ?_
      refine r_aload_n hc 1 rfl rfl dX6_folded_54 ?_
      refine r_iload hc 2 rfl dX6_folded_55 ?_
      obtain ⟨r2, σ3, er2, h⟩ := wp_b h
      refine r_callS hc ms_X6_lowestFold ml_X6_356 (c_X6_lowestFold er2) rfl rfl (by decide) rfl (Nat.le_of_ble_eq_true rfl) dX6_folded_57 ?_
      refine r_iconst hc (v := (-1)) (by decide) dX6_folded_60 ?_
      refine r_ixor hc dX6_folded_61 ?_
      refine r_iand hc dX6_folded_62 ?_
      refine r_istoreE hc (i := 4) (lv' := [(4, .int (v.1 &&& (r2 ^^^ (-1)))), (2, .int x2), (3, .ref (ad x3)), (5, .int v.2)]) rfl (by decide) rfl dX6_folded_63 ?_
      refine r_iincE hc (j := 3) (w := 1) (lv' := [(5, .int (v.2 + 1)), (4, .int (v.1 &&& (r2 ^^^ (-1)))), (2, .int x2), (3, .ref (ad x3))]) rfl (by decide) rfl (by decide) rfl dX6_folded_65 ?_
      refine r_goto hc (tgt := 43) dX6_folded_68 (by decide) ?_
      refine r_sub [2, 3, 1, 0] (lv' := [(2, .int x2), (3, .ref (ad x3)), (4, .int (v.1 &&& (r2 ^^^ (-1)))), (5, .int (v.2 + 1))]) rfl ?_
      have h := wp_v h
      exact kn ((v.1 &&& (r2 ^^^ (-1))), (v.2 + 1)) _ h
noncomputable def f_X6_folded_b85 (s0 : Int32) (σ : Hp) : Option (Int32 × Hp) := some (s0, σ)
set_option maxRecDepth 100000 in
set_option maxHeartbeats 4000000 in
theorem t_X6_folded_b85 {l : Launch} {γ : Gm} {ad : Nat → Nat} {K : Option Value → Hp → Prop} (hc : Cx l γ 3 6 ad shC RX6 cX6_folded (some .int) K) {s0 : Int32} {σ : Hp} (h : wpO (f_X6_folded_b85 s0 σ) (KI K)) : WW l γ 3 6 ad shC 85 [] [.int s0] σ := by
  unfold f_X6_folded_b85 at h
  have h := wp_v h
  exact r_iret hc h dX6_folded_85
noncomputable def f_X6_folded (x0 : Nat) (x1 : Int32) (x2 : Int32) (σ : Hp) : Option (Int32 × Hp) := bO (f_X6_noDrawer x1 σ) fun r1 σ2 => if r1 = 0 then (if x2 < 0 then (f_X6_folded_b16  σ2) else (if x2 ≤ 1 then (gO (chk shC x0 6) fun _ => bO (f_X6_in x0 x1 σ2) fun r3 σ4 => gO (chk shC r3 1) fun _ => bO (f_X1_isEmpty r3 σ4) fun r6 σ7 => if r6 = 0 then (gO (chk shC r3 1) fun _ => bO (f_X1_all r3 σ7) fun r9 σ10 => bO (wh (f_X6_folded_L43 x2 r3) (r9, 1) σ10) fun y12 σ13 => (if x2 = 0 then (f_X6_folded_b85 y12 σ13) else (bO (f_J6_bitCount_0f7a4 shC y12 σ13) fun r14 σ15 => f_X6_folded_b85 r14 σ15))) else (some ((-2), σ7))) else (f_X6_folded_b16  σ2))) else (f_X6_folded_b16  σ2)
set_option maxRecDepth 100000 in
set_option maxHeartbeats 4000000 in
theorem t_X6_folded {l : Launch} {γ : Gm} {ad : Nat → Nat} {K : Option Value → Hp → Prop} (hc : Cx l γ 3 6 ad shC RX6 cX6_folded (some .int) K) {x0 : Nat} {x1 : Int32} {x2 : Int32} {σ : Hp} (h : wpO (f_X6_folded x0 x1 x2 σ) (KI K)) : WW l γ 3 6 ad shC 0 [(0, .ref (ad x0)), (1, .int x1), (2, .int x2)] [] σ := by
  unfold f_X6_folded at h
  refine r_iload_n hc 1 rfl rfl dX6_folded_0 ?_
  obtain ⟨r1, σ2, er1, h⟩ := wp_b h
  refine r_callS hc ms_X6_noDrawer ml_X6_76 (c_X6_noDrawer er1) rfl rfl (by decide) rfl (Nat.le_of_ble_eq_true rfl) dX6_folded_1 ?_
  refine r_if_ne hc (tgt := 16) dX6_folded_4 (by decide) (fun c => ?_) (fun c => ?_)
  · have h := wp_f c h
    refine r_sub [] (lv' := []) rfl ?_
    exact t_X6_folded_b16 hc h
  · have h := wp_t c h
    refine r_iload_n hc 2 rfl rfl dX6_folded_7 ?_
    refine r_if_lt hc (tgt := 16) dX6_folded_8 (by decide) (fun c => ?_) (fun c => ?_)
    · have h := wp_t c h
      refine r_sub [] (lv' := []) rfl ?_
      exact t_X6_folded_b16 hc h
    · have h := wp_f c h
      refine r_iload_n hc 2 rfl rfl dX6_folded_11 ?_
      refine r_iconst hc (v := 1) (by decide) dX6_folded_12 ?_
      refine r_icmp_le hc (tgt := 18) dX6_folded_13 (by decide) (fun c => ?_) (fun c => ?_)
      · have h := wp_t c h
        refine r_aload_n hc 0 rfl rfl dX6_folded_18 ?_
        refine r_iload_n hc 1 rfl rfl dX6_folded_19 ?_
        obtain ⟨_, ek5, h⟩ := wp_g h
        obtain ⟨r3, σ4, er3, h⟩ := wp_b h
        refine r_callV hc (k0 := x0) mv_X6_in ml_X6_91 (c_X6_in er3) (chk_of ek5) cls_6.1 rfl rfl rfl (by decide) rfl (Nat.le_of_ble_eq_true rfl) dX6_folded_20 ?_
        refine r_astore_n hc (i := 3) (lv' := [(3, .ref (ad r3)), (0, .ref (ad x0)), (1, .int x1), (2, .int x2)]) rfl (by decide) rfl dX6_folded_23 ?_
        refine r_aload_n hc 0 rfl rfl dX6_folded_24 ?_
        obtain ⟨_, ek8, h⟩ := wp_g h
        obtain ⟨r6, σ7, er6, h⟩ := wp_b h
        refine r_callV hc (k0 := r3) mv_X1_isEmpty ml_X6_109 (c_X1_isEmpty er6) (chk_of ek8) cls_1.1 rfl rfl rfl (by decide) rfl (Nat.le_of_ble_eq_true rfl) dX6_folded_25 ?_
        refine r_if_eq hc (tgt := 34) dX6_folded_28 (by decide) (fun c => ?_) (fun c => ?_)
        · have h := wp_t c h
          refine r_aload_n hc 0 rfl rfl dX6_folded_34 ?_
          obtain ⟨_, ek11, h⟩ := wp_g h
          obtain ⟨r9, σ10, er9, h⟩ := wp_b h
          refine r_callV hc (k0 := r3) mv_X1_all ml_X6_206 (c_X1_all er9) (chk_of ek11) cls_1.1 rfl rfl rfl (by decide) rfl (Nat.le_of_ble_eq_true rfl) dX6_folded_35 ?_
          refine r_istoreE hc (i := 4) (lv' := [(4, .int r9), (3, .ref (ad r3)), (0, .ref (ad x0)), (1, .int x1), (2, .int x2)]) rfl (by decide) rfl dX6_folded_38 ?_
          refine r_iconst hc (v := 1) (by decide) dX6_folded_40 ?_
          refine r_istoreE hc (i := 5) (lv' := [(5, .int 1), (4, .int r9), (3, .ref (ad r3)), (0, .ref (ad x0)), (1, .int x1), (2, .int x2)]) rfl (by decide) rfl dX6_folded_41 ?_
          refine r_sub [5, 2, 1, 0] (lv' := [(2, .int x2), (3, .ref (ad r3)), (4, .int r9), (5, .int 1)]) rfl ?_
          refine t_X6_folded_L43 hc (wp_bb h) ?_
          · intro y12 σ13 h
            refine r_iload_n hc 0 rfl rfl dX6_folded_71 ?_
            refine r_if_ne hc (tgt := 80) dX6_folded_72 (by decide) (fun c => ?_) (fun c => ?_)
            · have h := wp_f c h
              refine r_iload hc 1 rfl dX6_folded_80 ?_
              obtain ⟨r14, σ15, er14, h⟩ := wp_b h
              refine r_callS hc ms_J6_bitCount_0f7a4 ml_X6_132 (c_J6_bitCount_0f7a4 er14) rfl rfl (by decide) rfl (Nat.le_of_ble_eq_true rfl) dX6_folded_82 ?_
              refine r_sub [] (lv' := []) rfl ?_
              exact t_X6_folded_b85 hc h
            · have h := wp_t c h
              refine r_iload hc 1 rfl dX6_folded_75 ?_
              refine r_goto hc (tgt := 85) dX6_folded_77 (by decide) ?_
              refine r_sub [] (lv' := []) rfl ?_
              exact t_X6_folded_b85 hc h
        · have h := wp_f c h
          refine r_bipush hc (v := (-2)) (by decide) dX6_folded_31 ?_
          have h := wp_v h
          exact r_iret hc h dX6_folded_33
      · have h := wp_f c h
        refine r_sub [] (lv' := []) rfl ?_
        exact t_X6_folded_b16 hc h
theorem c_X6_folded {l : Launch} {x0 : Nat} {x1 : Int32} {x2 : Int32} {σ σ' : Hp} {r : Int32} (h : f_X6_folded x0 x1 x2 σ = some (r, σ')) : Mt l yX6_folded cX6_folded 6 (some .int) 3 shC (fun ad => [.ref (ad x0), .int x1, .int x2]) σ (fun ad => some (.int r)) σ' := mt_i (own := RX6) (by decide) rfl (fun _ => Nat.le_of_ble_eq_true rfl) (fun γ ad K hc hk => t_X6_folded hc ⟨_, _, h, hk⟩)

-- NetMaps.orbit(II)I
theorem dX6_orbit_0 : decode cX6_orbit 0 = .ok (.aload_n 0, 1) := by decide +kernel
theorem dX6_orbit_1 : decode cX6_orbit 1 = .ok (.iload_n 1, 1) := by decide +kernel
theorem dX6_orbit_2 : decode cX6_orbit 2 = .ok (.iload_n 2, 1) := by decide +kernel
theorem dX6_orbit_3 : decode cX6_orbit 3 = .ok (.invokevirtual 112, 3) := by decide +kernel
theorem dX6_orbit_6 : decode cX6_orbit 6 = .ok (.ifCond .eq 5, 3) := by decide +kernel
theorem dX6_orbit_9 : decode cX6_orbit 9 = .ok (.iconst (-1), 1) := by decide +kernel
theorem dX6_orbit_10 : decode cX6_orbit 10 = .ok (.ireturn, 1) := by decide +kernel
theorem dX6_orbit_11 : decode cX6_orbit 11 = .ok (.aload_n 0, 1) := by decide +kernel
theorem dX6_orbit_12 : decode cX6_orbit 12 = .ok (.iload_n 1, 1) := by decide +kernel
theorem dX6_orbit_13 : decode cX6_orbit 13 = .ok (.invokevirtual 91, 3) := by decide +kernel
theorem dX6_orbit_16 : decode cX6_orbit 16 = .ok (.astore_n 3, 1) := by decide +kernel
theorem dX6_orbit_17 : decode cX6_orbit 17 = .ok (.aload_n 3, 1) := by decide +kernel
theorem dX6_orbit_18 : decode cX6_orbit 18 = .ok (.invokevirtual 109, 3) := by decide +kernel
theorem dX6_orbit_21 : decode cX6_orbit 21 = .ok (.ifCond .eq 6, 3) := by decide +kernel
theorem dX6_orbit_24 : decode cX6_orbit 24 = .ok (.bipush (-2), 2) := by decide +kernel
theorem dX6_orbit_26 : decode cX6_orbit 26 = .ok (.ireturn, 1) := by decide +kernel
theorem dX6_orbit_27 : decode cX6_orbit 27 = .ok (.iconst 0, 1) := by decide +kernel
theorem dX6_orbit_28 : decode cX6_orbit 28 = .ok (.istore 4, 2) := by decide +kernel
theorem dX6_orbit_30 : decode cX6_orbit 30 = .ok (.iconst 0, 1) := by decide +kernel
theorem dX6_orbit_31 : decode cX6_orbit 31 = .ok (.istore 5, 2) := by decide +kernel
theorem dX6_orbit_33 : decode cX6_orbit 33 = .ok (.iload 5, 2) := by decide +kernel
theorem dX6_orbit_35 : decode cX6_orbit 35 = .ok (.aload_n 3, 1) := by decide +kernel
theorem dX6_orbit_36 : decode cX6_orbit 36 = .ok (.getfield 126, 3) := by decide +kernel
theorem dX6_orbit_39 : decode cX6_orbit 39 = .ok (.if_icmp .ge 66, 3) := by decide +kernel
theorem dX6_orbit_42 : decode cX6_orbit 42 = .ok (.aload_n 0, 1) := by decide +kernel
theorem dX6_orbit_43 : decode cX6_orbit 43 = .ok (.getfield 41, 3) := by decide +kernel
theorem dX6_orbit_46 : decode cX6_orbit 46 = .ok (.aload_n 3, 1) := by decide +kernel
theorem dX6_orbit_47 : decode cX6_orbit 47 = .ok (.aload_n 3, 1) := by decide +kernel
theorem dX6_orbit_48 : decode cX6_orbit 48 = .ok (.invokevirtual 216, 3) := by decide +kernel
theorem dX6_orbit_51 : decode cX6_orbit 51 = .ok (.aload_n 0, 1) := by decide +kernel
theorem dX6_orbit_52 : decode cX6_orbit 52 = .ok (.getfield 41, 3) := by decide +kernel
theorem dX6_orbit_55 : decode cX6_orbit 55 = .ok (.aload_n 3, 1) := by decide +kernel
theorem dX6_orbit_56 : decode cX6_orbit 56 = .ok (.getfield 126, 3) := by decide +kernel
theorem dX6_orbit_59 : decode cX6_orbit 59 = .ok (.bipush 7, 2) := by decide +kernel
theorem dX6_orbit_61 : decode cX6_orbit 61 = .ok (.invokevirtual 224, 3) := by decide +kernel
theorem dX6_orbit_64 : decode cX6_orbit 64 = .ok (.aload_n 0, 1) := by decide +kernel
theorem dX6_orbit_65 : decode cX6_orbit 65 = .ok (.getfield 41, 3) := by decide +kernel
theorem dX6_orbit_68 : decode cX6_orbit 68 = .ok (.getfield 239, 3) := by decide +kernel
theorem dX6_orbit_71 : decode cX6_orbit 71 = .ok (.iload_n 2, 1) := by decide +kernel
theorem dX6_orbit_72 : decode cX6_orbit 72 = .ok (.dup2, 1) := by decide +kernel
theorem dX6_orbit_73 : decode cX6_orbit 73 = .ok (.iaload, 1) := by decide +kernel
theorem dX6_orbit_74 : decode cX6_orbit 74 = .ok (.iconst 1, 1) := by decide +kernel
theorem dX6_orbit_75 : decode cX6_orbit 75 = .ok (.iload 5, 2) := by decide +kernel
theorem dX6_orbit_77 : decode cX6_orbit 77 = .ok (.ishl, 1) := by decide +kernel
theorem dX6_orbit_78 : decode cX6_orbit 78 = .ok (.iand, 1) := by decide +kernel
theorem dX6_orbit_79 : decode cX6_orbit 79 = .ok (.iastore, 1) := by decide +kernel
theorem dX6_orbit_80 : decode cX6_orbit 80 = .ok (.aload_n 0, 1) := by decide +kernel
theorem dX6_orbit_81 : decode cX6_orbit 81 = .ok (.getfield 41, 3) := by decide +kernel
theorem dX6_orbit_84 : decode cX6_orbit 84 = .ok (.invokevirtual 249, 3) := by decide +kernel
theorem dX6_orbit_87 : decode cX6_orbit 87 = .ok (.ifCond .eq 12, 3) := by decide +kernel
theorem dX6_orbit_90 : decode cX6_orbit 90 = .ok (.iload 4, 2) := by decide +kernel
theorem dX6_orbit_92 : decode cX6_orbit 92 = .ok (.iconst 1, 1) := by decide +kernel
theorem dX6_orbit_93 : decode cX6_orbit 93 = .ok (.iload 5, 2) := by decide +kernel
theorem dX6_orbit_95 : decode cX6_orbit 95 = .ok (.ishl, 1) := by decide +kernel
theorem dX6_orbit_96 : decode cX6_orbit 96 = .ok (.ior, 1) := by decide +kernel
theorem dX6_orbit_97 : decode cX6_orbit 97 = .ok (.istore 4, 2) := by decide +kernel
theorem dX6_orbit_99 : decode cX6_orbit 99 = .ok (.iinc 5 1, 3) := by decide +kernel
theorem dX6_orbit_102 : decode cX6_orbit 102 = .ok (.goto (-69), 3) := by decide +kernel
theorem dX6_orbit_105 : decode cX6_orbit 105 = .ok (.iload 4, 2) := by decide +kernel
theorem dX6_orbit_107 : decode cX6_orbit 107 = .ok (.ireturn, 1) := by decide +kernel
noncomputable def f_X6_orbit_b99 (x0 : Nat) (x2 : Int32) (x3 : Nat) (x4 : Int32) (x5 : Int32) (σ : Hp) : Option (((Int32 × Int32) ⊕ (Int32)) × Hp) := some (Sum.inl (x4, (x5 + 1)), σ)
set_option maxRecDepth 100000 in
set_option maxHeartbeats 4000000 in
theorem t_X6_orbit_b99 {l : Launch} {γ : Gm} {ad : Nat → Nat} {K : Option Value → Hp → Prop} (hc : Cx l γ 35 6 ad shC RX6 cX6_orbit (some .int) K) {x0 : Nat} {x2 : Int32} {x3 : Nat} {x4 : Int32} {x5 : Int32}  {σ : Hp} {KL : ((Int32 × Int32) ⊕ (Int32)) → Hp → Prop} (h : wpO (f_X6_orbit_b99 x0 x2 x3 x4 x5 σ) KL) (kn : ∀ (v : (Int32 × Int32)) (σ : Hp), KL (Sum.inl v) σ → WW l γ 35 6 ad shC 33 [(0, .ref (ad x0)), (2, .int x2), (3, .ref (ad x3)), (4, .int v.1), (5, .int v.2)] [] σ) (kx105 : ∀ (v : Int32) (σ : Hp), KL (Sum.inr v) σ → WW l γ 35 6 ad shC 105 [(4, .int v)] [] σ) : WW l γ 35 6 ad shC 99 [(0, .ref (ad x0)), (2, .int x2), (3, .ref (ad x3)), (4, .int x4), (5, .int x5)] [] σ := by
  unfold f_X6_orbit_b99 at h
  refine r_iincE hc (j := 4) (w := 1) (lv' := [(5, .int (x5 + 1)), (0, .ref (ad x0)), (2, .int x2), (3, .ref (ad x3)), (4, .int x4)]) rfl (by decide) rfl (by decide) rfl dX6_orbit_99 ?_
  refine r_goto hc (tgt := 33) dX6_orbit_102 (by decide) ?_
  refine r_sub [1, 2, 3, 4, 0] (lv' := [(0, .ref (ad x0)), (2, .int x2), (3, .ref (ad x3)), (4, .int x4), (5, .int (x5 + 1))]) rfl ?_
  have h := wp_v h
  exact kn (x4, (x5 + 1)) _ h
noncomputable def f_X6_orbit_L33 (x0 : Nat) (x2 : Int32) (x3 : Nat) (v : (Int32 × Int32)) (σ : Hp) : Option (((Int32 × Int32) ⊕ (Int32)) × Hp) := gO (getI shC 1 x3 0 σ) fun v1 => if v1 ≤ v.2 then (some (Sum.inr v.1, σ)) else (gO (getR shC 6 x0 7 σ) fun v2 => gO (chk shC v2 4) fun _ => bO (f_X4_freely v2 x3 x3 σ) fun _ σ4 => gO (getR shC 6 x0 7 σ4) fun v6 => gO (getI shC 1 x3 0 σ4) fun v7 => gO (chk shC v6 4) fun _ => bO (f_X4_bound v6 v7 7 σ4) fun _ σ9 => gO (getR shC 6 x0 7 σ9) fun v11 => gO (getR shC 4 v11 2 σ9) fun v12 => gO (aldI shC 0 v12 x2 σ9) fun v13 => gO (astI shC 0 v12 x2 (v13 &&& ((1 : Int32) <<< (v.2 &&& 31))) σ9) fun σ14 => gO (getR shC 6 x0 7 σ14) fun v15 => gO (chk shC v15 4) fun _ => bO (f_X4_finds v15 σ14) fun r16 σ17 => if r16 = 0 then (f_X6_orbit_b99 x0 x2 x3 v.1 v.2 σ17) else (lt' ((v.1 ||| ((1 : Int32) <<< (v.2 &&& 31)))) fun t19 => f_X6_orbit_b99 x0 x2 x3 t19 v.2 σ17))
set_option maxRecDepth 100000 in
set_option maxHeartbeats 4000000 in
theorem t_X6_orbit_L33 {l : Launch} {γ : Gm} {ad : Nat → Nat} {K : Option Value → Hp → Prop}  (hc : Cx l γ 35 6 ad shC RX6 cX6_orbit (some .int) K) {x0 : Nat} {x2 : Int32} {x3 : Nat} {v : (Int32 × Int32)} {σ : Hp} {KX : (Int32) → Hp → Prop} (h : wpO (wh (f_X6_orbit_L33 x0 x2 x3) v σ) KX) (kx105 : ∀ (v : Int32) (σ : Hp), KX v σ → WW l γ 35 6 ad shC 105 [(4, .int v)] [] σ) : WW l γ 35 6 ad shC 33 [(0, .ref (ad x0)), (2, .int x2), (3, .ref (ad x3)), (4, .int v.1), (5, .int v.2)] [] σ := by
  refine wh_W (P := fun v σ => WW l γ 35 6 ad shC 33 [(0, .ref (ad x0)), (2, .int x2), (3, .ref (ad x3)), (4, .int v.1), (5, .int v.2)] [] σ) (fun v σ h => ?_) h
  have kn : ∀ (v : (Int32 × Int32)) (σ : Hp), WW l γ 35 6 ad shC 33 [(0, .ref (ad x0)), (2, .int x2), (3, .ref (ad x3)), (4, .int v.1), (5, .int v.2)] [] σ → WW l γ 35 6 ad shC 33 [(0, .ref (ad x0)), (2, .int x2), (3, .ref (ad x3)), (4, .int v.1), (5, .int v.2)] [] σ := fun _ _ h => h
  · unfold f_X6_orbit_L33 at h
    refine r_iload hc 4 rfl dX6_orbit_33 ?_
    refine r_aload_n hc 2 rfl rfl dX6_orbit_35 ?_
    obtain ⟨v1, ev1, h⟩ := wp_g h
    refine r_getI hc ev1 fl_X6_126 rfl dX6_orbit_36 ?_
    refine r_icmp_ge hc (tgt := 105) dX6_orbit_39 (by decide) (fun c => ?_) (fun c => ?_)
    · have h := wp_t c h
      refine r_sub [3] (lv' := [(4, .int v.1)]) rfl ?_
      have h := wp_v h
      exact kx105 v.1 _ h
    · have h := wp_f c h
      refine r_aload_n hc 0 rfl rfl dX6_orbit_42 ?_
      obtain ⟨v2, ev2, h⟩ := wp_g h
      refine r_getR hc ev2 fl_X6_41 rfl dX6_orbit_43 ?_
      refine r_aload_n hc 2 rfl rfl dX6_orbit_46 ?_
      refine r_aload_n hc 2 rfl rfl dX6_orbit_47 ?_
      obtain ⟨_, ek5, h⟩ := wp_g h
      obtain ⟨_, σ4, er3, h⟩ := wp_b h
      refine r_callV hc (k0 := v2) mv_X4_freely ml_X6_216 (c_X4_freely er3) (chk_of ek5) cls_4.1 rfl rfl rfl (by decide) rfl (Nat.le_of_ble_eq_true rfl) dX6_orbit_48 ?_
      refine r_aload_n hc 0 rfl rfl dX6_orbit_51 ?_
      obtain ⟨v6, ev6, h⟩ := wp_g h
      refine r_getR hc ev6 fl_X6_41 rfl dX6_orbit_52 ?_
      refine r_aload_n hc 2 rfl rfl dX6_orbit_55 ?_
      obtain ⟨v7, ev7, h⟩ := wp_g h
      refine r_getI hc ev7 fl_X6_126 rfl dX6_orbit_56 ?_
      refine r_bipush hc (v := 7) (by decide) dX6_orbit_59 ?_
      obtain ⟨_, ek10, h⟩ := wp_g h
      obtain ⟨_, σ9, er8, h⟩ := wp_b h
      refine r_callV hc (k0 := v6) mv_X4_bound ml_X6_224 (c_X4_bound er8) (chk_of ek10) cls_4.1 rfl rfl rfl (by decide) rfl (Nat.le_of_ble_eq_true rfl) dX6_orbit_61 ?_
      refine r_aload_n hc 0 rfl rfl dX6_orbit_64 ?_
      obtain ⟨v11, ev11, h⟩ := wp_g h
      refine r_getR hc ev11 fl_X6_41 rfl dX6_orbit_65 ?_
      obtain ⟨v12, ev12, h⟩ := wp_g h
      refine r_getR hc ev12 fl_X6_239 rfl dX6_orbit_68 ?_
      refine r_iload_n hc 1 rfl rfl dX6_orbit_71 ?_
      refine r_dup2 hc rfl rfl dX6_orbit_72 ?_
      obtain ⟨v13, ev13, h⟩ := wp_g h
      refine r_iald hc ev13 dX6_orbit_73 ?_
      refine r_iconst hc (v := 1) (by decide) dX6_orbit_74 ?_
      refine r_iload hc 4 rfl dX6_orbit_75 ?_
      refine r_ishl hc dX6_orbit_77 ?_
      refine r_iand hc dX6_orbit_78 ?_
      obtain ⟨σ14, eσ14, h⟩ := wp_g h
      refine r_iast hc eσ14 dX6_orbit_79 ?_
      refine r_aload_n hc 0 rfl rfl dX6_orbit_80 ?_
      obtain ⟨v15, ev15, h⟩ := wp_g h
      refine r_getR hc ev15 fl_X6_41 rfl dX6_orbit_81 ?_
      obtain ⟨_, ek18, h⟩ := wp_g h
      obtain ⟨r16, σ17, er16, h⟩ := wp_b h
      refine r_callV hc (k0 := v15) mv_X4_finds ml_X6_249 (c_X4_finds er16) (chk_of ek18) cls_4.1 rfl rfl rfl (by decide) rfl (Nat.le_of_ble_eq_true rfl) dX6_orbit_84 ?_
      refine r_if_eq hc (tgt := 99) dX6_orbit_87 (by decide) (fun c => ?_) (fun c => ?_)
      · have h := wp_t c h
        exact t_X6_orbit_b99 hc h kn kx105
      · have h := wp_f c h
        refine r_iload hc 3 rfl dX6_orbit_90 ?_
        refine r_iconst hc (v := 1) (by decide) dX6_orbit_92 ?_
        refine r_iload hc 4 rfl dX6_orbit_93 ?_
        refine r_ishl hc dX6_orbit_95 ?_
        refine r_ior hc dX6_orbit_96 ?_
        obtain ⟨t19, et19, h⟩ := wp_l h
        refine r_istoreE hc (i := 4) (lv' := [(4, .int t19), (0, .ref (ad x0)), (2, .int x2), (3, .ref (ad x3)), (5, .int v.2)]) et19 (by decide) rfl dX6_orbit_97 ?_
        refine r_sub [1, 2, 3, 0, 4] (lv' := [(0, .ref (ad x0)), (2, .int x2), (3, .ref (ad x3)), (4, .int t19), (5, .int v.2)]) rfl ?_
        exact t_X6_orbit_b99 hc h kn kx105
noncomputable def f_X6_orbit (x0 : Nat) (x1 : Int32) (x2 : Int32) (σ : Hp) : Option (Int32 × Hp) := gO (chk shC x0 6) fun _ => bO (f_X6_noNode x0 x1 x2 σ) fun r1 σ2 => if r1 = 0 then (gO (chk shC x0 6) fun _ => bO (f_X6_in x0 x1 σ2) fun r4 σ5 => gO (chk shC r4 1) fun _ => bO (f_X1_isEmpty r4 σ5) fun r7 σ8 => if r7 = 0 then (bO (wh (f_X6_orbit_L33 x0 x2 r4) (0, 0) σ8) fun y10 σ11 => (some (y10, σ11))) else (some ((-2), σ8))) else (some ((-1), σ2))
set_option maxRecDepth 100000 in
set_option maxHeartbeats 4000000 in
theorem t_X6_orbit {l : Launch} {γ : Gm} {ad : Nat → Nat} {K : Option Value → Hp → Prop} (hc : Cx l γ 35 6 ad shC RX6 cX6_orbit (some .int) K) {x0 : Nat} {x1 : Int32} {x2 : Int32} {σ : Hp} (h : wpO (f_X6_orbit x0 x1 x2 σ) (KI K)) : WW l γ 35 6 ad shC 0 [(0, .ref (ad x0)), (1, .int x1), (2, .int x2)] [] σ := by
  unfold f_X6_orbit at h
  refine r_aload_n hc 0 rfl rfl dX6_orbit_0 ?_
  refine r_iload_n hc 1 rfl rfl dX6_orbit_1 ?_
  refine r_iload_n hc 2 rfl rfl dX6_orbit_2 ?_
  obtain ⟨_, ek3, h⟩ := wp_g h
  obtain ⟨r1, σ2, er1, h⟩ := wp_b h
  refine r_callV hc (k0 := x0) mv_X6_noNode ml_X6_112 (c_X6_noNode er1) (chk_of ek3) cls_6.1 rfl rfl rfl (by decide) rfl (Nat.le_of_ble_eq_true rfl) dX6_orbit_3 ?_
  refine r_if_eq hc (tgt := 11) dX6_orbit_6 (by decide) (fun c => ?_) (fun c => ?_)
  · have h := wp_t c h
    refine r_aload_n hc 0 rfl rfl dX6_orbit_11 ?_
    refine r_iload_n hc 1 rfl rfl dX6_orbit_12 ?_
    obtain ⟨_, ek6, h⟩ := wp_g h
    obtain ⟨r4, σ5, er4, h⟩ := wp_b h
    refine r_callV hc (k0 := x0) mv_X6_in ml_X6_91 (c_X6_in er4) (chk_of ek6) cls_6.1 rfl rfl rfl (by decide) rfl (Nat.le_of_ble_eq_true rfl) dX6_orbit_13 ?_
    refine r_astore_n hc (i := 3) (lv' := [(3, .ref (ad r4)), (0, .ref (ad x0)), (1, .int x1), (2, .int x2)]) rfl (by decide) rfl dX6_orbit_16 ?_
    refine r_aload_n hc 0 rfl rfl dX6_orbit_17 ?_
    obtain ⟨_, ek9, h⟩ := wp_g h
    obtain ⟨r7, σ8, er7, h⟩ := wp_b h
    refine r_callV hc (k0 := r4) mv_X1_isEmpty ml_X6_109 (c_X1_isEmpty er7) (chk_of ek9) cls_1.1 rfl rfl rfl (by decide) rfl (Nat.le_of_ble_eq_true rfl) dX6_orbit_18 ?_
    refine r_if_eq hc (tgt := 27) dX6_orbit_21 (by decide) (fun c => ?_) (fun c => ?_)
    · have h := wp_t c h
      refine r_iconst hc (v := 0) (by decide) dX6_orbit_27 ?_
      refine r_istoreE hc (i := 4) (lv' := [(4, .int 0), (3, .ref (ad r4)), (0, .ref (ad x0)), (1, .int x1), (2, .int x2)]) rfl (by decide) rfl dX6_orbit_28 ?_
      refine r_iconst hc (v := 0) (by decide) dX6_orbit_30 ?_
      refine r_istoreE hc (i := 5) (lv' := [(5, .int 0), (4, .int 0), (3, .ref (ad r4)), (0, .ref (ad x0)), (1, .int x1), (2, .int x2)]) rfl (by decide) rfl dX6_orbit_31 ?_
      refine r_sub [3, 5, 2, 1, 0] (lv' := [(0, .ref (ad x0)), (2, .int x2), (3, .ref (ad r4)), (4, .int 0), (5, .int 0)]) rfl ?_
      refine t_X6_orbit_L33 hc (wp_bb h) ?_
      · intro y10 σ11 h
        refine r_iload hc 0 rfl dX6_orbit_105 ?_
        have h := wp_v h
        exact r_iret hc h dX6_orbit_107
    · have h := wp_f c h
      refine r_bipush hc (v := (-2)) (by decide) dX6_orbit_24 ?_
      have h := wp_v h
      exact r_iret hc h dX6_orbit_26
  · have h := wp_f c h
    refine r_iconst hc (v := (-1)) (by decide) dX6_orbit_9 ?_
    have h := wp_v h
    exact r_iret hc h dX6_orbit_10
theorem c_X6_orbit {l : Launch} {x0 : Nat} {x1 : Int32} {x2 : Int32} {σ σ' : Hp} {r : Int32} (h : f_X6_orbit x0 x1 x2 σ = some (r, σ')) : Mt l yX6_orbit cX6_orbit 6 (some .int) 35 shC (fun ad => [.ref (ad x0), .int x1, .int x2]) σ (fun ad => some (.int r)) σ' := mt_i (own := RX6) (by decide) rfl (fun _ => Nat.le_of_ble_eq_true rfl) (fun γ ad K hc hk => t_X6_orbit hc ⟨_, _, h, hk⟩)

-- NetMaps.sumOver(LNetMaps$Net;I[I)I
theorem dX6_sumOver_0 : decode cX6_sumOver 0 = .ok (.iconst 0, 1) := by decide +kernel
theorem dX6_sumOver_1 : decode cX6_sumOver 1 = .ok (.istore_n 3, 1) := by decide +kernel
theorem dX6_sumOver_2 : decode cX6_sumOver 2 = .ok (.iconst 0, 1) := by decide +kernel
theorem dX6_sumOver_3 : decode cX6_sumOver 3 = .ok (.istore 4, 2) := by decide +kernel
theorem dX6_sumOver_5 : decode cX6_sumOver 5 = .ok (.iload 4, 2) := by decide +kernel
theorem dX6_sumOver_7 : decode cX6_sumOver 7 = .ok (.aload_n 0, 1) := by decide +kernel
theorem dX6_sumOver_8 : decode cX6_sumOver 8 = .ok (.getfield 126, 3) := by decide +kernel
theorem dX6_sumOver_11 : decode cX6_sumOver 11 = .ok (.if_icmp .ge 32, 3) := by decide +kernel
theorem dX6_sumOver_14 : decode cX6_sumOver 14 = .ok (.iload 4, 2) := by decide +kernel
theorem dX6_sumOver_16 : decode cX6_sumOver 16 = .ok (.aload_n 2, 1) := by decide +kernel
theorem dX6_sumOver_17 : decode cX6_sumOver 17 = .ok (.arraylength, 1) := by decide +kernel
theorem dX6_sumOver_18 : decode cX6_sumOver 18 = .ok (.if_icmp .ge 25, 3) := by decide +kernel
theorem dX6_sumOver_21 : decode cX6_sumOver 21 = .ok (.iload_n 1, 1) := by decide +kernel
theorem dX6_sumOver_22 : decode cX6_sumOver 22 = .ok (.iload 4, 2) := by decide +kernel
theorem dX6_sumOver_24 : decode cX6_sumOver 24 = .ok (.invokestatic 203, 3) := by decide +kernel
theorem dX6_sumOver_27 : decode cX6_sumOver 27 = .ok (.ifCond .eq 10, 3) := by decide +kernel
theorem dX6_sumOver_30 : decode cX6_sumOver 30 = .ok (.iload_n 3, 1) := by decide +kernel
theorem dX6_sumOver_31 : decode cX6_sumOver 31 = .ok (.aload_n 2, 1) := by decide +kernel
theorem dX6_sumOver_32 : decode cX6_sumOver 32 = .ok (.iload 4, 2) := by decide +kernel
theorem dX6_sumOver_34 : decode cX6_sumOver 34 = .ok (.iaload, 1) := by decide +kernel
theorem dX6_sumOver_35 : decode cX6_sumOver 35 = .ok (.iadd, 1) := by decide +kernel
theorem dX6_sumOver_36 : decode cX6_sumOver 36 = .ok (.istore_n 3, 1) := by decide +kernel
theorem dX6_sumOver_37 : decode cX6_sumOver 37 = .ok (.iinc 4 1, 3) := by decide +kernel
theorem dX6_sumOver_40 : decode cX6_sumOver 40 = .ok (.goto (-35), 3) := by decide +kernel
theorem dX6_sumOver_43 : decode cX6_sumOver 43 = .ok (.iload_n 3, 1) := by decide +kernel
theorem dX6_sumOver_44 : decode cX6_sumOver 44 = .ok (.ireturn, 1) := by decide +kernel
noncomputable def f_X6_sumOver_b37 (x0 : Nat) (x1 : Int32) (x2 : Nat) (x3 : Int32) (x4 : Int32) (σ : Hp) : Option (((Int32 × Int32) ⊕ (Int32)) × Hp) := some (Sum.inl (x3, (x4 + 1)), σ)
set_option maxRecDepth 100000 in
set_option maxHeartbeats 4000000 in
theorem t_X6_sumOver_b37 {l : Launch} {γ : Gm} {ad : Nat → Nat} {K : Option Value → Hp → Prop} (hc : Cx l γ 2 5 ad shC RX6 cX6_sumOver (some .int) K) {x0 : Nat} {x1 : Int32} {x2 : Nat} {x3 : Int32} {x4 : Int32}  {σ : Hp} {KL : ((Int32 × Int32) ⊕ (Int32)) → Hp → Prop} (h : wpO (f_X6_sumOver_b37 x0 x1 x2 x3 x4 σ) KL) (kn : ∀ (v : (Int32 × Int32)) (σ : Hp), KL (Sum.inl v) σ → WW l γ 2 5 ad shC 5 [(0, .ref (ad x0)), (1, .int x1), (2, .ref (ad x2)), (3, .int v.1), (4, .int v.2)] [] σ) (kx43 : ∀ (v : Int32) (σ : Hp), KL (Sum.inr v) σ → WW l γ 2 5 ad shC 43 [(3, .int v)] [] σ) : WW l γ 2 5 ad shC 37 [(0, .ref (ad x0)), (1, .int x1), (2, .ref (ad x2)), (3, .int x3), (4, .int x4)] [] σ := by
  unfold f_X6_sumOver_b37 at h
  refine r_iincE hc (j := 4) (w := 1) (lv' := [(4, .int (x4 + 1)), (0, .ref (ad x0)), (1, .int x1), (2, .ref (ad x2)), (3, .int x3)]) rfl (by decide) rfl (by decide) rfl dX6_sumOver_37 ?_
  refine r_goto hc (tgt := 5) dX6_sumOver_40 (by decide) ?_
  refine r_sub [1, 2, 3, 4, 0] (lv' := [(0, .ref (ad x0)), (1, .int x1), (2, .ref (ad x2)), (3, .int x3), (4, .int (x4 + 1))]) rfl ?_
  have h := wp_v h
  exact kn (x3, (x4 + 1)) _ h
noncomputable def f_X6_sumOver_L5 (x0 : Nat) (x1 : Int32) (x2 : Nat) (v : (Int32 × Int32)) (σ : Hp) : Option (((Int32 × Int32) ⊕ (Int32)) × Hp) := gO (getI shC 1 x0 0 σ) fun v1 => if v1 ≤ v.2 then (some (Sum.inr v.1, σ)) else (gO (alen shC 0 x2) fun v2 => if v2 ≤ v.2 then (some (Sum.inr v.1, σ)) else (bO (f_X6_has x1 v.2 σ) fun r3 σ4 => if r3 = 0 then (f_X6_sumOver_b37 x0 x1 x2 v.1 v.2 σ4) else (gO (aldI shC 0 x2 v.2 σ4) fun v5 => f_X6_sumOver_b37 x0 x1 x2 (v.1 + v5) v.2 σ4)))
set_option maxRecDepth 100000 in
set_option maxHeartbeats 4000000 in
theorem t_X6_sumOver_L5 {l : Launch} {γ : Gm} {ad : Nat → Nat} {K : Option Value → Hp → Prop}  (hc : Cx l γ 2 5 ad shC RX6 cX6_sumOver (some .int) K) {x0 : Nat} {x1 : Int32} {x2 : Nat} {v : (Int32 × Int32)} {σ : Hp} {KX : (Int32) → Hp → Prop} (h : wpO (wh (f_X6_sumOver_L5 x0 x1 x2) v σ) KX) (kx43 : ∀ (v : Int32) (σ : Hp), KX v σ → WW l γ 2 5 ad shC 43 [(3, .int v)] [] σ) : WW l γ 2 5 ad shC 5 [(0, .ref (ad x0)), (1, .int x1), (2, .ref (ad x2)), (3, .int v.1), (4, .int v.2)] [] σ := by
  refine wh_W (P := fun v σ => WW l γ 2 5 ad shC 5 [(0, .ref (ad x0)), (1, .int x1), (2, .ref (ad x2)), (3, .int v.1), (4, .int v.2)] [] σ) (fun v σ h => ?_) h
  have kn : ∀ (v : (Int32 × Int32)) (σ : Hp), WW l γ 2 5 ad shC 5 [(0, .ref (ad x0)), (1, .int x1), (2, .ref (ad x2)), (3, .int v.1), (4, .int v.2)] [] σ → WW l γ 2 5 ad shC 5 [(0, .ref (ad x0)), (1, .int x1), (2, .ref (ad x2)), (3, .int v.1), (4, .int v.2)] [] σ := fun _ _ h => h
  · unfold f_X6_sumOver_L5 at h
    refine r_iload hc 4 rfl dX6_sumOver_5 ?_
    refine r_aload_n hc 0 rfl rfl dX6_sumOver_7 ?_
    obtain ⟨v1, ev1, h⟩ := wp_g h
    refine r_getI hc ev1 fl_X6_126 rfl dX6_sumOver_8 ?_
    refine r_icmp_ge hc (tgt := 43) dX6_sumOver_11 (by decide) (fun c => ?_) (fun c => ?_)
    · have h := wp_t c h
      refine r_sub [3] (lv' := [(3, .int v.1)]) rfl ?_
      have h := wp_v h
      exact kx43 v.1 _ h
    · have h := wp_f c h
      refine r_iload hc 4 rfl dX6_sumOver_14 ?_
      refine r_aload_n hc 2 rfl rfl dX6_sumOver_16 ?_
      obtain ⟨v2, ev2, h⟩ := wp_g h
      refine r_alen hc ev2 dX6_sumOver_17 ?_
      refine r_icmp_ge hc (tgt := 43) dX6_sumOver_18 (by decide) (fun c => ?_) (fun c => ?_)
      · have h := wp_t c h
        refine r_sub [3] (lv' := [(3, .int v.1)]) rfl ?_
        have h := wp_v h
        exact kx43 v.1 _ h
      · have h := wp_f c h
        refine r_iload_n hc 1 rfl rfl dX6_sumOver_21 ?_
        refine r_iload hc 4 rfl dX6_sumOver_22 ?_
        obtain ⟨r3, σ4, er3, h⟩ := wp_b h
        refine r_callS hc ms_X6_has ml_X6_203 (c_X6_has er3) rfl rfl (by decide) rfl (Nat.le_of_ble_eq_true rfl) dX6_sumOver_24 ?_
        refine r_if_eq hc (tgt := 37) dX6_sumOver_27 (by decide) (fun c => ?_) (fun c => ?_)
        · have h := wp_t c h
          exact t_X6_sumOver_b37 hc h kn kx43
        · have h := wp_f c h
          refine r_iload_n hc 3 rfl rfl dX6_sumOver_30 ?_
          refine r_aload_n hc 2 rfl rfl dX6_sumOver_31 ?_
          refine r_iload hc 4 rfl dX6_sumOver_32 ?_
          obtain ⟨v5, ev5, h⟩ := wp_g h
          refine r_iald hc ev5 dX6_sumOver_34 ?_
          refine r_iadd hc dX6_sumOver_35 ?_
          refine r_istore_nE hc (i := 3) (lv' := [(3, .int (v.1 + v5)), (0, .ref (ad x0)), (1, .int x1), (2, .ref (ad x2)), (4, .int v.2)]) rfl rfl (by decide) rfl dX6_sumOver_36 ?_
          refine r_sub [1, 2, 3, 0, 4] (lv' := [(0, .ref (ad x0)), (1, .int x1), (2, .ref (ad x2)), (3, .int (v.1 + v5)), (4, .int v.2)]) rfl ?_
          exact t_X6_sumOver_b37 hc h kn kx43
noncomputable def f_X6_sumOver_b43 (x3 : Int32) (σ : Hp) : Option (Int32 × Hp) := some (x3, σ)
set_option maxRecDepth 100000 in
set_option maxHeartbeats 4000000 in
theorem t_X6_sumOver_b43 {l : Launch} {γ : Gm} {ad : Nat → Nat} {K : Option Value → Hp → Prop} (hc : Cx l γ 2 5 ad shC RX6 cX6_sumOver (some .int) K) {x3 : Int32} {σ : Hp} (h : wpO (f_X6_sumOver_b43 x3 σ) (KI K)) : WW l γ 2 5 ad shC 43 [(3, .int x3)] [] σ := by
  unfold f_X6_sumOver_b43 at h
  refine r_iload_n hc 0 rfl rfl dX6_sumOver_43 ?_
  have h := wp_v h
  exact r_iret hc h dX6_sumOver_44
noncomputable def f_X6_sumOver (x0 : Nat) (x1 : Int32) (x2 : Nat) (σ : Hp) : Option (Int32 × Hp) := bO (wh (f_X6_sumOver_L5 x0 x1 x2) (0, 0) σ) fun y1 σ2 => (f_X6_sumOver_b43 y1 σ2)
set_option maxRecDepth 100000 in
set_option maxHeartbeats 4000000 in
theorem t_X6_sumOver {l : Launch} {γ : Gm} {ad : Nat → Nat} {K : Option Value → Hp → Prop} (hc : Cx l γ 2 5 ad shC RX6 cX6_sumOver (some .int) K) {x0 : Nat} {x1 : Int32} {x2 : Nat} {σ : Hp} (h : wpO (f_X6_sumOver x0 x1 x2 σ) (KI K)) : WW l γ 2 5 ad shC 0 [(0, .ref (ad x0)), (1, .int x1), (2, .ref (ad x2))] [] σ := by
  unfold f_X6_sumOver at h
  refine r_iconst hc (v := 0) (by decide) dX6_sumOver_0 ?_
  refine r_istore_nE hc (i := 3) (lv' := [(3, .int 0), (0, .ref (ad x0)), (1, .int x1), (2, .ref (ad x2))]) rfl rfl (by decide) rfl dX6_sumOver_1 ?_
  refine r_iconst hc (v := 0) (by decide) dX6_sumOver_2 ?_
  refine r_istoreE hc (i := 4) (lv' := [(4, .int 0), (3, .int 0), (0, .ref (ad x0)), (1, .int x1), (2, .ref (ad x2))]) rfl (by decide) rfl dX6_sumOver_3 ?_
  refine r_sub [2, 3, 4, 1, 0] (lv' := [(0, .ref (ad x0)), (1, .int x1), (2, .ref (ad x2)), (3, .int 0), (4, .int 0)]) rfl ?_
  refine t_X6_sumOver_L5 hc (wp_bb h) ?_
  · intro y1 σ2 h
    exact t_X6_sumOver_b43 hc h
theorem c_X6_sumOver {l : Launch} {x0 : Nat} {x1 : Int32} {x2 : Nat} {σ σ' : Hp} {r : Int32} (h : f_X6_sumOver x0 x1 x2 σ = some (r, σ')) : Mt l yX6_sumOver cX6_sumOver 5 (some .int) 2 shC (fun ad => [.ref (ad x0), .int x1, .ref (ad x2)]) σ (fun ad => some (.int r)) σ' := mt_i (own := RX6) (by decide) rfl (fun _ => Nat.le_of_ble_eq_true rfl) (fun γ ad K hc hk => t_X6_sumOver hc ⟨_, _, h, hk⟩)

-- NetMaps.ways(IIII)I
theorem dX6_ways_0 : decode cX6_ways 0 = .ok (.aload_n 0, 1) := by decide +kernel
theorem dX6_ways_1 : decode cX6_ways 1 = .ok (.iload_n 1, 1) := by decide +kernel
theorem dX6_ways_2 : decode cX6_ways 2 = .ok (.iload_n 2, 1) := by decide +kernel
theorem dX6_ways_3 : decode cX6_ways 3 = .ok (.invokevirtual 112, 3) := by decide +kernel
theorem dX6_ways_6 : decode cX6_ways 6 = .ok (.ifCond .ne 24, 3) := by decide +kernel
theorem dX6_ways_9 : decode cX6_ways 9 = .ok (.aload_n 0, 1) := by decide +kernel
theorem dX6_ways_10 : decode cX6_ways 10 = .ok (.iload_n 1, 1) := by decide +kernel
theorem dX6_ways_11 : decode cX6_ways 11 = .ok (.iload_n 3, 1) := by decide +kernel
theorem dX6_ways_12 : decode cX6_ways 12 = .ok (.invokevirtual 112, 3) := by decide +kernel
theorem dX6_ways_15 : decode cX6_ways 15 = .ok (.ifCond .ne 15, 3) := by decide +kernel
theorem dX6_ways_18 : decode cX6_ways 18 = .ok (.iload 4, 2) := by decide +kernel
theorem dX6_ways_20 : decode cX6_ways 20 = .ok (.ifCond .lt 10, 3) := by decide +kernel
theorem dX6_ways_23 : decode cX6_ways 23 = .ok (.iload 4, 2) := by decide +kernel
theorem dX6_ways_25 : decode cX6_ways 25 = .ok (.bipush 9, 2) := by decide +kernel
theorem dX6_ways_27 : decode cX6_ways 27 = .ok (.if_icmp .le 5, 3) := by decide +kernel
theorem dX6_ways_30 : decode cX6_ways 30 = .ok (.iconst (-1), 1) := by decide +kernel
theorem dX6_ways_31 : decode cX6_ways 31 = .ok (.ireturn, 1) := by decide +kernel
theorem dX6_ways_32 : decode cX6_ways 32 = .ok (.aload_n 0, 1) := by decide +kernel
theorem dX6_ways_33 : decode cX6_ways 33 = .ok (.iload_n 1, 1) := by decide +kernel
theorem dX6_ways_34 : decode cX6_ways 34 = .ok (.invokevirtual 91, 3) := by decide +kernel
theorem dX6_ways_37 : decode cX6_ways 37 = .ok (.astore 5, 2) := by decide +kernel
theorem dX6_ways_39 : decode cX6_ways 39 = .ok (.aload 5, 2) := by decide +kernel
theorem dX6_ways_41 : decode cX6_ways 41 = .ok (.invokevirtual 109, 3) := by decide +kernel
theorem dX6_ways_44 : decode cX6_ways 44 = .ok (.ifCond .eq 6, 3) := by decide +kernel
theorem dX6_ways_47 : decode cX6_ways 47 = .ok (.bipush (-2), 2) := by decide +kernel
theorem dX6_ways_49 : decode cX6_ways 49 = .ok (.ireturn, 1) := by decide +kernel
theorem dX6_ways_50 : decode cX6_ways 50 = .ok (.aload_n 0, 1) := by decide +kernel
theorem dX6_ways_51 : decode cX6_ways 51 = .ok (.getfield 59, 3) := by decide +kernel
theorem dX6_ways_54 : decode cX6_ways 54 = .ok (.astore 6, 2) := by decide +kernel
theorem dX6_ways_56 : decode cX6_ways 56 = .ok (.aload_n 0, 1) := by decide +kernel
theorem dX6_ways_57 : decode cX6_ways 57 = .ok (.getfield 62, 3) := by decide +kernel
theorem dX6_ways_60 : decode cX6_ways 60 = .ok (.astore 7, 2) := by decide +kernel
theorem dX6_ways_62 : decode cX6_ways 62 = .ok (.iconst 0, 1) := by decide +kernel
theorem dX6_ways_63 : decode cX6_ways 63 = .ok (.istore 8, 2) := by decide +kernel
theorem dX6_ways_65 : decode cX6_ways 65 = .ok (.iload 8, 2) := by decide +kernel
theorem dX6_ways_67 : decode cX6_ways 67 = .ok (.aload 5, 2) := by decide +kernel
theorem dX6_ways_69 : decode cX6_ways 69 = .ok (.getfield 126, 3) := by decide +kernel
theorem dX6_ways_72 : decode cX6_ways 72 = .ok (.if_icmp .ge 25, 3) := by decide +kernel
theorem dX6_ways_75 : decode cX6_ways 75 = .ok (.aload 6, 2) := by decide +kernel
theorem dX6_ways_77 : decode cX6_ways 77 = .ok (.iload 8, 2) := by decide +kernel
theorem dX6_ways_79 : decode cX6_ways 79 = .ok (.iload 8, 2) := by decide +kernel
theorem dX6_ways_81 : decode cX6_ways 81 = .ok (.iload_n 2, 1) := by decide +kernel
theorem dX6_ways_82 : decode cX6_ways 82 = .ok (.if_icmp .ne 7, 3) := by decide +kernel
theorem dX6_ways_85 : decode cX6_ways 85 = .ok (.iconst 1, 1) := by decide +kernel
theorem dX6_ways_86 : decode cX6_ways 86 = .ok (.goto 4, 3) := by decide +kernel
theorem dX6_ways_89 : decode cX6_ways 89 = .ok (.iconst 0, 1) := by decide +kernel
theorem dX6_ways_90 : decode cX6_ways 90 = .ok (.iastore, 1) := by decide +kernel
theorem dX6_ways_91 : decode cX6_ways 91 = .ok (.iinc 8 1, 3) := by decide +kernel
theorem dX6_ways_94 : decode cX6_ways 94 = .ok (.goto (-29), 3) := by decide +kernel
theorem dX6_ways_97 : decode cX6_ways 97 = .ok (.iconst 0, 1) := by decide +kernel
theorem dX6_ways_98 : decode cX6_ways 98 = .ok (.istore 8, 2) := by decide +kernel
theorem dX6_ways_100 : decode cX6_ways 100 = .ok (.iload 8, 2) := by decide +kernel
theorem dX6_ways_102 : decode cX6_ways 102 = .ok (.iload 4, 2) := by decide +kernel
theorem dX6_ways_104 : decode cX6_ways 104 = .ok (.if_icmp .ge 60, 3) := by decide +kernel
theorem dX6_ways_107 : decode cX6_ways 107 = .ok (.iconst 0, 1) := by decide +kernel
theorem dX6_ways_108 : decode cX6_ways 108 = .ok (.istore 9, 2) := by decide +kernel
theorem dX6_ways_110 : decode cX6_ways 110 = .ok (.iload 9, 2) := by decide +kernel
theorem dX6_ways_112 : decode cX6_ways 112 = .ok (.aload 5, 2) := by decide +kernel
theorem dX6_ways_114 : decode cX6_ways 114 = .ok (.getfield 126, 3) := by decide +kernel
theorem dX6_ways_117 : decode cX6_ways 117 = .ok (.if_icmp .ge 29, 3) := by decide +kernel
theorem dX6_ways_120 : decode cX6_ways 120 = .ok (.aload 7, 2) := by decide +kernel
theorem dX6_ways_122 : decode cX6_ways 122 = .ok (.iload 9, 2) := by decide +kernel
theorem dX6_ways_124 : decode cX6_ways 124 = .ok (.aload 5, 2) := by decide +kernel
theorem dX6_ways_126 : decode cX6_ways 126 = .ok (.aload 5, 2) := by decide +kernel
theorem dX6_ways_128 : decode cX6_ways 128 = .ok (.getfield 156, 3) := by decide +kernel
theorem dX6_ways_131 : decode cX6_ways 131 = .ok (.iload 9, 2) := by decide +kernel
theorem dX6_ways_133 : decode cX6_ways 133 = .ok (.iaload, 1) := by decide +kernel
theorem dX6_ways_134 : decode cX6_ways 134 = .ok (.aload 6, 2) := by decide +kernel
theorem dX6_ways_136 : decode cX6_ways 136 = .ok (.invokestatic 360, 3) := by decide +kernel
theorem dX6_ways_139 : decode cX6_ways 139 = .ok (.iastore, 1) := by decide +kernel
theorem dX6_ways_140 : decode cX6_ways 140 = .ok (.iinc 9 1, 3) := by decide +kernel
theorem dX6_ways_143 : decode cX6_ways 143 = .ok (.goto (-33), 3) := by decide +kernel
theorem dX6_ways_146 : decode cX6_ways 146 = .ok (.aload 6, 2) := by decide +kernel
theorem dX6_ways_148 : decode cX6_ways 148 = .ok (.astore 9, 2) := by decide +kernel
theorem dX6_ways_150 : decode cX6_ways 150 = .ok (.aload 7, 2) := by decide +kernel
theorem dX6_ways_152 : decode cX6_ways 152 = .ok (.astore 6, 2) := by decide +kernel
theorem dX6_ways_154 : decode cX6_ways 154 = .ok (.aload 9, 2) := by decide +kernel
theorem dX6_ways_156 : decode cX6_ways 156 = .ok (.astore 7, 2) := by decide +kernel
theorem dX6_ways_158 : decode cX6_ways 158 = .ok (.iinc 8 1, 3) := by decide +kernel
theorem dX6_ways_161 : decode cX6_ways 161 = .ok (.goto (-61), 3) := by decide +kernel
theorem dX6_ways_164 : decode cX6_ways 164 = .ok (.aload 6, 2) := by decide +kernel
theorem dX6_ways_166 : decode cX6_ways 166 = .ok (.iload_n 3, 1) := by decide +kernel
theorem dX6_ways_167 : decode cX6_ways 167 = .ok (.iaload, 1) := by decide +kernel
theorem dX6_ways_168 : decode cX6_ways 168 = .ok (.ireturn, 1) := by decide +kernel
noncomputable def f_X6_ways_b30  (σ : Hp) : Option (Int32 × Hp) := some ((-1), σ)
set_option maxRecDepth 100000 in
set_option maxHeartbeats 4000000 in
theorem t_X6_ways_b30 {l : Launch} {γ : Gm} {ad : Nat → Nat} {K : Option Value → Hp → Prop} (hc : Cx l γ 3 10 ad shC RX6 cX6_ways (some .int) K)  {σ : Hp} (h : wpO (f_X6_ways_b30  σ) (KI K)) : WW l γ 3 10 ad shC 30 [] [] σ := by
  unfold f_X6_ways_b30 at h
  refine r_iconst hc (v := (-1)) (by decide) dX6_ways_30 ?_
  have h := wp_v h
  exact r_iret hc h dX6_ways_31
noncomputable def f_X6_ways_b90 (x2 : Int32) (x3 : Int32) (x4 : Int32) (x5 : Nat) (x6 : Nat) (x7 : Nat) (x8 : Int32) (s0 : Nat) (s1 : Int32) (s2 : Int32) (σ : Hp) : Option (((Int32) ⊕ (Unit)) × Hp) := gO (astI shC 0 s0 s1 s2 σ) fun σ1 => some (Sum.inl (x8 + 1), σ1)
set_option maxRecDepth 100000 in
set_option maxHeartbeats 4000000 in
theorem t_X6_ways_b90 {l : Launch} {γ : Gm} {ad : Nat → Nat} {K : Option Value → Hp → Prop} (hc : Cx l γ 3 10 ad shC RX6 cX6_ways (some .int) K) {x2 : Int32} {x3 : Int32} {x4 : Int32} {x5 : Nat} {x6 : Nat} {x7 : Nat} {x8 : Int32} {s0 : Nat} {s1 : Int32} {s2 : Int32}  {σ : Hp} {KL : ((Int32) ⊕ (Unit)) → Hp → Prop} (h : wpO (f_X6_ways_b90 x2 x3 x4 x5 x6 x7 x8 s0 s1 s2 σ) KL) (kn : ∀ (v : (Int32)) (σ : Hp), KL (Sum.inl v) σ → WW l γ 3 10 ad shC 65 [(2, .int x2), (3, .int x3), (4, .int x4), (5, .ref (ad x5)), (6, .ref (ad x6)), (7, .ref (ad x7)), (8, .int v)] [] σ) (kx97 : ∀ (v : Unit) (σ : Hp), KL (Sum.inr v) σ → WW l γ 3 10 ad shC 97 [(3, .int x3), (4, .int x4), (5, .ref (ad x5)), (6, .ref (ad x6)), (7, .ref (ad x7))] [] σ) : WW l γ 3 10 ad shC 90 [(2, .int x2), (3, .int x3), (4, .int x4), (5, .ref (ad x5)), (6, .ref (ad x6)), (7, .ref (ad x7)), (8, .int x8)] [.int s2, .int s1, .ref (ad s0)] σ := by
  unfold f_X6_ways_b90 at h
  obtain ⟨σ1, eσ1, h⟩ := wp_g h
  refine r_iast hc eσ1 dX6_ways_90 ?_
  refine r_iincE hc (j := 6) (w := 1) (lv' := [(8, .int (x8 + 1)), (2, .int x2), (3, .int x3), (4, .int x4), (5, .ref (ad x5)), (6, .ref (ad x6)), (7, .ref (ad x7))]) rfl (by decide) rfl (by decide) rfl dX6_ways_91 ?_
  refine r_goto hc (tgt := 65) dX6_ways_94 (by decide) ?_
  refine r_sub [1, 2, 3, 4, 5, 6, 0] (lv' := [(2, .int x2), (3, .int x3), (4, .int x4), (5, .ref (ad x5)), (6, .ref (ad x6)), (7, .ref (ad x7)), (8, .int (x8 + 1))]) rfl ?_
  have h := wp_v h
  exact kn (x8 + 1) _ h
noncomputable def f_X6_ways_L65 (x2 : Int32) (x3 : Int32) (x4 : Int32) (x5 : Nat) (x6 : Nat) (x7 : Nat) (v : (Int32)) (σ : Hp) : Option (((Int32) ⊕ (Unit)) × Hp) := gO (getI shC 1 x5 0 σ) fun v1 => if v1 ≤ v then (some (Sum.inr (), σ)) else (if v = x2 then (f_X6_ways_b90 x2 x3 x4 x5 x6 x7 v x6 v 1 σ) else (f_X6_ways_b90 x2 x3 x4 x5 x6 x7 v x6 v 0 σ))
set_option maxRecDepth 100000 in
set_option maxHeartbeats 4000000 in
theorem t_X6_ways_L65 {l : Launch} {γ : Gm} {ad : Nat → Nat} {K : Option Value → Hp → Prop}  (hc : Cx l γ 3 10 ad shC RX6 cX6_ways (some .int) K) {x2 : Int32} {x3 : Int32} {x4 : Int32} {x5 : Nat} {x6 : Nat} {x7 : Nat} {v : (Int32)} {σ : Hp} {KX : (Unit) → Hp → Prop} (h : wpO (wh (f_X6_ways_L65 x2 x3 x4 x5 x6 x7) v σ) KX) (kx97 : ∀ (v : Unit) (σ : Hp), KX v σ → WW l γ 3 10 ad shC 97 [(3, .int x3), (4, .int x4), (5, .ref (ad x5)), (6, .ref (ad x6)), (7, .ref (ad x7))] [] σ) : WW l γ 3 10 ad shC 65 [(2, .int x2), (3, .int x3), (4, .int x4), (5, .ref (ad x5)), (6, .ref (ad x6)), (7, .ref (ad x7)), (8, .int v)] [] σ := by
  refine wh_W (P := fun v σ => WW l γ 3 10 ad shC 65 [(2, .int x2), (3, .int x3), (4, .int x4), (5, .ref (ad x5)), (6, .ref (ad x6)), (7, .ref (ad x7)), (8, .int v)] [] σ) (fun v σ h => ?_) h
  have kn : ∀ (v : (Int32)) (σ : Hp), WW l γ 3 10 ad shC 65 [(2, .int x2), (3, .int x3), (4, .int x4), (5, .ref (ad x5)), (6, .ref (ad x6)), (7, .ref (ad x7)), (8, .int v)] [] σ → WW l γ 3 10 ad shC 65 [(2, .int x2), (3, .int x3), (4, .int x4), (5, .ref (ad x5)), (6, .ref (ad x6)), (7, .ref (ad x7)), (8, .int v)] [] σ := fun _ _ h => h
  · unfold f_X6_ways_L65 at h
    refine r_iload hc 6 rfl dX6_ways_65 ?_
    refine r_aload hc 3 rfl dX6_ways_67 ?_
    obtain ⟨v1, ev1, h⟩ := wp_g h
    refine r_getI hc ev1 fl_X6_126 rfl dX6_ways_69 ?_
    refine r_icmp_ge hc (tgt := 97) dX6_ways_72 (by decide) (fun c => ?_) (fun c => ?_)
    · have h := wp_t c h
      refine r_sub [1, 2, 3, 4, 5] (lv' := [(3, .int x3), (4, .int x4), (5, .ref (ad x5)), (6, .ref (ad x6)), (7, .ref (ad x7))]) rfl ?_
      have h := wp_v h
      exact kx97 () _ h
    · have h := wp_f c h
      refine r_aload hc 4 rfl dX6_ways_75 ?_
      refine r_iload hc 6 rfl dX6_ways_77 ?_
      refine r_iload hc 6 rfl dX6_ways_79 ?_
      refine r_iload_n hc 0 rfl rfl dX6_ways_81 ?_
      refine r_icmp_ne hc (tgt := 89) dX6_ways_82 (by decide) (fun c => ?_) (fun c => ?_)
      · have h := wp_f c h
        refine r_iconst hc (v := 0) (by decide) dX6_ways_89 ?_
        exact t_X6_ways_b90 hc h kn kx97
      · have h := wp_t c h
        refine r_iconst hc (v := 1) (by decide) dX6_ways_85 ?_
        refine r_goto hc (tgt := 90) dX6_ways_86 (by decide) ?_
        exact t_X6_ways_b90 hc h kn kx97
noncomputable def f_X6_ways_L110 (x3 : Int32) (x4 : Int32) (x5 : Nat) (x6 : Nat) (x7 : Nat) (x8 : Int32) (v : (Int32)) (σ : Hp) : Option (((Int32) ⊕ (Unit)) × Hp) := gO (getI shC 1 x5 0 σ) fun v1 => if v1 ≤ v then (some (Sum.inr (), σ)) else (gO (getR shC 1 x5 2 σ) fun v2 => gO (aldI shC 0 v2 v σ) fun v3 => bO (f_X6_sumOver x5 v3 x6 σ) fun r4 σ5 => gO (astI shC 0 x7 v r4 σ5) fun σ6 => some (Sum.inl (v + 1), σ6))
set_option maxRecDepth 100000 in
set_option maxHeartbeats 4000000 in
theorem t_X6_ways_L110 {l : Launch} {γ : Gm} {ad : Nat → Nat} {K : Option Value → Hp → Prop}  (hc : Cx l γ 3 10 ad shC RX6 cX6_ways (some .int) K) {x3 : Int32} {x4 : Int32} {x5 : Nat} {x6 : Nat} {x7 : Nat} {x8 : Int32} {v : (Int32)} {σ : Hp} {KX : (Unit) → Hp → Prop} (h : wpO (wh (f_X6_ways_L110 x3 x4 x5 x6 x7 x8) v σ) KX) (kx146 : ∀ (v : Unit) (σ : Hp), KX v σ → WW l γ 3 10 ad shC 146 [(3, .int x3), (4, .int x4), (5, .ref (ad x5)), (6, .ref (ad x6)), (7, .ref (ad x7)), (8, .int x8)] [] σ) : WW l γ 3 10 ad shC 110 [(3, .int x3), (4, .int x4), (5, .ref (ad x5)), (6, .ref (ad x6)), (7, .ref (ad x7)), (8, .int x8), (9, .int v)] [] σ := by
  refine wh_W (P := fun v σ => WW l γ 3 10 ad shC 110 [(3, .int x3), (4, .int x4), (5, .ref (ad x5)), (6, .ref (ad x6)), (7, .ref (ad x7)), (8, .int x8), (9, .int v)] [] σ) (fun v σ h => ?_) h
  have kn : ∀ (v : (Int32)) (σ : Hp), WW l γ 3 10 ad shC 110 [(3, .int x3), (4, .int x4), (5, .ref (ad x5)), (6, .ref (ad x6)), (7, .ref (ad x7)), (8, .int x8), (9, .int v)] [] σ → WW l γ 3 10 ad shC 110 [(3, .int x3), (4, .int x4), (5, .ref (ad x5)), (6, .ref (ad x6)), (7, .ref (ad x7)), (8, .int x8), (9, .int v)] [] σ := fun _ _ h => h
  · unfold f_X6_ways_L110 at h
    refine r_iload hc 6 rfl dX6_ways_110 ?_
    refine r_aload hc 2 rfl dX6_ways_112 ?_
    obtain ⟨v1, ev1, h⟩ := wp_g h
    refine r_getI hc ev1 fl_X6_126 rfl dX6_ways_114 ?_
    refine r_icmp_ge hc (tgt := 146) dX6_ways_117 (by decide) (fun c => ?_) (fun c => ?_)
    · have h := wp_t c h
      refine r_sub [0, 1, 2, 3, 4, 5] (lv' := [(3, .int x3), (4, .int x4), (5, .ref (ad x5)), (6, .ref (ad x6)), (7, .ref (ad x7)), (8, .int x8)]) rfl ?_
      have h := wp_v h
      exact kx146 () _ h
    · have h := wp_f c h
      refine r_aload hc 4 rfl dX6_ways_120 ?_
      refine r_iload hc 6 rfl dX6_ways_122 ?_
      refine r_aload hc 2 rfl dX6_ways_124 ?_
      refine r_aload hc 2 rfl dX6_ways_126 ?_
      obtain ⟨v2, ev2, h⟩ := wp_g h
      refine r_getR hc ev2 fl_X6_156 rfl dX6_ways_128 ?_
      refine r_iload hc 6 rfl dX6_ways_131 ?_
      obtain ⟨v3, ev3, h⟩ := wp_g h
      refine r_iald hc ev3 dX6_ways_133 ?_
      refine r_aload hc 3 rfl dX6_ways_134 ?_
      obtain ⟨r4, σ5, er4, h⟩ := wp_b h
      refine r_callS hc ms_X6_sumOver ml_X6_360 (c_X6_sumOver er4) rfl rfl (by decide) rfl (Nat.le_of_ble_eq_true rfl) dX6_ways_136 ?_
      obtain ⟨σ6, eσ6, h⟩ := wp_g h
      refine r_iast hc eσ6 dX6_ways_139 ?_
      refine r_iincE hc (j := 6) (w := 1) (lv' := [(9, .int (v + 1)), (3, .int x3), (4, .int x4), (5, .ref (ad x5)), (6, .ref (ad x6)), (7, .ref (ad x7)), (8, .int x8)]) rfl (by decide) rfl (by decide) rfl dX6_ways_140 ?_
      refine r_goto hc (tgt := 110) dX6_ways_143 (by decide) ?_
      refine r_sub [1, 2, 3, 4, 5, 6, 0] (lv' := [(3, .int x3), (4, .int x4), (5, .ref (ad x5)), (6, .ref (ad x6)), (7, .ref (ad x7)), (8, .int x8), (9, .int (v + 1))]) rfl ?_
      have h := wp_v h
      exact kn (v + 1) _ h
noncomputable def f_X6_ways_L100 (x3 : Int32) (x4 : Int32) (x5 : Nat) (v : (Nat × Nat × Int32)) (σ : Hp) : Option (((Nat × Nat × Int32) ⊕ (Nat)) × Hp) := if x4 ≤ v.2.2 then (some (Sum.inr v.1, σ)) else (bO (wh (f_X6_ways_L110 x3 x4 x5 v.1 v.2.1 v.2.2) 0 σ) fun y1 σ2 => (some (Sum.inl (v.2.1, v.1, (v.2.2 + 1)), σ2)))
set_option maxRecDepth 100000 in
set_option maxHeartbeats 4000000 in
theorem t_X6_ways_L100 {l : Launch} {γ : Gm} {ad : Nat → Nat} {K : Option Value → Hp → Prop}  (hc : Cx l γ 3 10 ad shC RX6 cX6_ways (some .int) K) {x3 : Int32} {x4 : Int32} {x5 : Nat} {v : (Nat × Nat × Int32)} {σ : Hp} {KX : (Nat) → Hp → Prop} (h : wpO (wh (f_X6_ways_L100 x3 x4 x5) v σ) KX) (kx164 : ∀ (v : Nat) (σ : Hp), KX v σ → WW l γ 3 10 ad shC 164 [(3, .int x3), (6, .ref (ad v))] [] σ) : WW l γ 3 10 ad shC 100 [(3, .int x3), (4, .int x4), (5, .ref (ad x5)), (6, .ref (ad v.1)), (7, .ref (ad v.2.1)), (8, .int v.2.2)] [] σ := by
  refine wh_W (P := fun v σ => WW l γ 3 10 ad shC 100 [(3, .int x3), (4, .int x4), (5, .ref (ad x5)), (6, .ref (ad v.1)), (7, .ref (ad v.2.1)), (8, .int v.2.2)] [] σ) (fun v σ h => ?_) h
  have kn : ∀ (v : (Nat × Nat × Int32)) (σ : Hp), WW l γ 3 10 ad shC 100 [(3, .int x3), (4, .int x4), (5, .ref (ad x5)), (6, .ref (ad v.1)), (7, .ref (ad v.2.1)), (8, .int v.2.2)] [] σ → WW l γ 3 10 ad shC 100 [(3, .int x3), (4, .int x4), (5, .ref (ad x5)), (6, .ref (ad v.1)), (7, .ref (ad v.2.1)), (8, .int v.2.2)] [] σ := fun _ _ h => h
  · unfold f_X6_ways_L100 at h
    refine r_iload hc 5 rfl dX6_ways_100 ?_
    refine r_iload hc 1 rfl dX6_ways_102 ?_
    refine r_icmp_ge hc (tgt := 164) dX6_ways_104 (by decide) (fun c => ?_) (fun c => ?_)
    · have h := wp_t c h
      refine r_sub [0, 3] (lv' := [(3, .int x3), (6, .ref (ad v.1))]) rfl ?_
      have h := wp_v h
      exact kx164 v.1 _ h
    · have h := wp_f c h
      refine r_iconst hc (v := 0) (by decide) dX6_ways_107 ?_
      refine r_istoreE hc (i := 9) (lv' := [(9, .int 0), (3, .int x3), (4, .int x4), (5, .ref (ad x5)), (6, .ref (ad v.1)), (7, .ref (ad v.2.1)), (8, .int v.2.2)]) rfl (by decide) rfl dX6_ways_108 ?_
      refine r_sub [1, 2, 3, 4, 5, 6, 0] (lv' := [(3, .int x3), (4, .int x4), (5, .ref (ad x5)), (6, .ref (ad v.1)), (7, .ref (ad v.2.1)), (8, .int v.2.2), (9, .int 0)]) rfl ?_
      refine t_X6_ways_L110 hc (wp_bb h) ?_
      · intro y1 σ2 h
        refine r_aload hc 3 rfl dX6_ways_146 ?_
        refine r_astore hc (i := 9) (lv' := [(9, .ref (ad v.1)), (3, .int x3), (4, .int x4), (5, .ref (ad x5)), (6, .ref (ad v.1)), (7, .ref (ad v.2.1)), (8, .int v.2.2)]) (by decide) rfl dX6_ways_148 ?_
        refine r_aload hc 5 rfl dX6_ways_150 ?_
        refine r_astore hc (i := 6) (lv' := [(6, .ref (ad v.2.1)), (9, .ref (ad v.1)), (3, .int x3), (4, .int x4), (5, .ref (ad x5)), (7, .ref (ad v.2.1)), (8, .int v.2.2)]) (by decide) rfl dX6_ways_152 ?_
        refine r_aload hc 1 rfl dX6_ways_154 ?_
        refine r_astore hc (i := 7) (lv' := [(7, .ref (ad v.1)), (6, .ref (ad v.2.1)), (9, .ref (ad v.1)), (3, .int x3), (4, .int x4), (5, .ref (ad x5)), (8, .int v.2.2)]) (by decide) rfl dX6_ways_156 ?_
        refine r_iincE hc (j := 6) (w := 1) (lv' := [(8, .int (v.2.2 + 1)), (7, .ref (ad v.1)), (6, .ref (ad v.2.1)), (9, .ref (ad v.1)), (3, .int x3), (4, .int x4), (5, .ref (ad x5))]) rfl (by decide) rfl (by decide) rfl dX6_ways_158 ?_
        refine r_goto hc (tgt := 100) dX6_ways_161 (by decide) ?_
        refine r_sub [4, 5, 6, 2, 1, 0] (lv' := [(3, .int x3), (4, .int x4), (5, .ref (ad x5)), (6, .ref (ad v.2.1)), (7, .ref (ad v.1)), (8, .int (v.2.2 + 1))]) rfl ?_
        have h := wp_v h
        exact kn (v.2.1, v.1, (v.2.2 + 1)) _ h
noncomputable def f_X6_ways (x0 : Nat) (x1 : Int32) (x2 : Int32) (x3 : Int32) (x4 : Int32) (σ : Hp) : Option (Int32 × Hp) := gO (chk shC x0 6) fun _ => bO (f_X6_noNode x0 x1 x2 σ) fun r1 σ2 => if r1 = 0 then (gO (chk shC x0 6) fun _ => bO (f_X6_noNode x0 x1 x3 σ2) fun r4 σ5 => if r4 = 0 then (if x4 < 0 then (f_X6_ways_b30  σ5) else (if x4 ≤ 9 then (gO (chk shC x0 6) fun _ => bO (f_X6_in x0 x1 σ5) fun r7 σ8 => gO (chk shC r7 1) fun _ => bO (f_X1_isEmpty r7 σ8) fun r10 σ11 => if r10 = 0 then (gO (getR shC 6 x0 10 σ11) fun v13 => gO (getR shC 6 x0 11 σ11) fun v14 => bO (wh (f_X6_ways_L65 x2 x3 x4 r7 v13 v14) 0 σ11) fun y15 σ16 => (bO (wh (f_X6_ways_L100 x3 x4 r7) (v13, v14, 0) σ16) fun y17 σ18 => (gO (aldI shC 0 y17 x3 σ18) fun v19 => some (v19, σ18)))) else (some ((-2), σ11))) else (f_X6_ways_b30  σ5))) else (f_X6_ways_b30  σ5)) else (f_X6_ways_b30  σ2)
set_option maxRecDepth 100000 in
set_option maxHeartbeats 4000000 in
theorem t_X6_ways {l : Launch} {γ : Gm} {ad : Nat → Nat} {K : Option Value → Hp → Prop} (hc : Cx l γ 3 10 ad shC RX6 cX6_ways (some .int) K) {x0 : Nat} {x1 : Int32} {x2 : Int32} {x3 : Int32} {x4 : Int32} {σ : Hp} (h : wpO (f_X6_ways x0 x1 x2 x3 x4 σ) (KI K)) : WW l γ 3 10 ad shC 0 [(0, .ref (ad x0)), (1, .int x1), (2, .int x2), (3, .int x3), (4, .int x4)] [] σ := by
  unfold f_X6_ways at h
  refine r_aload_n hc 0 rfl rfl dX6_ways_0 ?_
  refine r_iload_n hc 1 rfl rfl dX6_ways_1 ?_
  refine r_iload_n hc 2 rfl rfl dX6_ways_2 ?_
  obtain ⟨_, ek3, h⟩ := wp_g h
  obtain ⟨r1, σ2, er1, h⟩ := wp_b h
  refine r_callV hc (k0 := x0) mv_X6_noNode ml_X6_112 (c_X6_noNode er1) (chk_of ek3) cls_6.1 rfl rfl rfl (by decide) rfl (Nat.le_of_ble_eq_true rfl) dX6_ways_3 ?_
  refine r_if_ne hc (tgt := 30) dX6_ways_6 (by decide) (fun c => ?_) (fun c => ?_)
  · have h := wp_f c h
    refine r_sub [] (lv' := []) rfl ?_
    exact t_X6_ways_b30 hc h
  · have h := wp_t c h
    refine r_aload_n hc 0 rfl rfl dX6_ways_9 ?_
    refine r_iload_n hc 1 rfl rfl dX6_ways_10 ?_
    refine r_iload_n hc 3 rfl rfl dX6_ways_11 ?_
    obtain ⟨_, ek6, h⟩ := wp_g h
    obtain ⟨r4, σ5, er4, h⟩ := wp_b h
    refine r_callV hc (k0 := x0) mv_X6_noNode ml_X6_112 (c_X6_noNode er4) (chk_of ek6) cls_6.1 rfl rfl rfl (by decide) rfl (Nat.le_of_ble_eq_true rfl) dX6_ways_12 ?_
    refine r_if_ne hc (tgt := 30) dX6_ways_15 (by decide) (fun c => ?_) (fun c => ?_)
    · have h := wp_f c h
      refine r_sub [] (lv' := []) rfl ?_
      exact t_X6_ways_b30 hc h
    · have h := wp_t c h
      refine r_iload hc 4 rfl dX6_ways_18 ?_
      refine r_if_lt hc (tgt := 30) dX6_ways_20 (by decide) (fun c => ?_) (fun c => ?_)
      · have h := wp_t c h
        refine r_sub [] (lv' := []) rfl ?_
        exact t_X6_ways_b30 hc h
      · have h := wp_f c h
        refine r_iload hc 4 rfl dX6_ways_23 ?_
        refine r_bipush hc (v := 9) (by decide) dX6_ways_25 ?_
        refine r_icmp_le hc (tgt := 32) dX6_ways_27 (by decide) (fun c => ?_) (fun c => ?_)
        · have h := wp_t c h
          refine r_aload_n hc 0 rfl rfl dX6_ways_32 ?_
          refine r_iload_n hc 1 rfl rfl dX6_ways_33 ?_
          obtain ⟨_, ek9, h⟩ := wp_g h
          obtain ⟨r7, σ8, er7, h⟩ := wp_b h
          refine r_callV hc (k0 := x0) mv_X6_in ml_X6_91 (c_X6_in er7) (chk_of ek9) cls_6.1 rfl rfl rfl (by decide) rfl (Nat.le_of_ble_eq_true rfl) dX6_ways_34 ?_
          refine r_astore hc (i := 5) (lv' := [(5, .ref (ad r7)), (0, .ref (ad x0)), (1, .int x1), (2, .int x2), (3, .int x3), (4, .int x4)]) (by decide) rfl dX6_ways_37 ?_
          refine r_aload hc 0 rfl dX6_ways_39 ?_
          obtain ⟨_, ek12, h⟩ := wp_g h
          obtain ⟨r10, σ11, er10, h⟩ := wp_b h
          refine r_callV hc (k0 := r7) mv_X1_isEmpty ml_X6_109 (c_X1_isEmpty er10) (chk_of ek12) cls_1.1 rfl rfl rfl (by decide) rfl (Nat.le_of_ble_eq_true rfl) dX6_ways_41 ?_
          refine r_if_eq hc (tgt := 50) dX6_ways_44 (by decide) (fun c => ?_) (fun c => ?_)
          · have h := wp_t c h
            refine r_aload_n hc 1 rfl rfl dX6_ways_50 ?_
            obtain ⟨v13, ev13, h⟩ := wp_g h
            refine r_getR hc ev13 fl_X6_59 rfl dX6_ways_51 ?_
            refine r_astore hc (i := 6) (lv' := [(6, .ref (ad v13)), (5, .ref (ad r7)), (0, .ref (ad x0)), (1, .int x1), (2, .int x2), (3, .int x3), (4, .int x4)]) (by decide) rfl dX6_ways_54 ?_
            refine r_aload_n hc 2 rfl rfl dX6_ways_56 ?_
            obtain ⟨v14, ev14, h⟩ := wp_g h
            refine r_getR hc ev14 fl_X6_62 rfl dX6_ways_57 ?_
            refine r_astore hc (i := 7) (lv' := [(7, .ref (ad v14)), (6, .ref (ad v13)), (5, .ref (ad r7)), (0, .ref (ad x0)), (1, .int x1), (2, .int x2), (3, .int x3), (4, .int x4)]) (by decide) rfl dX6_ways_60 ?_
            refine r_iconst hc (v := 0) (by decide) dX6_ways_62 ?_
            refine r_istoreE hc (i := 8) (lv' := [(8, .int 0), (7, .ref (ad v14)), (6, .ref (ad v13)), (5, .ref (ad r7)), (0, .ref (ad x0)), (1, .int x1), (2, .int x2), (3, .int x3), (4, .int x4)]) rfl (by decide) rfl dX6_ways_63 ?_
            refine r_sub [6, 7, 8, 3, 2, 1, 0] (lv' := [(2, .int x2), (3, .int x3), (4, .int x4), (5, .ref (ad r7)), (6, .ref (ad v13)), (7, .ref (ad v14)), (8, .int 0)]) rfl ?_
            refine t_X6_ways_L65 hc (wp_bb h) ?_
            · intro y15 σ16 h
              refine r_iconst hc (v := 0) (by decide) dX6_ways_97 ?_
              refine r_istoreE hc (i := 8) (lv' := [(8, .int 0), (3, .int x3), (4, .int x4), (5, .ref (ad r7)), (6, .ref (ad v13)), (7, .ref (ad v14))]) rfl (by decide) rfl dX6_ways_98 ?_
              refine r_sub [1, 2, 3, 4, 5, 0] (lv' := [(3, .int x3), (4, .int x4), (5, .ref (ad r7)), (6, .ref (ad v13)), (7, .ref (ad v14)), (8, .int 0)]) rfl ?_
              refine t_X6_ways_L100 hc (wp_bb h) ?_
              · intro y17 σ18 h
                refine r_aload hc 1 rfl dX6_ways_164 ?_
                refine r_iload_n hc 0 rfl rfl dX6_ways_166 ?_
                obtain ⟨v19, ev19, h⟩ := wp_g h
                refine r_iald hc ev19 dX6_ways_167 ?_
                have h := wp_v h
                exact r_iret hc h dX6_ways_168
          · have h := wp_f c h
            refine r_bipush hc (v := (-2)) (by decide) dX6_ways_47 ?_
            have h := wp_v h
            exact r_iret hc h dX6_ways_49
        · have h := wp_f c h
          refine r_sub [] (lv' := []) rfl ?_
          exact t_X6_ways_b30 hc h
theorem c_X6_ways {l : Launch} {x0 : Nat} {x1 : Int32} {x2 : Int32} {x3 : Int32} {x4 : Int32} {σ σ' : Hp} {r : Int32} (h : f_X6_ways x0 x1 x2 x3 x4 σ = some (r, σ')) : Mt l yX6_ways cX6_ways 10 (some .int) 3 shC (fun ad => [.ref (ad x0), .int x1, .int x2, .int x3, .int x4]) σ (fun ad => some (.int r)) σ' := mt_i (own := RX6) (by decide) rfl (fun _ => Nat.le_of_ble_eq_true rfl) (fun γ ad K hc hk => t_X6_ways hc ⟨_, _, h, hk⟩)

-- NetMaps$Net.sign([III)I
theorem dX1_sign_0 : decode cX1_sign 0 = .ok (.iload_n 1, 1) := by decide +kernel
theorem dX1_sign_1 : decode cX1_sign 1 = .ok (.ifCond .lt 9, 3) := by decide +kernel
theorem dX1_sign_4 : decode cX1_sign 4 = .ok (.iload_n 1, 1) := by decide +kernel
theorem dX1_sign_5 : decode cX1_sign 5 = .ok (.aload_n 0, 1) := by decide +kernel
theorem dX1_sign_6 : decode cX1_sign 6 = .ok (.arraylength, 1) := by decide +kernel
theorem dX1_sign_7 : decode cX1_sign 7 = .ok (.if_icmp .lt 5, 3) := by decide +kernel
theorem dX1_sign_10 : decode cX1_sign 10 = .ok (.iload_n 1, 1) := by decide +kernel
theorem dX1_sign_11 : decode cX1_sign 11 = .ok (.ireturn, 1) := by decide +kernel
theorem dX1_sign_12 : decode cX1_sign 12 = .ok (.aload_n 0, 1) := by decide +kernel
theorem dX1_sign_13 : decode cX1_sign 13 = .ok (.iload_n 1, 1) := by decide +kernel
theorem dX1_sign_14 : decode cX1_sign 14 = .ok (.iload_n 2, 1) := by decide +kernel
theorem dX1_sign_15 : decode cX1_sign 15 = .ok (.iastore, 1) := by decide +kernel
theorem dX1_sign_16 : decode cX1_sign 16 = .ok (.iload_n 1, 1) := by decide +kernel
theorem dX1_sign_17 : decode cX1_sign 17 = .ok (.iconst 1, 1) := by decide +kernel
theorem dX1_sign_18 : decode cX1_sign 18 = .ok (.iadd, 1) := by decide +kernel
theorem dX1_sign_19 : decode cX1_sign 19 = .ok (.ireturn, 1) := by decide +kernel
noncomputable def f_X1_sign_b10 (x1 : Int32) (σ : Hp) : Option (Int32 × Hp) := some (x1, σ)
set_option maxRecDepth 100000 in
set_option maxHeartbeats 4000000 in
theorem t_X1_sign_b10 {l : Launch} {γ : Gm} {ad : Nat → Nat} {K : Option Value → Hp → Prop} (hc : Cx l γ 1 3 ad shC RX1 cX1_sign (some .int) K) {x1 : Int32} {σ : Hp} (h : wpO (f_X1_sign_b10 x1 σ) (KI K)) : WW l γ 1 3 ad shC 10 [(1, .int x1)] [] σ := by
  unfold f_X1_sign_b10 at h
  refine r_iload_n hc 0 rfl rfl dX1_sign_10 ?_
  have h := wp_v h
  exact r_iret hc h dX1_sign_11
noncomputable def f_X1_sign (x0 : Nat) (x1 : Int32) (x2 : Int32) (σ : Hp) : Option (Int32 × Hp) := if x1 < 0 then (f_X1_sign_b10 x1 σ) else (gO (alen shC 0 x0) fun v1 => if x1 < v1 then (gO (astI shC 0 x0 x1 x2 σ) fun σ2 => some ((x1 + 1), σ2)) else (f_X1_sign_b10 x1 σ))
set_option maxRecDepth 100000 in
set_option maxHeartbeats 4000000 in
theorem t_X1_sign {l : Launch} {γ : Gm} {ad : Nat → Nat} {K : Option Value → Hp → Prop} (hc : Cx l γ 1 3 ad shC RX1 cX1_sign (some .int) K) {x0 : Nat} {x1 : Int32} {x2 : Int32} {σ : Hp} (h : wpO (f_X1_sign x0 x1 x2 σ) (KI K)) : WW l γ 1 3 ad shC 0 [(0, .ref (ad x0)), (1, .int x1), (2, .int x2)] [] σ := by
  unfold f_X1_sign at h
  refine r_iload_n hc 1 rfl rfl dX1_sign_0 ?_
  refine r_if_lt hc (tgt := 10) dX1_sign_1 (by decide) (fun c => ?_) (fun c => ?_)
  · have h := wp_t c h
    refine r_sub [1] (lv' := [(1, .int x1)]) rfl ?_
    exact t_X1_sign_b10 hc h
  · have h := wp_f c h
    refine r_iload_n hc 1 rfl rfl dX1_sign_4 ?_
    refine r_aload_n hc 0 rfl rfl dX1_sign_5 ?_
    obtain ⟨v1, ev1, h⟩ := wp_g h
    refine r_alen hc ev1 dX1_sign_6 ?_
    refine r_icmp_lt hc (tgt := 12) dX1_sign_7 (by decide) (fun c => ?_) (fun c => ?_)
    · have h := wp_t c h
      refine r_aload_n hc 0 rfl rfl dX1_sign_12 ?_
      refine r_iload_n hc 1 rfl rfl dX1_sign_13 ?_
      refine r_iload_n hc 2 rfl rfl dX1_sign_14 ?_
      obtain ⟨σ2, eσ2, h⟩ := wp_g h
      refine r_iast hc eσ2 dX1_sign_15 ?_
      refine r_iload_n hc 1 rfl rfl dX1_sign_16 ?_
      refine r_iconst hc (v := 1) (by decide) dX1_sign_17 ?_
      refine r_iadd hc dX1_sign_18 ?_
      have h := wp_v h
      exact r_iret hc h dX1_sign_19
    · have h := wp_f c h
      refine r_sub [1] (lv' := [(1, .int x1)]) rfl ?_
      exact t_X1_sign_b10 hc h
theorem c_X1_sign {l : Launch} {x0 : Nat} {x1 : Int32} {x2 : Int32} {σ σ' : Hp} {r : Int32} (h : f_X1_sign x0 x1 x2 σ = some (r, σ')) : Mt l yX1_sign cX1_sign 3 (some .int) 1 shC (fun ad => [.ref (ad x0), .int x1, .int x2]) σ (fun ad => some (.int r)) σ' := mt_i (own := RX1) (by decide) rfl (fun _ => Nat.le_of_ble_eq_true rfl) (fun γ ad K hc hk => t_X1_sign hc ⟨_, _, h, hk⟩)

-- NetMaps$Net.write([I)I
theorem dX1_write_0 : decode cX1_write 0 = .ok (.aload_n 1, 1) := by decide +kernel
theorem dX1_write_1 : decode cX1_write 1 = .ok (.iconst 0, 1) := by decide +kernel
theorem dX1_write_2 : decode cX1_write 2 = .ok (.bipush 48, 2) := by decide +kernel
theorem dX1_write_4 : decode cX1_write 4 = .ok (.aload_n 0, 1) := by decide +kernel
theorem dX1_write_5 : decode cX1_write 5 = .ok (.getfield 18, 3) := by decide +kernel
theorem dX1_write_8 : decode cX1_write 8 = .ok (.iadd, 1) := by decide +kernel
theorem dX1_write_9 : decode cX1_write 9 = .ok (.invokestatic 61, 3) := by decide +kernel
theorem dX1_write_12 : decode cX1_write 12 = .ok (.istore_n 2, 1) := by decide +kernel
theorem dX1_write_13 : decode cX1_write 13 = .ok (.aload_n 1, 1) := by decide +kernel
theorem dX1_write_14 : decode cX1_write 14 = .ok (.iload_n 2, 1) := by decide +kernel
theorem dX1_write_15 : decode cX1_write 15 = .ok (.bipush 58, 2) := by decide +kernel
theorem dX1_write_17 : decode cX1_write 17 = .ok (.invokestatic 61, 3) := by decide +kernel
theorem dX1_write_20 : decode cX1_write 20 = .ok (.istore_n 2, 1) := by decide +kernel
theorem dX1_write_21 : decode cX1_write 21 = .ok (.iconst 0, 1) := by decide +kernel
theorem dX1_write_22 : decode cX1_write 22 = .ok (.istore_n 3, 1) := by decide +kernel
theorem dX1_write_23 : decode cX1_write 23 = .ok (.iload_n 3, 1) := by decide +kernel
theorem dX1_write_24 : decode cX1_write 24 = .ok (.aload_n 0, 1) := by decide +kernel
theorem dX1_write_25 : decode cX1_write 25 = .ok (.getfield 18, 3) := by decide +kernel
theorem dX1_write_28 : decode cX1_write 28 = .ok (.if_icmp .ge 110, 3) := by decide +kernel
theorem dX1_write_31 : decode cX1_write 31 = .ok (.iconst 0, 1) := by decide +kernel
theorem dX1_write_32 : decode cX1_write 32 = .ok (.istore 4, 2) := by decide +kernel
theorem dX1_write_34 : decode cX1_write 34 = .ok (.iload 4, 2) := by decide +kernel
theorem dX1_write_36 : decode cX1_write 36 = .ok (.aload_n 0, 1) := by decide +kernel
theorem dX1_write_37 : decode cX1_write 37 = .ok (.getfield 18, 3) := by decide +kernel
theorem dX1_write_40 : decode cX1_write 40 = .ok (.if_icmp .ge 92, 3) := by decide +kernel
theorem dX1_write_43 : decode cX1_write 43 = .ok (.iload_n 3, 1) := by decide +kernel
theorem dX1_write_44 : decode cX1_write 44 = .ok (.iload 4, 2) := by decide +kernel
theorem dX1_write_46 : decode cX1_write 46 = .ok (.if_icmp .eq 17, 3) := by decide +kernel
theorem dX1_write_49 : decode cX1_write 49 = .ok (.aload_n 0, 1) := by decide +kernel
theorem dX1_write_50 : decode cX1_write 50 = .ok (.iload 4, 2) := by decide +kernel
theorem dX1_write_52 : decode cX1_write 52 = .ok (.iload_n 3, 1) := by decide +kernel
theorem dX1_write_53 : decode cX1_write 53 = .ok (.invokevirtual 65, 3) := by decide +kernel
theorem dX1_write_56 : decode cX1_write 56 = .ok (.ifCond .eq 7, 3) := by decide +kernel
theorem dX1_write_59 : decode cX1_write 59 = .ok (.iconst 1, 1) := by decide +kernel
theorem dX1_write_60 : decode cX1_write 60 = .ok (.goto 4, 3) := by decide +kernel
theorem dX1_write_63 : decode cX1_write 63 = .ok (.iconst 0, 1) := by decide +kernel
theorem dX1_write_64 : decode cX1_write 64 = .ok (.istore 5, 2) := by decide +kernel
theorem dX1_write_66 : decode cX1_write 66 = .ok (.aload_n 0, 1) := by decide +kernel
theorem dX1_write_67 : decode cX1_write 67 = .ok (.iload_n 3, 1) := by decide +kernel
theorem dX1_write_68 : decode cX1_write 68 = .ok (.iload 4, 2) := by decide +kernel
theorem dX1_write_70 : decode cX1_write 70 = .ok (.invokevirtual 65, 3) := by decide +kernel
theorem dX1_write_73 : decode cX1_write 73 = .ok (.ifCond .eq 53, 3) := by decide +kernel
theorem dX1_write_76 : decode cX1_write 76 = .ok (.iload 5, 2) := by decide +kernel
theorem dX1_write_78 : decode cX1_write 78 = .ok (.ifCond .eq 9, 3) := by decide +kernel
theorem dX1_write_81 : decode cX1_write 81 = .ok (.iload_n 3, 1) := by decide +kernel
theorem dX1_write_82 : decode cX1_write 82 = .ok (.iload 4, 2) := by decide +kernel
theorem dX1_write_84 : decode cX1_write 84 = .ok (.if_icmp .gt 42, 3) := by decide +kernel
theorem dX1_write_87 : decode cX1_write 87 = .ok (.aload_n 1, 1) := by decide +kernel
theorem dX1_write_88 : decode cX1_write 88 = .ok (.iload_n 2, 1) := by decide +kernel
theorem dX1_write_89 : decode cX1_write 89 = .ok (.bipush 48, 2) := by decide +kernel
theorem dX1_write_91 : decode cX1_write 91 = .ok (.iload_n 3, 1) := by decide +kernel
theorem dX1_write_92 : decode cX1_write 92 = .ok (.iadd, 1) := by decide +kernel
theorem dX1_write_93 : decode cX1_write 93 = .ok (.invokestatic 61, 3) := by decide +kernel
theorem dX1_write_96 : decode cX1_write 96 = .ok (.istore_n 2, 1) := by decide +kernel
theorem dX1_write_97 : decode cX1_write 97 = .ok (.aload_n 1, 1) := by decide +kernel
theorem dX1_write_98 : decode cX1_write 98 = .ok (.iload_n 2, 1) := by decide +kernel
theorem dX1_write_99 : decode cX1_write 99 = .ok (.iload 5, 2) := by decide +kernel
theorem dX1_write_101 : decode cX1_write 101 = .ok (.ifCond .eq 8, 3) := by decide +kernel
theorem dX1_write_104 : decode cX1_write 104 = .ok (.bipush 45, 2) := by decide +kernel
theorem dX1_write_106 : decode cX1_write 106 = .ok (.goto 5, 3) := by decide +kernel
theorem dX1_write_109 : decode cX1_write 109 = .ok (.bipush 62, 2) := by decide +kernel
theorem dX1_write_111 : decode cX1_write 111 = .ok (.invokestatic 61, 3) := by decide +kernel
theorem dX1_write_114 : decode cX1_write 114 = .ok (.istore_n 2, 1) := by decide +kernel
theorem dX1_write_115 : decode cX1_write 115 = .ok (.aload_n 1, 1) := by decide +kernel
theorem dX1_write_116 : decode cX1_write 116 = .ok (.iload_n 2, 1) := by decide +kernel
theorem dX1_write_117 : decode cX1_write 117 = .ok (.bipush 48, 2) := by decide +kernel
theorem dX1_write_119 : decode cX1_write 119 = .ok (.iload 4, 2) := by decide +kernel
theorem dX1_write_121 : decode cX1_write 121 = .ok (.iadd, 1) := by decide +kernel
theorem dX1_write_122 : decode cX1_write 122 = .ok (.invokestatic 61, 3) := by decide +kernel
theorem dX1_write_125 : decode cX1_write 125 = .ok (.istore_n 2, 1) := by decide +kernel
theorem dX1_write_126 : decode cX1_write 126 = .ok (.iinc 4 1, 3) := by decide +kernel
theorem dX1_write_129 : decode cX1_write 129 = .ok (.goto (-95), 3) := by decide +kernel
theorem dX1_write_132 : decode cX1_write 132 = .ok (.iinc 3 1, 3) := by decide +kernel
theorem dX1_write_135 : decode cX1_write 135 = .ok (.goto (-112), 3) := by decide +kernel
theorem dX1_write_138 : decode cX1_write 138 = .ok (.iload_n 2, 1) := by decide +kernel
theorem dX1_write_139 : decode cX1_write 139 = .ok (.ireturn, 1) := by decide +kernel
noncomputable def f_X1_write_b126 (x0 : Nat) (x1 : Nat) (x2 : Int32) (x3 : Int32) (x4 : Int32) (σ : Hp) : Option (((Int32 × Int32) ⊕ (Int32)) × Hp) := some (Sum.inl (x2, (x4 + 1)), σ)
set_option maxRecDepth 100000 in
set_option maxHeartbeats 4000000 in
theorem t_X1_write_b126 {l : Launch} {γ : Gm} {ad : Nat → Nat} {K : Option Value → Hp → Prop} (hc : Cx l γ 3 6 ad shC RX1 cX1_write (some .int) K) {x0 : Nat} {x1 : Nat} {x2 : Int32} {x3 : Int32} {x4 : Int32}  {σ : Hp} {KL : ((Int32 × Int32) ⊕ (Int32)) → Hp → Prop} (h : wpO (f_X1_write_b126 x0 x1 x2 x3 x4 σ) KL) (kn : ∀ (v : (Int32 × Int32)) (σ : Hp), KL (Sum.inl v) σ → WW l γ 3 6 ad shC 34 [(0, .ref (ad x0)), (1, .ref (ad x1)), (2, .int v.1), (3, .int x3), (4, .int v.2)] [] σ) (kx132 : ∀ (v : Int32) (σ : Hp), KL (Sum.inr v) σ → WW l γ 3 6 ad shC 132 [(0, .ref (ad x0)), (1, .ref (ad x1)), (2, .int v), (3, .int x3)] [] σ) : WW l γ 3 6 ad shC 126 [(0, .ref (ad x0)), (1, .ref (ad x1)), (2, .int x2), (3, .int x3), (4, .int x4)] [] σ := by
  unfold f_X1_write_b126 at h
  refine r_iincE hc (j := 4) (w := 1) (lv' := [(4, .int (x4 + 1)), (0, .ref (ad x0)), (1, .ref (ad x1)), (2, .int x2), (3, .int x3)]) rfl (by decide) rfl (by decide) rfl dX1_write_126 ?_
  refine r_goto hc (tgt := 34) dX1_write_129 (by decide) ?_
  refine r_sub [1, 2, 3, 4, 0] (lv' := [(0, .ref (ad x0)), (1, .ref (ad x1)), (2, .int x2), (3, .int x3), (4, .int (x4 + 1))]) rfl ?_
  have h := wp_v h
  exact kn (x2, (x4 + 1)) _ h
noncomputable def f_X1_write_b111 (x0 : Nat) (x1 : Nat) (x3 : Int32) (x4 : Int32) (s0 : Nat) (s1 : Int32) (s2 : Int32) (σ : Hp) : Option (((Int32 × Int32) ⊕ (Int32)) × Hp) := bO (f_X1_sign s0 s1 s2 σ) fun r1 σ2 => bO (f_X1_sign x1 r1 (48 + x4) σ2) fun r3 σ4 => f_X1_write_b126 x0 x1 r3 x3 x4 σ4
set_option maxRecDepth 100000 in
set_option maxHeartbeats 4000000 in
theorem t_X1_write_b111 {l : Launch} {γ : Gm} {ad : Nat → Nat} {K : Option Value → Hp → Prop} (hc : Cx l γ 3 6 ad shC RX1 cX1_write (some .int) K) {x0 : Nat} {x1 : Nat} {x3 : Int32} {x4 : Int32} {s0 : Nat} {s1 : Int32} {s2 : Int32}  {σ : Hp} {KL : ((Int32 × Int32) ⊕ (Int32)) → Hp → Prop} (h : wpO (f_X1_write_b111 x0 x1 x3 x4 s0 s1 s2 σ) KL) (kn : ∀ (v : (Int32 × Int32)) (σ : Hp), KL (Sum.inl v) σ → WW l γ 3 6 ad shC 34 [(0, .ref (ad x0)), (1, .ref (ad x1)), (2, .int v.1), (3, .int x3), (4, .int v.2)] [] σ) (kx132 : ∀ (v : Int32) (σ : Hp), KL (Sum.inr v) σ → WW l γ 3 6 ad shC 132 [(0, .ref (ad x0)), (1, .ref (ad x1)), (2, .int v), (3, .int x3)] [] σ) : WW l γ 3 6 ad shC 111 [(0, .ref (ad x0)), (1, .ref (ad x1)), (3, .int x3), (4, .int x4)] [.int s2, .int s1, .ref (ad s0)] σ := by
  unfold f_X1_write_b111 at h
  obtain ⟨r1, σ2, er1, h⟩ := wp_b h
  refine r_callS hc ms_X1_sign ml_X1_61 (c_X1_sign er1) rfl rfl (by decide) rfl (Nat.le_of_ble_eq_true rfl) dX1_write_111 ?_
  refine r_istore_nE hc (i := 2) (lv' := [(2, .int r1), (0, .ref (ad x0)), (1, .ref (ad x1)), (3, .int x3), (4, .int x4)]) rfl rfl (by decide) rfl dX1_write_114 ?_
  refine r_aload_n hc 2 rfl rfl dX1_write_115 ?_
  refine r_iload_n hc 0 rfl rfl dX1_write_116 ?_
  refine r_bipush hc (v := 48) (by decide) dX1_write_117 ?_
  refine r_iload hc 4 rfl dX1_write_119 ?_
  refine r_iadd hc dX1_write_121 ?_
  obtain ⟨r3, σ4, er3, h⟩ := wp_b h
  refine r_callS hc ms_X1_sign ml_X1_61 (c_X1_sign er3) rfl rfl (by decide) rfl (Nat.le_of_ble_eq_true rfl) dX1_write_122 ?_
  refine r_istore_nE hc (i := 2) (lv' := [(2, .int r3), (0, .ref (ad x0)), (1, .ref (ad x1)), (3, .int x3), (4, .int x4)]) rfl rfl (by decide) rfl dX1_write_125 ?_
  refine r_sub [1, 2, 0, 3, 4] (lv' := [(0, .ref (ad x0)), (1, .ref (ad x1)), (2, .int r3), (3, .int x3), (4, .int x4)]) rfl ?_
  exact t_X1_write_b126 hc h kn kx132
noncomputable def f_X1_write_b87 (x0 : Nat) (x1 : Nat) (x2 : Int32) (x3 : Int32) (x4 : Int32) (x5 : Int32) (σ : Hp) : Option (((Int32 × Int32) ⊕ (Int32)) × Hp) := bO (f_X1_sign x1 x2 (48 + x3) σ) fun r1 σ2 => if x5 = 0 then (f_X1_write_b111 x0 x1 x3 x4 x1 r1 62 σ2) else (f_X1_write_b111 x0 x1 x3 x4 x1 r1 45 σ2)
set_option maxRecDepth 100000 in
set_option maxHeartbeats 4000000 in
theorem t_X1_write_b87 {l : Launch} {γ : Gm} {ad : Nat → Nat} {K : Option Value → Hp → Prop} (hc : Cx l γ 3 6 ad shC RX1 cX1_write (some .int) K) {x0 : Nat} {x1 : Nat} {x2 : Int32} {x3 : Int32} {x4 : Int32} {x5 : Int32}  {σ : Hp} {KL : ((Int32 × Int32) ⊕ (Int32)) → Hp → Prop} (h : wpO (f_X1_write_b87 x0 x1 x2 x3 x4 x5 σ) KL) (kn : ∀ (v : (Int32 × Int32)) (σ : Hp), KL (Sum.inl v) σ → WW l γ 3 6 ad shC 34 [(0, .ref (ad x0)), (1, .ref (ad x1)), (2, .int v.1), (3, .int x3), (4, .int v.2)] [] σ) (kx132 : ∀ (v : Int32) (σ : Hp), KL (Sum.inr v) σ → WW l γ 3 6 ad shC 132 [(0, .ref (ad x0)), (1, .ref (ad x1)), (2, .int v), (3, .int x3)] [] σ) : WW l γ 3 6 ad shC 87 [(0, .ref (ad x0)), (1, .ref (ad x1)), (2, .int x2), (3, .int x3), (4, .int x4), (5, .int x5)] [] σ := by
  unfold f_X1_write_b87 at h
  refine r_aload_n hc 1 rfl rfl dX1_write_87 ?_
  refine r_iload_n hc 2 rfl rfl dX1_write_88 ?_
  refine r_bipush hc (v := 48) (by decide) dX1_write_89 ?_
  refine r_iload_n hc 3 rfl rfl dX1_write_91 ?_
  refine r_iadd hc dX1_write_92 ?_
  obtain ⟨r1, σ2, er1, h⟩ := wp_b h
  refine r_callS hc ms_X1_sign ml_X1_61 (c_X1_sign er1) rfl rfl (by decide) rfl (Nat.le_of_ble_eq_true rfl) dX1_write_93 ?_
  refine r_istore_nE hc (i := 2) (lv' := [(2, .int r1), (0, .ref (ad x0)), (1, .ref (ad x1)), (3, .int x3), (4, .int x4), (5, .int x5)]) rfl rfl (by decide) rfl dX1_write_96 ?_
  refine r_aload_n hc 2 rfl rfl dX1_write_97 ?_
  refine r_iload_n hc 0 rfl rfl dX1_write_98 ?_
  refine r_iload hc 5 rfl dX1_write_99 ?_
  refine r_if_eq hc (tgt := 109) dX1_write_101 (by decide) (fun c => ?_) (fun c => ?_)
  · have h := wp_t c h
    refine r_bipush hc (v := 62) (by decide) dX1_write_109 ?_
    refine r_sub [1, 2, 3, 4] (lv' := [(0, .ref (ad x0)), (1, .ref (ad x1)), (3, .int x3), (4, .int x4)]) rfl ?_
    exact t_X1_write_b111 hc h kn kx132
  · have h := wp_f c h
    refine r_bipush hc (v := 45) (by decide) dX1_write_104 ?_
    refine r_goto hc (tgt := 111) dX1_write_106 (by decide) ?_
    refine r_sub [1, 2, 3, 4] (lv' := [(0, .ref (ad x0)), (1, .ref (ad x1)), (3, .int x3), (4, .int x4)]) rfl ?_
    exact t_X1_write_b111 hc h kn kx132
noncomputable def f_X1_write_b64 (x0 : Nat) (x1 : Nat) (x2 : Int32) (x3 : Int32) (x4 : Int32) (s0 : Int32) (σ : Hp) : Option (((Int32 × Int32) ⊕ (Int32)) × Hp) := gO (chk shC x0 1) fun _ => bO (f_X1_joins x0 x3 x4 σ) fun r1 σ2 => if r1 = 0 then (f_X1_write_b126 x0 x1 x2 x3 x4 σ2) else (if s0 = 0 then (f_X1_write_b87 x0 x1 x2 x3 x4 s0 σ2) else (if x4 < x3 then (f_X1_write_b126 x0 x1 x2 x3 x4 σ2) else (f_X1_write_b87 x0 x1 x2 x3 x4 s0 σ2)))
set_option maxRecDepth 100000 in
set_option maxHeartbeats 4000000 in
theorem t_X1_write_b64 {l : Launch} {γ : Gm} {ad : Nat → Nat} {K : Option Value → Hp → Prop} (hc : Cx l γ 3 6 ad shC RX1 cX1_write (some .int) K) {x0 : Nat} {x1 : Nat} {x2 : Int32} {x3 : Int32} {x4 : Int32} {s0 : Int32}  {σ : Hp} {KL : ((Int32 × Int32) ⊕ (Int32)) → Hp → Prop} (h : wpO (f_X1_write_b64 x0 x1 x2 x3 x4 s0 σ) KL) (kn : ∀ (v : (Int32 × Int32)) (σ : Hp), KL (Sum.inl v) σ → WW l γ 3 6 ad shC 34 [(0, .ref (ad x0)), (1, .ref (ad x1)), (2, .int v.1), (3, .int x3), (4, .int v.2)] [] σ) (kx132 : ∀ (v : Int32) (σ : Hp), KL (Sum.inr v) σ → WW l γ 3 6 ad shC 132 [(0, .ref (ad x0)), (1, .ref (ad x1)), (2, .int v), (3, .int x3)] [] σ) : WW l γ 3 6 ad shC 64 [(0, .ref (ad x0)), (1, .ref (ad x1)), (2, .int x2), (3, .int x3), (4, .int x4)] [.int s0] σ := by
  unfold f_X1_write_b64 at h
  refine r_istoreE hc (i := 5) (lv' := [(5, .int s0), (0, .ref (ad x0)), (1, .ref (ad x1)), (2, .int x2), (3, .int x3), (4, .int x4)]) rfl (by decide) rfl dX1_write_64 ?_
  refine r_aload_n hc 1 rfl rfl dX1_write_66 ?_
  refine r_iload_n hc 4 rfl rfl dX1_write_67 ?_
  refine r_iload hc 5 rfl dX1_write_68 ?_
  obtain ⟨_, ek3, h⟩ := wp_g h
  obtain ⟨r1, σ2, er1, h⟩ := wp_b h
  refine r_callV hc (k0 := x0) mv_X1_joins ml_X1_65 (c_X1_joins er1) (chk_of ek3) cls_1.1 rfl rfl rfl (by decide) rfl (Nat.le_of_ble_eq_true rfl) dX1_write_70 ?_
  refine r_if_eq hc (tgt := 126) dX1_write_73 (by decide) (fun c => ?_) (fun c => ?_)
  · have h := wp_t c h
    refine r_sub [1, 2, 3, 4, 5] (lv' := [(0, .ref (ad x0)), (1, .ref (ad x1)), (2, .int x2), (3, .int x3), (4, .int x4)]) rfl ?_
    exact t_X1_write_b126 hc h kn kx132
  · have h := wp_f c h
    refine r_iload hc 0 rfl dX1_write_76 ?_
    refine r_if_eq hc (tgt := 87) dX1_write_78 (by decide) (fun c => ?_) (fun c => ?_)
    · have h := wp_t c h
      refine r_sub [1, 2, 3, 4, 5, 0] (lv' := [(0, .ref (ad x0)), (1, .ref (ad x1)), (2, .int x2), (3, .int x3), (4, .int x4), (5, .int s0)]) rfl ?_
      exact t_X1_write_b87 hc h kn kx132
    · have h := wp_f c h
      refine r_iload_n hc 4 rfl rfl dX1_write_81 ?_
      refine r_iload hc 5 rfl dX1_write_82 ?_
      refine r_icmp_gt hc (tgt := 126) dX1_write_84 (by decide) (fun c => ?_) (fun c => ?_)
      · have h := wp_t c h
        refine r_sub [1, 2, 3, 4, 5] (lv' := [(0, .ref (ad x0)), (1, .ref (ad x1)), (2, .int x2), (3, .int x3), (4, .int x4)]) rfl ?_
        exact t_X1_write_b126 hc h kn kx132
      · have h := wp_f c h
        refine r_sub [1, 2, 3, 4, 5, 0] (lv' := [(0, .ref (ad x0)), (1, .ref (ad x1)), (2, .int x2), (3, .int x3), (4, .int x4), (5, .int s0)]) rfl ?_
        exact t_X1_write_b87 hc h kn kx132
noncomputable def f_X1_write_b63 (x0 : Nat) (x1 : Nat) (x2 : Int32) (x3 : Int32) (x4 : Int32) (σ : Hp) : Option (((Int32 × Int32) ⊕ (Int32)) × Hp) := f_X1_write_b64 x0 x1 x2 x3 x4 0 σ
set_option maxRecDepth 100000 in
set_option maxHeartbeats 4000000 in
theorem t_X1_write_b63 {l : Launch} {γ : Gm} {ad : Nat → Nat} {K : Option Value → Hp → Prop} (hc : Cx l γ 3 6 ad shC RX1 cX1_write (some .int) K) {x0 : Nat} {x1 : Nat} {x2 : Int32} {x3 : Int32} {x4 : Int32}  {σ : Hp} {KL : ((Int32 × Int32) ⊕ (Int32)) → Hp → Prop} (h : wpO (f_X1_write_b63 x0 x1 x2 x3 x4 σ) KL) (kn : ∀ (v : (Int32 × Int32)) (σ : Hp), KL (Sum.inl v) σ → WW l γ 3 6 ad shC 34 [(0, .ref (ad x0)), (1, .ref (ad x1)), (2, .int v.1), (3, .int x3), (4, .int v.2)] [] σ) (kx132 : ∀ (v : Int32) (σ : Hp), KL (Sum.inr v) σ → WW l γ 3 6 ad shC 132 [(0, .ref (ad x0)), (1, .ref (ad x1)), (2, .int v), (3, .int x3)] [] σ) : WW l γ 3 6 ad shC 63 [(0, .ref (ad x0)), (1, .ref (ad x1)), (2, .int x2), (3, .int x3), (4, .int x4)] [] σ := by
  unfold f_X1_write_b63 at h
  refine r_iconst hc (v := 0) (by decide) dX1_write_63 ?_
  exact t_X1_write_b64 hc h kn kx132
noncomputable def f_X1_write_L34 (x0 : Nat) (x1 : Nat) (x3 : Int32) (v : (Int32 × Int32)) (σ : Hp) : Option (((Int32 × Int32) ⊕ (Int32)) × Hp) := gO (getI shC 1 x0 0 σ) fun v1 => if v1 ≤ v.2 then (some (Sum.inr v.1, σ)) else (if x3 = v.2 then (f_X1_write_b63 x0 x1 v.1 x3 v.2 σ) else (gO (chk shC x0 1) fun _ => bO (f_X1_joins x0 v.2 x3 σ) fun r2 σ3 => if r2 = 0 then (f_X1_write_b63 x0 x1 v.1 x3 v.2 σ3) else (f_X1_write_b64 x0 x1 v.1 x3 v.2 1 σ3)))
set_option maxRecDepth 100000 in
set_option maxHeartbeats 4000000 in
theorem t_X1_write_L34 {l : Launch} {γ : Gm} {ad : Nat → Nat} {K : Option Value → Hp → Prop}  (hc : Cx l γ 3 6 ad shC RX1 cX1_write (some .int) K) {x0 : Nat} {x1 : Nat} {x3 : Int32} {v : (Int32 × Int32)} {σ : Hp} {KX : (Int32) → Hp → Prop} (h : wpO (wh (f_X1_write_L34 x0 x1 x3) v σ) KX) (kx132 : ∀ (v : Int32) (σ : Hp), KX v σ → WW l γ 3 6 ad shC 132 [(0, .ref (ad x0)), (1, .ref (ad x1)), (2, .int v), (3, .int x3)] [] σ) : WW l γ 3 6 ad shC 34 [(0, .ref (ad x0)), (1, .ref (ad x1)), (2, .int v.1), (3, .int x3), (4, .int v.2)] [] σ := by
  refine wh_W (P := fun v σ => WW l γ 3 6 ad shC 34 [(0, .ref (ad x0)), (1, .ref (ad x1)), (2, .int v.1), (3, .int x3), (4, .int v.2)] [] σ) (fun v σ h => ?_) h
  have kn : ∀ (v : (Int32 × Int32)) (σ : Hp), WW l γ 3 6 ad shC 34 [(0, .ref (ad x0)), (1, .ref (ad x1)), (2, .int v.1), (3, .int x3), (4, .int v.2)] [] σ → WW l γ 3 6 ad shC 34 [(0, .ref (ad x0)), (1, .ref (ad x1)), (2, .int v.1), (3, .int x3), (4, .int v.2)] [] σ := fun _ _ h => h
  · unfold f_X1_write_L34 at h
    refine r_iload hc 4 rfl dX1_write_34 ?_
    refine r_aload_n hc 0 rfl rfl dX1_write_36 ?_
    obtain ⟨v1, ev1, h⟩ := wp_g h
    refine r_getI hc ev1 fl_X1_18 rfl dX1_write_37 ?_
    refine r_icmp_ge hc (tgt := 132) dX1_write_40 (by decide) (fun c => ?_) (fun c => ?_)
    · have h := wp_t c h
      refine r_sub [0, 1, 2, 3] (lv' := [(0, .ref (ad x0)), (1, .ref (ad x1)), (2, .int v.1), (3, .int x3)]) rfl ?_
      have h := wp_v h
      exact kx132 v.1 _ h
    · have h := wp_f c h
      refine r_iload_n hc 3 rfl rfl dX1_write_43 ?_
      refine r_iload hc 4 rfl dX1_write_44 ?_
      refine r_icmp_eq hc (tgt := 63) dX1_write_46 (by decide) (fun c => ?_) (fun c => ?_)
      · have h := wp_t c h
        exact t_X1_write_b63 hc h kn kx132
      · have h := wp_f c h
        refine r_aload_n hc 0 rfl rfl dX1_write_49 ?_
        refine r_iload hc 4 rfl dX1_write_50 ?_
        refine r_iload_n hc 3 rfl rfl dX1_write_52 ?_
        obtain ⟨_, ek4, h⟩ := wp_g h
        obtain ⟨r2, σ3, er2, h⟩ := wp_b h
        refine r_callV hc (k0 := x0) mv_X1_joins ml_X1_65 (c_X1_joins er2) (chk_of ek4) cls_1.1 rfl rfl rfl (by decide) rfl (Nat.le_of_ble_eq_true rfl) dX1_write_53 ?_
        refine r_if_eq hc (tgt := 63) dX1_write_56 (by decide) (fun c => ?_) (fun c => ?_)
        · have h := wp_t c h
          exact t_X1_write_b63 hc h kn kx132
        · have h := wp_f c h
          refine r_iconst hc (v := 1) (by decide) dX1_write_59 ?_
          refine r_goto hc (tgt := 64) dX1_write_60 (by decide) ?_
          exact t_X1_write_b64 hc h kn kx132
noncomputable def f_X1_write_L23 (x0 : Nat) (x1 : Nat) (v : (Int32 × Int32)) (σ : Hp) : Option (((Int32 × Int32) ⊕ (Int32)) × Hp) := gO (getI shC 1 x0 0 σ) fun v1 => if v1 ≤ v.2 then (some (Sum.inr v.1, σ)) else (bO (wh (f_X1_write_L34 x0 x1 v.2) (v.1, 0) σ) fun y2 σ3 => (some (Sum.inl (y2, (v.2 + 1)), σ3)))
set_option maxRecDepth 100000 in
set_option maxHeartbeats 4000000 in
theorem t_X1_write_L23 {l : Launch} {γ : Gm} {ad : Nat → Nat} {K : Option Value → Hp → Prop}  (hc : Cx l γ 3 6 ad shC RX1 cX1_write (some .int) K) {x0 : Nat} {x1 : Nat} {v : (Int32 × Int32)} {σ : Hp} {KX : (Int32) → Hp → Prop} (h : wpO (wh (f_X1_write_L23 x0 x1) v σ) KX) (kx138 : ∀ (v : Int32) (σ : Hp), KX v σ → WW l γ 3 6 ad shC 138 [(2, .int v)] [] σ) : WW l γ 3 6 ad shC 23 [(0, .ref (ad x0)), (1, .ref (ad x1)), (2, .int v.1), (3, .int v.2)] [] σ := by
  refine wh_W (P := fun v σ => WW l γ 3 6 ad shC 23 [(0, .ref (ad x0)), (1, .ref (ad x1)), (2, .int v.1), (3, .int v.2)] [] σ) (fun v σ h => ?_) h
  have kn : ∀ (v : (Int32 × Int32)) (σ : Hp), WW l γ 3 6 ad shC 23 [(0, .ref (ad x0)), (1, .ref (ad x1)), (2, .int v.1), (3, .int v.2)] [] σ → WW l γ 3 6 ad shC 23 [(0, .ref (ad x0)), (1, .ref (ad x1)), (2, .int v.1), (3, .int v.2)] [] σ := fun _ _ h => h
  · unfold f_X1_write_L23 at h
    refine r_iload_n hc 3 rfl rfl dX1_write_23 ?_
    refine r_aload_n hc 0 rfl rfl dX1_write_24 ?_
    obtain ⟨v1, ev1, h⟩ := wp_g h
    refine r_getI hc ev1 fl_X1_18 rfl dX1_write_25 ?_
    refine r_icmp_ge hc (tgt := 138) dX1_write_28 (by decide) (fun c => ?_) (fun c => ?_)
    · have h := wp_t c h
      refine r_sub [2] (lv' := [(2, .int v.1)]) rfl ?_
      have h := wp_v h
      exact kx138 v.1 _ h
    · have h := wp_f c h
      refine r_iconst hc (v := 0) (by decide) dX1_write_31 ?_
      refine r_istoreE hc (i := 4) (lv' := [(4, .int 0), (0, .ref (ad x0)), (1, .ref (ad x1)), (2, .int v.1), (3, .int v.2)]) rfl (by decide) rfl dX1_write_32 ?_
      refine r_sub [1, 2, 3, 4, 0] (lv' := [(0, .ref (ad x0)), (1, .ref (ad x1)), (2, .int v.1), (3, .int v.2), (4, .int 0)]) rfl ?_
      refine t_X1_write_L34 hc (wp_bb h) ?_
      · intro y2 σ3 h
        refine r_iincE hc (j := 3) (w := 1) (lv' := [(3, .int (v.2 + 1)), (0, .ref (ad x0)), (1, .ref (ad x1)), (2, .int y2)]) rfl (by decide) rfl (by decide) rfl dX1_write_132 ?_
        refine r_goto hc (tgt := 23) dX1_write_135 (by decide) ?_
        refine r_sub [1, 2, 3, 0] (lv' := [(0, .ref (ad x0)), (1, .ref (ad x1)), (2, .int y2), (3, .int (v.2 + 1))]) rfl ?_
        have h := wp_v h
        exact kn (y2, (v.2 + 1)) _ h
noncomputable def f_X1_write (x0 : Nat) (x1 : Nat) (σ : Hp) : Option (Int32 × Hp) := gO (getI shC 1 x0 0 σ) fun v1 => bO (f_X1_sign x1 0 (48 + v1) σ) fun r2 σ3 => bO (f_X1_sign x1 r2 58 σ3) fun r4 σ5 => bO (wh (f_X1_write_L23 x0 x1) (r4, 0) σ5) fun y6 σ7 => (some (y6, σ7))
set_option maxRecDepth 100000 in
set_option maxHeartbeats 4000000 in
theorem t_X1_write {l : Launch} {γ : Gm} {ad : Nat → Nat} {K : Option Value → Hp → Prop} (hc : Cx l γ 3 6 ad shC RX1 cX1_write (some .int) K) {x0 : Nat} {x1 : Nat} {σ : Hp} (h : wpO (f_X1_write x0 x1 σ) (KI K)) : WW l γ 3 6 ad shC 0 [(0, .ref (ad x0)), (1, .ref (ad x1))] [] σ := by
  unfold f_X1_write at h
  refine r_aload_n hc 1 rfl rfl dX1_write_0 ?_
  refine r_iconst hc (v := 0) (by decide) dX1_write_1 ?_
  refine r_bipush hc (v := 48) (by decide) dX1_write_2 ?_
  refine r_aload_n hc 0 rfl rfl dX1_write_4 ?_
  obtain ⟨v1, ev1, h⟩ := wp_g h
  refine r_getI hc ev1 fl_X1_18 rfl dX1_write_5 ?_
  refine r_iadd hc dX1_write_8 ?_
  obtain ⟨r2, σ3, er2, h⟩ := wp_b h
  refine r_callS hc ms_X1_sign ml_X1_61 (c_X1_sign er2) rfl rfl (by decide) rfl (Nat.le_of_ble_eq_true rfl) dX1_write_9 ?_
  refine r_istore_nE hc (i := 2) (lv' := [(2, .int r2), (0, .ref (ad x0)), (1, .ref (ad x1))]) rfl rfl (by decide) rfl dX1_write_12 ?_
  refine r_aload_n hc 2 rfl rfl dX1_write_13 ?_
  refine r_iload_n hc 0 rfl rfl dX1_write_14 ?_
  refine r_bipush hc (v := 58) (by decide) dX1_write_15 ?_
  obtain ⟨r4, σ5, er4, h⟩ := wp_b h
  refine r_callS hc ms_X1_sign ml_X1_61 (c_X1_sign er4) rfl rfl (by decide) rfl (Nat.le_of_ble_eq_true rfl) dX1_write_17 ?_
  refine r_istore_nE hc (i := 2) (lv' := [(2, .int r4), (0, .ref (ad x0)), (1, .ref (ad x1))]) rfl rfl (by decide) rfl dX1_write_20 ?_
  refine r_iconst hc (v := 0) (by decide) dX1_write_21 ?_
  refine r_istore_nE hc (i := 3) (lv' := [(3, .int 0), (2, .int r4), (0, .ref (ad x0)), (1, .ref (ad x1))]) rfl rfl (by decide) rfl dX1_write_22 ?_
  refine r_sub [2, 3, 1, 0] (lv' := [(0, .ref (ad x0)), (1, .ref (ad x1)), (2, .int r4), (3, .int 0)]) rfl ?_
  refine t_X1_write_L23 hc (wp_bb h) ?_
  · intro y6 σ7 h
    refine r_iload_n hc 0 rfl rfl dX1_write_138 ?_
    have h := wp_v h
    exact r_iret hc h dX1_write_139
theorem c_X1_write {l : Launch} {x0 : Nat} {x1 : Nat} {σ σ' : Hp} {r : Int32} (h : f_X1_write x0 x1 σ = some (r, σ')) : Mt l yX1_write cX1_write 6 (some .int) 3 shC (fun ad => [.ref (ad x0), .ref (ad x1)]) σ (fun ad => some (.int r)) σ' := mt_i (own := RX1) (by decide) rfl (fun _ => Nat.le_of_ble_eq_true rfl) (fun γ ad K hc hk => t_X1_write hc ⟨_, _, h, hk⟩)

-- NetMaps.letter(II)I
theorem dX6_letter_0 : decode cX6_letter 0 = .ok (.iload_n 1, 1) := by decide +kernel
theorem dX6_letter_1 : decode cX6_letter 1 = .ok (.invokestatic 76, 3) := by decide +kernel
theorem dX6_letter_4 : decode cX6_letter 4 = .ok (.ifCond .ne 8, 3) := by decide +kernel
theorem dX6_letter_7 : decode cX6_letter 7 = .ok (.iload_n 2, 1) := by decide +kernel
theorem dX6_letter_8 : decode cX6_letter 8 = .ok (.iconst (-1), 1) := by decide +kernel
theorem dX6_letter_9 : decode cX6_letter 9 = .ok (.if_icmp .ge 5, 3) := by decide +kernel
theorem dX6_letter_12 : decode cX6_letter 12 = .ok (.iconst (-1), 1) := by decide +kernel
theorem dX6_letter_13 : decode cX6_letter 13 = .ok (.ireturn, 1) := by decide +kernel
theorem dX6_letter_14 : decode cX6_letter 14 = .ok (.aload_n 0, 1) := by decide +kernel
theorem dX6_letter_15 : decode cX6_letter 15 = .ok (.iload_n 1, 1) := by decide +kernel
theorem dX6_letter_16 : decode cX6_letter 16 = .ok (.invokevirtual 91, 3) := by decide +kernel
theorem dX6_letter_19 : decode cX6_letter 19 = .ok (.invokevirtual 109, 3) := by decide +kernel
theorem dX6_letter_22 : decode cX6_letter 22 = .ok (.ifCond .eq 6, 3) := by decide +kernel
theorem dX6_letter_25 : decode cX6_letter 25 = .ok (.bipush (-2), 2) := by decide +kernel
theorem dX6_letter_27 : decode cX6_letter 27 = .ok (.ireturn, 1) := by decide +kernel
theorem dX6_letter_28 : decode cX6_letter 28 = .ok (.aload_n 0, 1) := by decide +kernel
theorem dX6_letter_29 : decode cX6_letter 29 = .ok (.iload_n 1, 1) := by decide +kernel
theorem dX6_letter_30 : decode cX6_letter 30 = .ok (.invokevirtual 91, 3) := by decide +kernel
theorem dX6_letter_33 : decode cX6_letter 33 = .ok (.aload_n 0, 1) := by decide +kernel
theorem dX6_letter_34 : decode cX6_letter 34 = .ok (.getfield 65, 3) := by decide +kernel
theorem dX6_letter_37 : decode cX6_letter 37 = .ok (.invokevirtual 364, 3) := by decide +kernel
theorem dX6_letter_40 : decode cX6_letter 40 = .ok (.istore_n 3, 1) := by decide +kernel
theorem dX6_letter_41 : decode cX6_letter 41 = .ok (.iload_n 2, 1) := by decide +kernel
theorem dX6_letter_42 : decode cX6_letter 42 = .ok (.iconst (-1), 1) := by decide +kernel
theorem dX6_letter_43 : decode cX6_letter 43 = .ok (.if_icmp .ne 5, 3) := by decide +kernel
theorem dX6_letter_46 : decode cX6_letter 46 = .ok (.iload_n 3, 1) := by decide +kernel
theorem dX6_letter_47 : decode cX6_letter 47 = .ok (.ireturn, 1) := by decide +kernel
theorem dX6_letter_48 : decode cX6_letter 48 = .ok (.iload_n 2, 1) := by decide +kernel
theorem dX6_letter_49 : decode cX6_letter 49 = .ok (.iload_n 3, 1) := by decide +kernel
theorem dX6_letter_50 : decode cX6_letter 50 = .ok (.if_icmp .ge 12, 3) := by decide +kernel
theorem dX6_letter_53 : decode cX6_letter 53 = .ok (.aload_n 0, 1) := by decide +kernel
theorem dX6_letter_54 : decode cX6_letter 54 = .ok (.getfield 65, 3) := by decide +kernel
theorem dX6_letter_57 : decode cX6_letter 57 = .ok (.iload_n 2, 1) := by decide +kernel
theorem dX6_letter_58 : decode cX6_letter 58 = .ok (.iaload, 1) := by decide +kernel
theorem dX6_letter_59 : decode cX6_letter 59 = .ok (.goto 5, 3) := by decide +kernel
theorem dX6_letter_62 : decode cX6_letter 62 = .ok (.bipush (-3), 2) := by decide +kernel
theorem dX6_letter_64 : decode cX6_letter 64 = .ok (.ireturn, 1) := by decide +kernel
noncomputable def f_X6_letter_b12  (σ : Hp) : Option (Int32 × Hp) := some ((-1), σ)
set_option maxRecDepth 100000 in
set_option maxHeartbeats 4000000 in
theorem t_X6_letter_b12 {l : Launch} {γ : Gm} {ad : Nat → Nat} {K : Option Value → Hp → Prop} (hc : Cx l γ 4 4 ad shC RX6 cX6_letter (some .int) K)  {σ : Hp} (h : wpO (f_X6_letter_b12  σ) (KI K)) : WW l γ 4 4 ad shC 12 [] [] σ := by
  unfold f_X6_letter_b12 at h
  refine r_iconst hc (v := (-1)) (by decide) dX6_letter_12 ?_
  have h := wp_v h
  exact r_iret hc h dX6_letter_13
noncomputable def f_X6_letter_b64 (s0 : Int32) (σ : Hp) : Option (Int32 × Hp) := some (s0, σ)
set_option maxRecDepth 100000 in
set_option maxHeartbeats 4000000 in
theorem t_X6_letter_b64 {l : Launch} {γ : Gm} {ad : Nat → Nat} {K : Option Value → Hp → Prop} (hc : Cx l γ 4 4 ad shC RX6 cX6_letter (some .int) K) {s0 : Int32} {σ : Hp} (h : wpO (f_X6_letter_b64 s0 σ) (KI K)) : WW l γ 4 4 ad shC 64 [] [.int s0] σ := by
  unfold f_X6_letter_b64 at h
  have h := wp_v h
  exact r_iret hc h dX6_letter_64
noncomputable def f_X6_letter (x0 : Nat) (x1 : Int32) (x2 : Int32) (σ : Hp) : Option (Int32 × Hp) := bO (f_X6_noDrawer x1 σ) fun r1 σ2 => if r1 = 0 then (if (-1) ≤ x2 then (gO (chk shC x0 6) fun _ => bO (f_X6_in x0 x1 σ2) fun r3 σ4 => gO (chk shC r3 1) fun _ => bO (f_X1_isEmpty r3 σ4) fun r6 σ7 => if r6 = 0 then (gO (chk shC x0 6) fun _ => bO (f_X6_in x0 x1 σ7) fun r9 σ10 => gO (getR shC 6 x0 12 σ10) fun v12 => gO (chk shC r9 1) fun _ => bO (f_X1_write r9 v12 σ10) fun r13 σ14 => if x2 = (-1) then (some (r13, σ14)) else (if r13 ≤ x2 then (f_X6_letter_b64 (-3) σ14) else (gO (getR shC 6 x0 12 σ14) fun v16 => gO (aldI shC 0 v16 x2 σ14) fun v17 => f_X6_letter_b64 v17 σ14))) else (some ((-2), σ7))) else (f_X6_letter_b12  σ2)) else (f_X6_letter_b12  σ2)
set_option maxRecDepth 100000 in
set_option maxHeartbeats 4000000 in
theorem t_X6_letter {l : Launch} {γ : Gm} {ad : Nat → Nat} {K : Option Value → Hp → Prop} (hc : Cx l γ 4 4 ad shC RX6 cX6_letter (some .int) K) {x0 : Nat} {x1 : Int32} {x2 : Int32} {σ : Hp} (h : wpO (f_X6_letter x0 x1 x2 σ) (KI K)) : WW l γ 4 4 ad shC 0 [(0, .ref (ad x0)), (1, .int x1), (2, .int x2)] [] σ := by
  unfold f_X6_letter at h
  refine r_iload_n hc 1 rfl rfl dX6_letter_0 ?_
  obtain ⟨r1, σ2, er1, h⟩ := wp_b h
  refine r_callS hc ms_X6_noDrawer ml_X6_76 (c_X6_noDrawer er1) rfl rfl (by decide) rfl (Nat.le_of_ble_eq_true rfl) dX6_letter_1 ?_
  refine r_if_ne hc (tgt := 12) dX6_letter_4 (by decide) (fun c => ?_) (fun c => ?_)
  · have h := wp_f c h
    refine r_sub [] (lv' := []) rfl ?_
    exact t_X6_letter_b12 hc h
  · have h := wp_t c h
    refine r_iload_n hc 2 rfl rfl dX6_letter_7 ?_
    refine r_iconst hc (v := (-1)) (by decide) dX6_letter_8 ?_
    refine r_icmp_ge hc (tgt := 14) dX6_letter_9 (by decide) (fun c => ?_) (fun c => ?_)
    · have h := wp_t c h
      refine r_aload_n hc 0 rfl rfl dX6_letter_14 ?_
      refine r_iload_n hc 1 rfl rfl dX6_letter_15 ?_
      obtain ⟨_, ek5, h⟩ := wp_g h
      obtain ⟨r3, σ4, er3, h⟩ := wp_b h
      refine r_callV hc (k0 := x0) mv_X6_in ml_X6_91 (c_X6_in er3) (chk_of ek5) cls_6.1 rfl rfl rfl (by decide) rfl (Nat.le_of_ble_eq_true rfl) dX6_letter_16 ?_
      obtain ⟨_, ek8, h⟩ := wp_g h
      obtain ⟨r6, σ7, er6, h⟩ := wp_b h
      refine r_callV hc (k0 := r3) mv_X1_isEmpty ml_X6_109 (c_X1_isEmpty er6) (chk_of ek8) cls_1.1 rfl rfl rfl (by decide) rfl (Nat.le_of_ble_eq_true rfl) dX6_letter_19 ?_
      refine r_if_eq hc (tgt := 28) dX6_letter_22 (by decide) (fun c => ?_) (fun c => ?_)
      · have h := wp_t c h
        refine r_aload_n hc 0 rfl rfl dX6_letter_28 ?_
        refine r_iload_n hc 1 rfl rfl dX6_letter_29 ?_
        obtain ⟨_, ek11, h⟩ := wp_g h
        obtain ⟨r9, σ10, er9, h⟩ := wp_b h
        refine r_callV hc (k0 := x0) mv_X6_in ml_X6_91 (c_X6_in er9) (chk_of ek11) cls_6.1 rfl rfl rfl (by decide) rfl (Nat.le_of_ble_eq_true rfl) dX6_letter_30 ?_
        refine r_aload_n hc 0 rfl rfl dX6_letter_33 ?_
        obtain ⟨v12, ev12, h⟩ := wp_g h
        refine r_getR hc ev12 fl_X6_65 rfl dX6_letter_34 ?_
        obtain ⟨_, ek15, h⟩ := wp_g h
        obtain ⟨r13, σ14, er13, h⟩ := wp_b h
        refine r_callV hc (k0 := r9) mv_X1_write ml_X6_364 (c_X1_write er13) (chk_of ek15) cls_1.1 rfl rfl rfl (by decide) rfl (Nat.le_of_ble_eq_true rfl) dX6_letter_37 ?_
        refine r_istore_nE hc (i := 3) (lv' := [(3, .int r13), (0, .ref (ad x0)), (1, .int x1), (2, .int x2)]) rfl rfl (by decide) rfl dX6_letter_40 ?_
        refine r_iload_n hc 3 rfl rfl dX6_letter_41 ?_
        refine r_iconst hc (v := (-1)) (by decide) dX6_letter_42 ?_
        refine r_icmp_ne hc (tgt := 48) dX6_letter_43 (by decide) (fun c => ?_) (fun c => ?_)
        · have h := wp_f c h
          refine r_iload_n hc 3 rfl rfl dX6_letter_48 ?_
          refine r_iload_n hc 0 rfl rfl dX6_letter_49 ?_
          refine r_icmp_ge hc (tgt := 62) dX6_letter_50 (by decide) (fun c => ?_) (fun c => ?_)
          · have h := wp_t c h
            refine r_bipush hc (v := (-3)) (by decide) dX6_letter_62 ?_
            refine r_sub [] (lv' := []) rfl ?_
            exact t_X6_letter_b64 hc h
          · have h := wp_f c h
            refine r_aload_n hc 1 rfl rfl dX6_letter_53 ?_
            obtain ⟨v16, ev16, h⟩ := wp_g h
            refine r_getR hc ev16 fl_X6_65 rfl dX6_letter_54 ?_
            refine r_iload_n hc 3 rfl rfl dX6_letter_57 ?_
            obtain ⟨v17, ev17, h⟩ := wp_g h
            refine r_iald hc ev17 dX6_letter_58 ?_
            refine r_goto hc (tgt := 64) dX6_letter_59 (by decide) ?_
            refine r_sub [] (lv' := []) rfl ?_
            exact t_X6_letter_b64 hc h
        · have h := wp_t c h
          refine r_iload_n hc 0 rfl rfl dX6_letter_46 ?_
          have h := wp_v h
          exact r_iret hc h dX6_letter_47
      · have h := wp_f c h
        refine r_bipush hc (v := (-2)) (by decide) dX6_letter_25 ?_
        have h := wp_v h
        exact r_iret hc h dX6_letter_27
    · have h := wp_f c h
      refine r_sub [] (lv' := []) rfl ?_
      exact t_X6_letter_b12 hc h
theorem c_X6_letter {l : Launch} {x0 : Nat} {x1 : Int32} {x2 : Int32} {σ σ' : Hp} {r : Int32} (h : f_X6_letter x0 x1 x2 σ = some (r, σ')) : Mt l yX6_letter cX6_letter 4 (some .int) 4 shC (fun ad => [.ref (ad x0), .int x1, .int x2]) σ (fun ad => some (.int r)) σ' := mt_i (own := RX6) (by decide) rfl (fun _ => Nat.le_of_ble_eq_true rfl) (fun γ ad K hc hk => t_X6_letter hc ⟨_, _, h, hk⟩)

-- NetMaps.fullDrawers()I
theorem dX6_fullDrawers_0 : decode cX6_fullDrawers 0 = .ok (.iconst 0, 1) := by decide +kernel
theorem dX6_fullDrawers_1 : decode cX6_fullDrawers 1 = .ok (.istore_n 1, 1) := by decide +kernel
theorem dX6_fullDrawers_2 : decode cX6_fullDrawers 2 = .ok (.iconst 0, 1) := by decide +kernel
theorem dX6_fullDrawers_3 : decode cX6_fullDrawers 3 = .ok (.istore_n 2, 1) := by decide +kernel
theorem dX6_fullDrawers_4 : decode cX6_fullDrawers 4 = .ok (.iload_n 2, 1) := by decide +kernel
theorem dX6_fullDrawers_5 : decode cX6_fullDrawers 5 = .ok (.bipush 6, 2) := by decide +kernel
theorem dX6_fullDrawers_7 : decode cX6_fullDrawers 7 = .ok (.if_icmp .ge 26, 3) := by decide +kernel
theorem dX6_fullDrawers_10 : decode cX6_fullDrawers 10 = .ok (.aload_n 0, 1) := by decide +kernel
theorem dX6_fullDrawers_11 : decode cX6_fullDrawers 11 = .ok (.iload_n 2, 1) := by decide +kernel
theorem dX6_fullDrawers_12 : decode cX6_fullDrawers 12 = .ok (.invokevirtual 91, 3) := by decide +kernel
theorem dX6_fullDrawers_15 : decode cX6_fullDrawers 15 = .ok (.invokevirtual 109, 3) := by decide +kernel
theorem dX6_fullDrawers_18 : decode cX6_fullDrawers 18 = .ok (.ifCond .ne 9, 3) := by decide +kernel
theorem dX6_fullDrawers_21 : decode cX6_fullDrawers 21 = .ok (.iload_n 1, 1) := by decide +kernel
theorem dX6_fullDrawers_22 : decode cX6_fullDrawers 22 = .ok (.iconst 1, 1) := by decide +kernel
theorem dX6_fullDrawers_23 : decode cX6_fullDrawers 23 = .ok (.iload_n 2, 1) := by decide +kernel
theorem dX6_fullDrawers_24 : decode cX6_fullDrawers 24 = .ok (.ishl, 1) := by decide +kernel
theorem dX6_fullDrawers_25 : decode cX6_fullDrawers 25 = .ok (.ior, 1) := by decide +kernel
theorem dX6_fullDrawers_26 : decode cX6_fullDrawers 26 = .ok (.istore_n 1, 1) := by decide +kernel
theorem dX6_fullDrawers_27 : decode cX6_fullDrawers 27 = .ok (.iinc 2 1, 3) := by decide +kernel
theorem dX6_fullDrawers_30 : decode cX6_fullDrawers 30 = .ok (.goto (-26), 3) := by decide +kernel
theorem dX6_fullDrawers_33 : decode cX6_fullDrawers 33 = .ok (.iload_n 1, 1) := by decide +kernel
theorem dX6_fullDrawers_34 : decode cX6_fullDrawers 34 = .ok (.ireturn, 1) := by decide +kernel
noncomputable def f_X6_fullDrawers_b27 (x0 : Nat) (x1 : Int32) (x2 : Int32) (σ : Hp) : Option (((Int32 × Int32) ⊕ (Int32)) × Hp) := some (Sum.inl (x1, (x2 + 1)), σ)
set_option maxRecDepth 100000 in
set_option maxHeartbeats 4000000 in
theorem t_X6_fullDrawers_b27 {l : Launch} {γ : Gm} {ad : Nat → Nat} {K : Option Value → Hp → Prop} (hc : Cx l γ 2 3 ad shC RX6 cX6_fullDrawers (some .int) K) {x0 : Nat} {x1 : Int32} {x2 : Int32}  {σ : Hp} {KL : ((Int32 × Int32) ⊕ (Int32)) → Hp → Prop} (h : wpO (f_X6_fullDrawers_b27 x0 x1 x2 σ) KL) (kn : ∀ (v : (Int32 × Int32)) (σ : Hp), KL (Sum.inl v) σ → WW l γ 2 3 ad shC 4 [(0, .ref (ad x0)), (1, .int v.1), (2, .int v.2)] [] σ) (kx33 : ∀ (v : Int32) (σ : Hp), KL (Sum.inr v) σ → WW l γ 2 3 ad shC 33 [(1, .int v)] [] σ) : WW l γ 2 3 ad shC 27 [(0, .ref (ad x0)), (1, .int x1), (2, .int x2)] [] σ := by
  unfold f_X6_fullDrawers_b27 at h
  refine r_iincE hc (j := 2) (w := 1) (lv' := [(2, .int (x2 + 1)), (0, .ref (ad x0)), (1, .int x1)]) rfl (by decide) rfl (by decide) rfl dX6_fullDrawers_27 ?_
  refine r_goto hc (tgt := 4) dX6_fullDrawers_30 (by decide) ?_
  refine r_sub [1, 2, 0] (lv' := [(0, .ref (ad x0)), (1, .int x1), (2, .int (x2 + 1))]) rfl ?_
  have h := wp_v h
  exact kn (x1, (x2 + 1)) _ h
noncomputable def f_X6_fullDrawers_L4 (x0 : Nat) (v : (Int32 × Int32)) (σ : Hp) : Option (((Int32 × Int32) ⊕ (Int32)) × Hp) := if 6 ≤ v.2 then (some (Sum.inr v.1, σ)) else (gO (chk shC x0 6) fun _ => bO (f_X6_in x0 v.2 σ) fun r1 σ2 => gO (chk shC r1 1) fun _ => bO (f_X1_isEmpty r1 σ2) fun r4 σ5 => if r4 = 0 then (lt' ((v.1 ||| ((1 : Int32) <<< (v.2 &&& 31)))) fun t7 => f_X6_fullDrawers_b27 x0 t7 v.2 σ5) else (f_X6_fullDrawers_b27 x0 v.1 v.2 σ5))
set_option maxRecDepth 100000 in
set_option maxHeartbeats 4000000 in
theorem t_X6_fullDrawers_L4 {l : Launch} {γ : Gm} {ad : Nat → Nat} {K : Option Value → Hp → Prop}  (hc : Cx l γ 2 3 ad shC RX6 cX6_fullDrawers (some .int) K) {x0 : Nat} {v : (Int32 × Int32)} {σ : Hp} {KX : (Int32) → Hp → Prop} (h : wpO (wh (f_X6_fullDrawers_L4 x0) v σ) KX) (kx33 : ∀ (v : Int32) (σ : Hp), KX v σ → WW l γ 2 3 ad shC 33 [(1, .int v)] [] σ) : WW l γ 2 3 ad shC 4 [(0, .ref (ad x0)), (1, .int v.1), (2, .int v.2)] [] σ := by
  refine wh_W (P := fun v σ => WW l γ 2 3 ad shC 4 [(0, .ref (ad x0)), (1, .int v.1), (2, .int v.2)] [] σ) (fun v σ h => ?_) h
  have kn : ∀ (v : (Int32 × Int32)) (σ : Hp), WW l γ 2 3 ad shC 4 [(0, .ref (ad x0)), (1, .int v.1), (2, .int v.2)] [] σ → WW l γ 2 3 ad shC 4 [(0, .ref (ad x0)), (1, .int v.1), (2, .int v.2)] [] σ := fun _ _ h => h
  · unfold f_X6_fullDrawers_L4 at h
    refine r_iload_n hc 2 rfl rfl dX6_fullDrawers_4 ?_
    refine r_bipush hc (v := 6) (by decide) dX6_fullDrawers_5 ?_
    refine r_icmp_ge hc (tgt := 33) dX6_fullDrawers_7 (by decide) (fun c => ?_) (fun c => ?_)
    · have h := wp_t c h
      refine r_sub [1] (lv' := [(1, .int v.1)]) rfl ?_
      have h := wp_v h
      exact kx33 v.1 _ h
    · have h := wp_f c h
      refine r_aload_n hc 0 rfl rfl dX6_fullDrawers_10 ?_
      refine r_iload_n hc 2 rfl rfl dX6_fullDrawers_11 ?_
      obtain ⟨_, ek3, h⟩ := wp_g h
      obtain ⟨r1, σ2, er1, h⟩ := wp_b h
      refine r_callV hc (k0 := x0) mv_X6_in ml_X6_91 (c_X6_in er1) (chk_of ek3) cls_6.1 rfl rfl rfl (by decide) rfl (Nat.le_of_ble_eq_true rfl) dX6_fullDrawers_12 ?_
      obtain ⟨_, ek6, h⟩ := wp_g h
      obtain ⟨r4, σ5, er4, h⟩ := wp_b h
      refine r_callV hc (k0 := r1) mv_X1_isEmpty ml_X6_109 (c_X1_isEmpty er4) (chk_of ek6) cls_1.1 rfl rfl rfl (by decide) rfl (Nat.le_of_ble_eq_true rfl) dX6_fullDrawers_15 ?_
      refine r_if_ne hc (tgt := 27) dX6_fullDrawers_18 (by decide) (fun c => ?_) (fun c => ?_)
      · have h := wp_f c h
        exact t_X6_fullDrawers_b27 hc h kn kx33
      · have h := wp_t c h
        refine r_iload_n hc 1 rfl rfl dX6_fullDrawers_21 ?_
        refine r_iconst hc (v := 1) (by decide) dX6_fullDrawers_22 ?_
        refine r_iload_n hc 2 rfl rfl dX6_fullDrawers_23 ?_
        refine r_ishl hc dX6_fullDrawers_24 ?_
        refine r_ior hc dX6_fullDrawers_25 ?_
        obtain ⟨t7, et7, h⟩ := wp_l h
        refine r_istore_nE hc (i := 1) (lv' := [(1, .int t7), (0, .ref (ad x0)), (2, .int v.2)]) et7 rfl (by decide) rfl dX6_fullDrawers_26 ?_
        refine r_sub [1, 0, 2] (lv' := [(0, .ref (ad x0)), (1, .int t7), (2, .int v.2)]) rfl ?_
        exact t_X6_fullDrawers_b27 hc h kn kx33
noncomputable def f_X6_fullDrawers (x0 : Nat) (σ : Hp) : Option (Int32 × Hp) := bO (wh (f_X6_fullDrawers_L4 x0) (0, 0) σ) fun y1 σ2 => (some (y1, σ2))
set_option maxRecDepth 100000 in
set_option maxHeartbeats 4000000 in
theorem t_X6_fullDrawers {l : Launch} {γ : Gm} {ad : Nat → Nat} {K : Option Value → Hp → Prop} (hc : Cx l γ 2 3 ad shC RX6 cX6_fullDrawers (some .int) K) {x0 : Nat} {σ : Hp} (h : wpO (f_X6_fullDrawers x0 σ) (KI K)) : WW l γ 2 3 ad shC 0 [(0, .ref (ad x0))] [] σ := by
  unfold f_X6_fullDrawers at h
  refine r_iconst hc (v := 0) (by decide) dX6_fullDrawers_0 ?_
  refine r_istore_nE hc (i := 1) (lv' := [(1, .int 0), (0, .ref (ad x0))]) rfl rfl (by decide) rfl dX6_fullDrawers_1 ?_
  refine r_iconst hc (v := 0) (by decide) dX6_fullDrawers_2 ?_
  refine r_istore_nE hc (i := 2) (lv' := [(2, .int 0), (1, .int 0), (0, .ref (ad x0))]) rfl rfl (by decide) rfl dX6_fullDrawers_3 ?_
  refine r_sub [2, 1, 0] (lv' := [(0, .ref (ad x0)), (1, .int 0), (2, .int 0)]) rfl ?_
  refine t_X6_fullDrawers_L4 hc (wp_bb h) ?_
  · intro y1 σ2 h
    refine r_iload_n hc 0 rfl rfl dX6_fullDrawers_33 ?_
    have h := wp_v h
    exact r_iret hc h dX6_fullDrawers_34
theorem c_X6_fullDrawers {l : Launch} {x0 : Nat} {σ σ' : Hp} {r : Int32} (h : f_X6_fullDrawers x0 σ = some (r, σ')) : Mt l yX6_fullDrawers cX6_fullDrawers 3 (some .int) 2 shC (fun ad => [.ref (ad x0)]) σ (fun ad => some (.int r)) σ' := mt_i (own := RX6) (by decide) rfl (fun _ => Nat.le_of_ble_eq_true rfl) (fun γ ad K hc hk => t_X6_fullDrawers hc ⟨_, _, h, hk⟩)

-- NetMaps.count(I)I
theorem dX6_count_0 : decode cX6_count 0 = .ok (.iload_n 1, 1) := by decide +kernel
theorem dX6_count_1 : decode cX6_count 1 = .ok (.ifCond .ne 8, 3) := by decide +kernel
theorem dX6_count_4 : decode cX6_count 4 = .ok (.aload_n 0, 1) := by decide +kernel
theorem dX6_count_5 : decode cX6_count 5 = .ok (.invokevirtual 367, 3) := by decide +kernel
theorem dX6_count_8 : decode cX6_count 8 = .ok (.ireturn, 1) := by decide +kernel
theorem dX6_count_9 : decode cX6_count 9 = .ok (.iload_n 1, 1) := by decide +kernel
theorem dX6_count_10 : decode cX6_count 10 = .ok (.iconst 1, 1) := by decide +kernel
theorem dX6_count_11 : decode cX6_count 11 = .ok (.if_icmp .ne 8, 3) := by decide +kernel
theorem dX6_count_14 : decode cX6_count 14 = .ok (.aload_n 0, 1) := by decide +kernel
theorem dX6_count_15 : decode cX6_count 15 = .ok (.getfield 68, 3) := by decide +kernel
theorem dX6_count_18 : decode cX6_count 18 = .ok (.ireturn, 1) := by decide +kernel
theorem dX6_count_19 : decode cX6_count 19 = .ok (.iload_n 1, 1) := by decide +kernel
theorem dX6_count_20 : decode cX6_count 20 = .ok (.iconst 2, 1) := by decide +kernel
theorem dX6_count_21 : decode cX6_count 21 = .ok (.if_icmp .ne 8, 3) := by decide +kernel
theorem dX6_count_24 : decode cX6_count 24 = .ok (.aload_n 0, 1) := by decide +kernel
theorem dX6_count_25 : decode cX6_count 25 = .ok (.getfield 370, 3) := by decide +kernel
theorem dX6_count_28 : decode cX6_count 28 = .ok (.ireturn, 1) := by decide +kernel
theorem dX6_count_29 : decode cX6_count 29 = .ok (.iload_n 1, 1) := by decide +kernel
theorem dX6_count_30 : decode cX6_count 30 = .ok (.bipush 10, 2) := by decide +kernel
theorem dX6_count_32 : decode cX6_count 32 = .ok (.if_icmp .lt 22, 3) := by decide +kernel
theorem dX6_count_35 : decode cX6_count 35 = .ok (.iload_n 1, 1) := by decide +kernel
theorem dX6_count_36 : decode cX6_count 36 = .ok (.bipush 17, 2) := by decide +kernel
theorem dX6_count_38 : decode cX6_count 38 = .ok (.if_icmp .ge 16, 3) := by decide +kernel
theorem dX6_count_41 : decode cX6_count 41 = .ok (.aload_n 0, 1) := by decide +kernel
theorem dX6_count_42 : decode cX6_count 42 = .ok (.getfield 10, 3) := by decide +kernel
theorem dX6_count_45 : decode cX6_count 45 = .ok (.getfield 213, 3) := by decide +kernel
theorem dX6_count_48 : decode cX6_count 48 = .ok (.iload_n 1, 1) := by decide +kernel
theorem dX6_count_49 : decode cX6_count 49 = .ok (.bipush 10, 2) := by decide +kernel
theorem dX6_count_51 : decode cX6_count 51 = .ok (.isub, 1) := by decide +kernel
theorem dX6_count_52 : decode cX6_count 52 = .ok (.iaload, 1) := by decide +kernel
theorem dX6_count_53 : decode cX6_count 53 = .ok (.ireturn, 1) := by decide +kernel
theorem dX6_count_54 : decode cX6_count 54 = .ok (.iload_n 1, 1) := by decide +kernel
theorem dX6_count_55 : decode cX6_count 55 = .ok (.bipush 20, 2) := by decide +kernel
theorem dX6_count_57 : decode cX6_count 57 = .ok (.if_icmp .lt 22, 3) := by decide +kernel
theorem dX6_count_60 : decode cX6_count 60 = .ok (.iload_n 1, 1) := by decide +kernel
theorem dX6_count_61 : decode cX6_count 61 = .ok (.bipush 27, 2) := by decide +kernel
theorem dX6_count_63 : decode cX6_count 63 = .ok (.if_icmp .ge 16, 3) := by decide +kernel
theorem dX6_count_66 : decode cX6_count 66 = .ok (.aload_n 0, 1) := by decide +kernel
theorem dX6_count_67 : decode cX6_count 67 = .ok (.getfield 10, 3) := by decide +kernel
theorem dX6_count_70 : decode cX6_count 70 = .ok (.getfield 266, 3) := by decide +kernel
theorem dX6_count_73 : decode cX6_count 73 = .ok (.iload_n 1, 1) := by decide +kernel
theorem dX6_count_74 : decode cX6_count 74 = .ok (.bipush 20, 2) := by decide +kernel
theorem dX6_count_76 : decode cX6_count 76 = .ok (.isub, 1) := by decide +kernel
theorem dX6_count_77 : decode cX6_count 77 = .ok (.iaload, 1) := by decide +kernel
theorem dX6_count_78 : decode cX6_count 78 = .ok (.ireturn, 1) := by decide +kernel
theorem dX6_count_79 : decode cX6_count 79 = .ok (.iconst (-1), 1) := by decide +kernel
theorem dX6_count_80 : decode cX6_count 80 = .ok (.ireturn, 1) := by decide +kernel
noncomputable def f_X6_count_b79  (σ : Hp) : Option (Int32 × Hp) := some ((-1), σ)
set_option maxRecDepth 100000 in
set_option maxHeartbeats 4000000 in
theorem t_X6_count_b79 {l : Launch} {γ : Gm} {ad : Nat → Nat} {K : Option Value → Hp → Prop} (hc : Cx l γ 3 2 ad shC RX6 cX6_count (some .int) K)  {σ : Hp} (h : wpO (f_X6_count_b79  σ) (KI K)) : WW l γ 3 2 ad shC 79 [] [] σ := by
  unfold f_X6_count_b79 at h
  refine r_iconst hc (v := (-1)) (by decide) dX6_count_79 ?_
  have h := wp_v h
  exact r_iret hc h dX6_count_80
noncomputable def f_X6_count_b54 (x0 : Nat) (x1 : Int32) (σ : Hp) : Option (Int32 × Hp) := if x1 < 20 then (f_X6_count_b79  σ) else (if 27 ≤ x1 then (f_X6_count_b79  σ) else (gO (getR shC 6 x0 0 σ) fun v1 => gO (getR shC 5 v1 2 σ) fun v2 => gO (aldI shC 0 v2 (x1 - 20) σ) fun v3 => some (v3, σ)))
set_option maxRecDepth 100000 in
set_option maxHeartbeats 4000000 in
theorem t_X6_count_b54 {l : Launch} {γ : Gm} {ad : Nat → Nat} {K : Option Value → Hp → Prop} (hc : Cx l γ 3 2 ad shC RX6 cX6_count (some .int) K) {x0 : Nat} {x1 : Int32} {σ : Hp} (h : wpO (f_X6_count_b54 x0 x1 σ) (KI K)) : WW l γ 3 2 ad shC 54 [(0, .ref (ad x0)), (1, .int x1)] [] σ := by
  unfold f_X6_count_b54 at h
  refine r_iload_n hc 1 rfl rfl dX6_count_54 ?_
  refine r_bipush hc (v := 20) (by decide) dX6_count_55 ?_
  refine r_icmp_lt hc (tgt := 79) dX6_count_57 (by decide) (fun c => ?_) (fun c => ?_)
  · have h := wp_t c h
    refine r_sub [] (lv' := []) rfl ?_
    exact t_X6_count_b79 hc h
  · have h := wp_f c h
    refine r_iload_n hc 1 rfl rfl dX6_count_60 ?_
    refine r_bipush hc (v := 27) (by decide) dX6_count_61 ?_
    refine r_icmp_ge hc (tgt := 79) dX6_count_63 (by decide) (fun c => ?_) (fun c => ?_)
    · have h := wp_t c h
      refine r_sub [] (lv' := []) rfl ?_
      exact t_X6_count_b79 hc h
    · have h := wp_f c h
      refine r_aload_n hc 0 rfl rfl dX6_count_66 ?_
      obtain ⟨v1, ev1, h⟩ := wp_g h
      refine r_getR hc ev1 fl_X6_10 rfl dX6_count_67 ?_
      obtain ⟨v2, ev2, h⟩ := wp_g h
      refine r_getR hc ev2 fl_X6_266 rfl dX6_count_70 ?_
      refine r_iload_n hc 1 rfl rfl dX6_count_73 ?_
      refine r_bipush hc (v := 20) (by decide) dX6_count_74 ?_
      refine r_isub hc dX6_count_76 ?_
      obtain ⟨v3, ev3, h⟩ := wp_g h
      refine r_iald hc ev3 dX6_count_77 ?_
      have h := wp_v h
      exact r_iret hc h dX6_count_78
noncomputable def f_X6_count (x0 : Nat) (x1 : Int32) (σ : Hp) : Option (Int32 × Hp) := if x1 = 0 then (gO (chk shC x0 6) fun _ => bO (f_X6_fullDrawers x0 σ) fun r6 σ7 => some (r6, σ7)) else (if x1 = 1 then (gO (getI shC 6 x0 4 σ) fun v5 => some (v5, σ)) else (if x1 = 2 then (gO (getI shC 6 x0 2 σ) fun v4 => some (v4, σ)) else (if x1 < 10 then (f_X6_count_b54 x0 x1 σ) else (if 17 ≤ x1 then (f_X6_count_b54 x0 x1 σ) else (gO (getR shC 6 x0 0 σ) fun v1 => gO (getR shC 5 v1 1 σ) fun v2 => gO (aldI shC 0 v2 (x1 - 10) σ) fun v3 => some (v3, σ))))))
set_option maxRecDepth 100000 in
set_option maxHeartbeats 4000000 in
theorem t_X6_count {l : Launch} {γ : Gm} {ad : Nat → Nat} {K : Option Value → Hp → Prop} (hc : Cx l γ 3 2 ad shC RX6 cX6_count (some .int) K) {x0 : Nat} {x1 : Int32} {σ : Hp} (h : wpO (f_X6_count x0 x1 σ) (KI K)) : WW l γ 3 2 ad shC 0 [(0, .ref (ad x0)), (1, .int x1)] [] σ := by
  unfold f_X6_count at h
  refine r_iload_n hc 1 rfl rfl dX6_count_0 ?_
  refine r_if_ne hc (tgt := 9) dX6_count_1 (by decide) (fun c => ?_) (fun c => ?_)
  · have h := wp_f c h
    refine r_iload_n hc 1 rfl rfl dX6_count_9 ?_
    refine r_iconst hc (v := 1) (by decide) dX6_count_10 ?_
    refine r_icmp_ne hc (tgt := 19) dX6_count_11 (by decide) (fun c => ?_) (fun c => ?_)
    · have h := wp_f c h
      refine r_iload_n hc 1 rfl rfl dX6_count_19 ?_
      refine r_iconst hc (v := 2) (by decide) dX6_count_20 ?_
      refine r_icmp_ne hc (tgt := 29) dX6_count_21 (by decide) (fun c => ?_) (fun c => ?_)
      · have h := wp_f c h
        refine r_iload_n hc 1 rfl rfl dX6_count_29 ?_
        refine r_bipush hc (v := 10) (by decide) dX6_count_30 ?_
        refine r_icmp_lt hc (tgt := 54) dX6_count_32 (by decide) (fun c => ?_) (fun c => ?_)
        · have h := wp_t c h
          exact t_X6_count_b54 hc h
        · have h := wp_f c h
          refine r_iload_n hc 1 rfl rfl dX6_count_35 ?_
          refine r_bipush hc (v := 17) (by decide) dX6_count_36 ?_
          refine r_icmp_ge hc (tgt := 54) dX6_count_38 (by decide) (fun c => ?_) (fun c => ?_)
          · have h := wp_t c h
            exact t_X6_count_b54 hc h
          · have h := wp_f c h
            refine r_aload_n hc 0 rfl rfl dX6_count_41 ?_
            obtain ⟨v1, ev1, h⟩ := wp_g h
            refine r_getR hc ev1 fl_X6_10 rfl dX6_count_42 ?_
            obtain ⟨v2, ev2, h⟩ := wp_g h
            refine r_getR hc ev2 fl_X6_213 rfl dX6_count_45 ?_
            refine r_iload_n hc 1 rfl rfl dX6_count_48 ?_
            refine r_bipush hc (v := 10) (by decide) dX6_count_49 ?_
            refine r_isub hc dX6_count_51 ?_
            obtain ⟨v3, ev3, h⟩ := wp_g h
            refine r_iald hc ev3 dX6_count_52 ?_
            have h := wp_v h
            exact r_iret hc h dX6_count_53
      · have h := wp_t c h
        refine r_aload_n hc 0 rfl rfl dX6_count_24 ?_
        obtain ⟨v4, ev4, h⟩ := wp_g h
        refine r_getI hc ev4 fl_X6_370 rfl dX6_count_25 ?_
        have h := wp_v h
        exact r_iret hc h dX6_count_28
    · have h := wp_t c h
      refine r_aload_n hc 0 rfl rfl dX6_count_14 ?_
      obtain ⟨v5, ev5, h⟩ := wp_g h
      refine r_getI hc ev5 fl_X6_68 rfl dX6_count_15 ?_
      have h := wp_v h
      exact r_iret hc h dX6_count_18
  · have h := wp_t c h
    refine r_aload_n hc 0 rfl rfl dX6_count_4 ?_
    obtain ⟨_, ek8, h⟩ := wp_g h
    obtain ⟨r6, σ7, er6, h⟩ := wp_b h
    refine r_callV hc (k0 := x0) mv_X6_fullDrawers ml_X6_367 (c_X6_fullDrawers er6) (chk_of ek8) cls_6.1 rfl rfl rfl (by decide) rfl (Nat.le_of_ble_eq_true rfl) dX6_count_5 ?_
    have h := wp_v h
    exact r_iret hc h dX6_count_8
theorem c_X6_count {l : Launch} {x0 : Nat} {x1 : Int32} {σ σ' : Hp} {r : Int32} (h : f_X6_count x0 x1 σ = some (r, σ')) : Mt l yX6_count cX6_count 2 (some .int) 3 shC (fun ad => [.ref (ad x0), .int x1]) σ (fun ad => some (.int r)) σ' := mt_i (own := RX6) (by decide) rfl (fun _ => Nat.le_of_ble_eq_true rfl) (fun γ ad K hc hk => t_X6_count hc ⟨_, _, h, hk⟩)

-- NetMaps$State.like(LNetMaps$State;)V
theorem dX5_like_0 : decode cX5_like 0 = .ok (.iconst 0, 1) := by decide +kernel
theorem dX5_like_1 : decode cX5_like 1 = .ok (.istore_n 2, 1) := by decide +kernel
theorem dX5_like_2 : decode cX5_like 2 = .ok (.iload_n 2, 1) := by decide +kernel
theorem dX5_like_3 : decode cX5_like 3 = .ok (.bipush 6, 2) := by decide +kernel
theorem dX5_like_5 : decode cX5_like 5 = .ok (.if_icmp .ge 24, 3) := by decide +kernel
theorem dX5_like_8 : decode cX5_like 8 = .ok (.aload_n 0, 1) := by decide +kernel
theorem dX5_like_9 : decode cX5_like 9 = .ok (.getfield 11, 3) := by decide +kernel
theorem dX5_like_12 : decode cX5_like 12 = .ok (.iload_n 2, 1) := by decide +kernel
theorem dX5_like_13 : decode cX5_like 13 = .ok (.aaload, 1) := by decide +kernel
theorem dX5_like_14 : decode cX5_like 14 = .ok (.aload_n 1, 1) := by decide +kernel
theorem dX5_like_15 : decode cX5_like 15 = .ok (.getfield 11, 3) := by decide +kernel
theorem dX5_like_18 : decode cX5_like 18 = .ok (.iload_n 2, 1) := by decide +kernel
theorem dX5_like_19 : decode cX5_like 19 = .ok (.aaload, 1) := by decide +kernel
theorem dX5_like_20 : decode cX5_like 20 = .ok (.invokevirtual 25, 3) := by decide +kernel
theorem dX5_like_23 : decode cX5_like 23 = .ok (.iinc 2 1, 3) := by decide +kernel
theorem dX5_like_26 : decode cX5_like 26 = .ok (.goto (-24), 3) := by decide +kernel
theorem dX5_like_29 : decode cX5_like 29 = .ok (.iconst 0, 1) := by decide +kernel
theorem dX5_like_30 : decode cX5_like 30 = .ok (.istore_n 2, 1) := by decide +kernel
theorem dX5_like_31 : decode cX5_like 31 = .ok (.iload_n 2, 1) := by decide +kernel
theorem dX5_like_32 : decode cX5_like 32 = .ok (.bipush 7, 2) := by decide +kernel
theorem dX5_like_34 : decode cX5_like 34 = .ok (.if_icmp .ge 33, 3) := by decide +kernel
theorem dX5_like_37 : decode cX5_like 37 = .ok (.aload_n 0, 1) := by decide +kernel
theorem dX5_like_38 : decode cX5_like 38 = .ok (.getfield 17, 3) := by decide +kernel
theorem dX5_like_41 : decode cX5_like 41 = .ok (.iload_n 2, 1) := by decide +kernel
theorem dX5_like_42 : decode cX5_like 42 = .ok (.aload_n 1, 1) := by decide +kernel
theorem dX5_like_43 : decode cX5_like 43 = .ok (.getfield 17, 3) := by decide +kernel
theorem dX5_like_46 : decode cX5_like 46 = .ok (.iload_n 2, 1) := by decide +kernel
theorem dX5_like_47 : decode cX5_like 47 = .ok (.iaload, 1) := by decide +kernel
theorem dX5_like_48 : decode cX5_like 48 = .ok (.iastore, 1) := by decide +kernel
theorem dX5_like_49 : decode cX5_like 49 = .ok (.aload_n 0, 1) := by decide +kernel
theorem dX5_like_50 : decode cX5_like 50 = .ok (.getfield 21, 3) := by decide +kernel
theorem dX5_like_53 : decode cX5_like 53 = .ok (.iload_n 2, 1) := by decide +kernel
theorem dX5_like_54 : decode cX5_like 54 = .ok (.aload_n 1, 1) := by decide +kernel
theorem dX5_like_55 : decode cX5_like 55 = .ok (.getfield 21, 3) := by decide +kernel
theorem dX5_like_58 : decode cX5_like 58 = .ok (.iload_n 2, 1) := by decide +kernel
theorem dX5_like_59 : decode cX5_like 59 = .ok (.iaload, 1) := by decide +kernel
theorem dX5_like_60 : decode cX5_like 60 = .ok (.iastore, 1) := by decide +kernel
theorem dX5_like_61 : decode cX5_like 61 = .ok (.iinc 2 1, 3) := by decide +kernel
theorem dX5_like_64 : decode cX5_like 64 = .ok (.goto (-33), 3) := by decide +kernel
theorem dX5_like_67 : decode cX5_like 67 = .ok (.return_, 1) := by decide +kernel
noncomputable def f_X5_like_L2 (x0 : Nat) (x1 : Nat) (v : (Int32)) (σ : Hp) : Option (((Int32) ⊕ (Unit)) × Hp) := if 6 ≤ v then (some (Sum.inr (), σ)) else (gO (getR shC 5 x0 0 σ) fun v1 => gO (aldR shC 3 v1 v σ) fun v2 => gO (getR shC 5 x1 0 σ) fun v3 => gO (aldR shC 3 v3 v σ) fun v4 => gO (chk shC v2 1) fun _ => bO (f_X1_like v2 v4 σ) fun _ σ6 => some (Sum.inl (v + 1), σ6))
set_option maxRecDepth 100000 in
set_option maxHeartbeats 4000000 in
theorem t_X5_like_L2 {l : Launch} {γ : Gm} {ad : Nat → Nat} {K : Option Value → Hp → Prop}  (hc : Cx l γ 2 3 ad shC RX5 cX5_like none K) {x0 : Nat} {x1 : Nat} {v : (Int32)} {σ : Hp} {KX : (Unit) → Hp → Prop} (h : wpO (wh (f_X5_like_L2 x0 x1) v σ) KX) (kx29 : ∀ (v : Unit) (σ : Hp), KX v σ → WW l γ 2 3 ad shC 29 [(0, .ref (ad x0)), (1, .ref (ad x1))] [] σ) : WW l γ 2 3 ad shC 2 [(0, .ref (ad x0)), (1, .ref (ad x1)), (2, .int v)] [] σ := by
  refine wh_W (P := fun v σ => WW l γ 2 3 ad shC 2 [(0, .ref (ad x0)), (1, .ref (ad x1)), (2, .int v)] [] σ) (fun v σ h => ?_) h
  have kn : ∀ (v : (Int32)) (σ : Hp), WW l γ 2 3 ad shC 2 [(0, .ref (ad x0)), (1, .ref (ad x1)), (2, .int v)] [] σ → WW l γ 2 3 ad shC 2 [(0, .ref (ad x0)), (1, .ref (ad x1)), (2, .int v)] [] σ := fun _ _ h => h
  · unfold f_X5_like_L2 at h
    refine r_iload_n hc 2 rfl rfl dX5_like_2 ?_
    refine r_bipush hc (v := 6) (by decide) dX5_like_3 ?_
    refine r_icmp_ge hc (tgt := 29) dX5_like_5 (by decide) (fun c => ?_) (fun c => ?_)
    · have h := wp_t c h
      refine r_sub [0, 1] (lv' := [(0, .ref (ad x0)), (1, .ref (ad x1))]) rfl ?_
      have h := wp_v h
      exact kx29 () _ h
    · have h := wp_f c h
      refine r_aload_n hc 0 rfl rfl dX5_like_8 ?_
      obtain ⟨v1, ev1, h⟩ := wp_g h
      refine r_getR hc ev1 fl_X5_11 rfl dX5_like_9 ?_
      refine r_iload_n hc 2 rfl rfl dX5_like_12 ?_
      obtain ⟨v2, ev2, h⟩ := wp_g h
      refine r_aald3 hc ev2 dX5_like_13 ?_
      refine r_aload_n hc 1 rfl rfl dX5_like_14 ?_
      obtain ⟨v3, ev3, h⟩ := wp_g h
      refine r_getR hc ev3 fl_X5_11 rfl dX5_like_15 ?_
      refine r_iload_n hc 2 rfl rfl dX5_like_18 ?_
      obtain ⟨v4, ev4, h⟩ := wp_g h
      refine r_aald3 hc ev4 dX5_like_19 ?_
      obtain ⟨_, ek7, h⟩ := wp_g h
      obtain ⟨_, σ6, er5, h⟩ := wp_b h
      refine r_callV hc (k0 := v2) mv_X1_like ml_X5_25 (c_X1_like er5) (chk_of ek7) cls_1.1 rfl rfl rfl (by decide) rfl (Nat.le_of_ble_eq_true rfl) dX5_like_20 ?_
      refine r_iincE hc (j := 2) (w := 1) (lv' := [(2, .int (v + 1)), (0, .ref (ad x0)), (1, .ref (ad x1))]) rfl (by decide) rfl (by decide) rfl dX5_like_23 ?_
      refine r_goto hc (tgt := 2) dX5_like_26 (by decide) ?_
      refine r_sub [1, 2, 0] (lv' := [(0, .ref (ad x0)), (1, .ref (ad x1)), (2, .int (v + 1))]) rfl ?_
      have h := wp_v h
      exact kn (v + 1) _ h
noncomputable def f_X5_like_L31 (x0 : Nat) (x1 : Nat) (v : (Int32)) (σ : Hp) : Option (((Int32) ⊕ (Unit)) × Hp) := if 7 ≤ v then (some (Sum.inr (), σ)) else (gO (getR shC 5 x0 1 σ) fun v1 => gO (getR shC 5 x1 1 σ) fun v2 => gO (aldI shC 0 v2 v σ) fun v3 => gO (astI shC 0 v1 v v3 σ) fun σ4 => gO (getR shC 5 x0 2 σ4) fun v5 => gO (getR shC 5 x1 2 σ4) fun v6 => gO (aldI shC 0 v6 v σ4) fun v7 => gO (astI shC 0 v5 v v7 σ4) fun σ8 => some (Sum.inl (v + 1), σ8))
set_option maxRecDepth 100000 in
set_option maxHeartbeats 4000000 in
theorem t_X5_like_L31 {l : Launch} {γ : Gm} {ad : Nat → Nat} {K : Option Value → Hp → Prop}  (hc : Cx l γ 2 3 ad shC RX5 cX5_like none K) {x0 : Nat} {x1 : Nat} {v : (Int32)} {σ : Hp} {KX : (Unit) → Hp → Prop} (h : wpO (wh (f_X5_like_L31 x0 x1) v σ) KX) (kx67 : ∀ (v : Unit) (σ : Hp), KX v σ → WW l γ 2 3 ad shC 67 [] [] σ) : WW l γ 2 3 ad shC 31 [(0, .ref (ad x0)), (1, .ref (ad x1)), (2, .int v)] [] σ := by
  refine wh_W (P := fun v σ => WW l γ 2 3 ad shC 31 [(0, .ref (ad x0)), (1, .ref (ad x1)), (2, .int v)] [] σ) (fun v σ h => ?_) h
  have kn : ∀ (v : (Int32)) (σ : Hp), WW l γ 2 3 ad shC 31 [(0, .ref (ad x0)), (1, .ref (ad x1)), (2, .int v)] [] σ → WW l γ 2 3 ad shC 31 [(0, .ref (ad x0)), (1, .ref (ad x1)), (2, .int v)] [] σ := fun _ _ h => h
  · unfold f_X5_like_L31 at h
    refine r_iload_n hc 2 rfl rfl dX5_like_31 ?_
    refine r_bipush hc (v := 7) (by decide) dX5_like_32 ?_
    refine r_icmp_ge hc (tgt := 67) dX5_like_34 (by decide) (fun c => ?_) (fun c => ?_)
    · have h := wp_t c h
      refine r_sub [] (lv' := []) rfl ?_
      have h := wp_v h
      exact kx67 () _ h
    · have h := wp_f c h
      refine r_aload_n hc 0 rfl rfl dX5_like_37 ?_
      obtain ⟨v1, ev1, h⟩ := wp_g h
      refine r_getR hc ev1 fl_X5_17 rfl dX5_like_38 ?_
      refine r_iload_n hc 2 rfl rfl dX5_like_41 ?_
      refine r_aload_n hc 1 rfl rfl dX5_like_42 ?_
      obtain ⟨v2, ev2, h⟩ := wp_g h
      refine r_getR hc ev2 fl_X5_17 rfl dX5_like_43 ?_
      refine r_iload_n hc 2 rfl rfl dX5_like_46 ?_
      obtain ⟨v3, ev3, h⟩ := wp_g h
      refine r_iald hc ev3 dX5_like_47 ?_
      obtain ⟨σ4, eσ4, h⟩ := wp_g h
      refine r_iast hc eσ4 dX5_like_48 ?_
      refine r_aload_n hc 0 rfl rfl dX5_like_49 ?_
      obtain ⟨v5, ev5, h⟩ := wp_g h
      refine r_getR hc ev5 fl_X5_21 rfl dX5_like_50 ?_
      refine r_iload_n hc 2 rfl rfl dX5_like_53 ?_
      refine r_aload_n hc 1 rfl rfl dX5_like_54 ?_
      obtain ⟨v6, ev6, h⟩ := wp_g h
      refine r_getR hc ev6 fl_X5_21 rfl dX5_like_55 ?_
      refine r_iload_n hc 2 rfl rfl dX5_like_58 ?_
      obtain ⟨v7, ev7, h⟩ := wp_g h
      refine r_iald hc ev7 dX5_like_59 ?_
      obtain ⟨σ8, eσ8, h⟩ := wp_g h
      refine r_iast hc eσ8 dX5_like_60 ?_
      refine r_iincE hc (j := 2) (w := 1) (lv' := [(2, .int (v + 1)), (0, .ref (ad x0)), (1, .ref (ad x1))]) rfl (by decide) rfl (by decide) rfl dX5_like_61 ?_
      refine r_goto hc (tgt := 31) dX5_like_64 (by decide) ?_
      refine r_sub [1, 2, 0] (lv' := [(0, .ref (ad x0)), (1, .ref (ad x1)), (2, .int (v + 1))]) rfl ?_
      have h := wp_v h
      exact kn (v + 1) _ h
noncomputable def f_X5_like (x0 : Nat) (x1 : Nat) (σ : Hp) : Option (Unit × Hp) := bO (wh (f_X5_like_L2 x0 x1) 0 σ) fun y1 σ2 => (bO (wh (f_X5_like_L31 x0 x1) 0 σ2) fun y3 σ4 => (some ((), σ4)))
set_option maxRecDepth 100000 in
set_option maxHeartbeats 4000000 in
theorem t_X5_like {l : Launch} {γ : Gm} {ad : Nat → Nat} {K : Option Value → Hp → Prop} (hc : Cx l γ 2 3 ad shC RX5 cX5_like none K) {x0 : Nat} {x1 : Nat} {σ : Hp} (h : wpO (f_X5_like x0 x1 σ) (KU K)) : WW l γ 2 3 ad shC 0 [(0, .ref (ad x0)), (1, .ref (ad x1))] [] σ := by
  unfold f_X5_like at h
  refine r_iconst hc (v := 0) (by decide) dX5_like_0 ?_
  refine r_istore_nE hc (i := 2) (lv' := [(2, .int 0), (0, .ref (ad x0)), (1, .ref (ad x1))]) rfl rfl (by decide) rfl dX5_like_1 ?_
  refine r_sub [1, 2, 0] (lv' := [(0, .ref (ad x0)), (1, .ref (ad x1)), (2, .int 0)]) rfl ?_
  refine t_X5_like_L2 hc (wp_bb h) ?_
  · intro y1 σ2 h
    refine r_iconst hc (v := 0) (by decide) dX5_like_29 ?_
    refine r_istore_nE hc (i := 2) (lv' := [(2, .int 0), (0, .ref (ad x0)), (1, .ref (ad x1))]) rfl rfl (by decide) rfl dX5_like_30 ?_
    refine r_sub [1, 2, 0] (lv' := [(0, .ref (ad x0)), (1, .ref (ad x1)), (2, .int 0)]) rfl ?_
    refine t_X5_like_L31 hc (wp_bb h) ?_
    · intro y3 σ4 h
      have h := wp_v h
      exact r_vret hc h dX5_like_67
theorem c_X5_like {l : Launch} {x0 : Nat} {x1 : Nat} {σ σ' : Hp} {r : Unit} (h : f_X5_like x0 x1 σ = some (r, σ')) : Mt l yX5_like cX5_like 3 none 2 shC (fun ad => [.ref (ad x0), .ref (ad x1)]) σ (fun ad => none) σ' := mt_i (own := RX5) (by decide) rfl (fun _ => Nat.le_of_ble_eq_true rfl) (fun γ ad K hc hk => t_X5_like hc ⟨_, _, h, hk⟩)

-- NetMaps.keep()I
theorem dX6_keep_0 : decode cX6_keep 0 = .ok (.aload_n 0, 1) := by decide +kernel
theorem dX6_keep_1 : decode cX6_keep 1 = .ok (.getfield 370, 3) := by decide +kernel
theorem dX6_keep_4 : decode cX6_keep 4 = .ok (.bipush 10, 2) := by decide +kernel
theorem dX6_keep_6 : decode cX6_keep 6 = .ok (.if_icmp .lt 5, 3) := by decide +kernel
theorem dX6_keep_9 : decode cX6_keep 9 = .ok (.iconst (-1), 1) := by decide +kernel
theorem dX6_keep_10 : decode cX6_keep 10 = .ok (.ireturn, 1) := by decide +kernel
theorem dX6_keep_11 : decode cX6_keep 11 = .ok (.aload_n 0, 1) := by decide +kernel
theorem dX6_keep_12 : decode cX6_keep 12 = .ok (.getfield 16, 3) := by decide +kernel
theorem dX6_keep_15 : decode cX6_keep 15 = .ok (.aload_n 0, 1) := by decide +kernel
theorem dX6_keep_16 : decode cX6_keep 16 = .ok (.getfield 370, 3) := by decide +kernel
theorem dX6_keep_19 : decode cX6_keep 19 = .ok (.aaload, 1) := by decide +kernel
theorem dX6_keep_20 : decode cX6_keep 20 = .ok (.aload_n 0, 1) := by decide +kernel
theorem dX6_keep_21 : decode cX6_keep 21 = .ok (.getfield 10, 3) := by decide +kernel
theorem dX6_keep_24 : decode cX6_keep 24 = .ok (.invokevirtual 373, 3) := by decide +kernel
theorem dX6_keep_27 : decode cX6_keep 27 = .ok (.aload_n 0, 1) := by decide +kernel
theorem dX6_keep_28 : decode cX6_keep 28 = .ok (.dup, 1) := by decide +kernel
theorem dX6_keep_29 : decode cX6_keep 29 = .ok (.getfield 370, 3) := by decide +kernel
theorem dX6_keep_32 : decode cX6_keep 32 = .ok (.iconst 1, 1) := by decide +kernel
theorem dX6_keep_33 : decode cX6_keep 33 = .ok (.iadd, 1) := by decide +kernel
theorem dX6_keep_34 : decode cX6_keep 34 = .ok (.putfield 370, 3) := by decide +kernel
theorem dX6_keep_37 : decode cX6_keep 37 = .ok (.aload_n 0, 1) := by decide +kernel
theorem dX6_keep_38 : decode cX6_keep 38 = .ok (.getfield 370, 3) := by decide +kernel
theorem dX6_keep_41 : decode cX6_keep 41 = .ok (.ireturn, 1) := by decide +kernel
noncomputable def f_X6_keep (x0 : Nat) (σ : Hp) : Option (Int32 × Hp) := gO (getI shC 6 x0 2 σ) fun v1 => if v1 < 10 then (gO (getR shC 6 x0 1 σ) fun v2 => gO (getI shC 6 x0 2 σ) fun v3 => gO (aldR shC 4 v2 v3 σ) fun v4 => gO (getR shC 6 x0 0 σ) fun v5 => gO (chk shC v4 5) fun _ => bO (f_X5_like v4 v5 σ) fun _ σ7 => gO (getI shC 6 x0 2 σ7) fun v9 => gO (putI shC 6 x0 2 (v9 + 1) σ7) fun σ10 => gO (getI shC 6 x0 2 σ10) fun v11 => some (v11, σ10)) else (some ((-1), σ))
set_option maxRecDepth 100000 in
set_option maxHeartbeats 4000000 in
theorem t_X6_keep {l : Launch} {γ : Gm} {ad : Nat → Nat} {K : Option Value → Hp → Prop} (hc : Cx l γ 3 1 ad shC RX6 cX6_keep (some .int) K) {x0 : Nat} {σ : Hp} (h : wpO (f_X6_keep x0 σ) (KI K)) : WW l γ 3 1 ad shC 0 [(0, .ref (ad x0))] [] σ := by
  unfold f_X6_keep at h
  refine r_aload_n hc 0 rfl rfl dX6_keep_0 ?_
  obtain ⟨v1, ev1, h⟩ := wp_g h
  refine r_getI hc ev1 fl_X6_370 rfl dX6_keep_1 ?_
  refine r_bipush hc (v := 10) (by decide) dX6_keep_4 ?_
  refine r_icmp_lt hc (tgt := 11) dX6_keep_6 (by decide) (fun c => ?_) (fun c => ?_)
  · have h := wp_t c h
    refine r_aload_n hc 0 rfl rfl dX6_keep_11 ?_
    obtain ⟨v2, ev2, h⟩ := wp_g h
    refine r_getR hc ev2 fl_X6_16 rfl dX6_keep_12 ?_
    refine r_aload_n hc 0 rfl rfl dX6_keep_15 ?_
    obtain ⟨v3, ev3, h⟩ := wp_g h
    refine r_getI hc ev3 fl_X6_370 rfl dX6_keep_16 ?_
    obtain ⟨v4, ev4, h⟩ := wp_g h
    refine r_aald4 hc ev4 dX6_keep_19 ?_
    refine r_aload_n hc 0 rfl rfl dX6_keep_20 ?_
    obtain ⟨v5, ev5, h⟩ := wp_g h
    refine r_getR hc ev5 fl_X6_10 rfl dX6_keep_21 ?_
    obtain ⟨_, ek8, h⟩ := wp_g h
    obtain ⟨_, σ7, er6, h⟩ := wp_b h
    refine r_callV hc (k0 := v4) mv_X5_like ml_X6_373 (c_X5_like er6) (chk_of ek8) cls_5.1 rfl rfl rfl (by decide) rfl (Nat.le_of_ble_eq_true rfl) dX6_keep_24 ?_
    refine r_aload_n hc 0 rfl rfl dX6_keep_27 ?_
    refine r_dup hc rfl dX6_keep_28 ?_
    obtain ⟨v9, ev9, h⟩ := wp_g h
    refine r_getI hc ev9 fl_X6_370 rfl dX6_keep_29 ?_
    refine r_iconst hc (v := 1) (by decide) dX6_keep_32 ?_
    refine r_iadd hc dX6_keep_33 ?_
    obtain ⟨σ10, eσ10, h⟩ := wp_g h
    refine r_putI hc eσ10 fp_X6_370 rfl dX6_keep_34 ?_
    refine r_aload_n hc 0 rfl rfl dX6_keep_37 ?_
    obtain ⟨v11, ev11, h⟩ := wp_g h
    refine r_getI hc ev11 fl_X6_370 rfl dX6_keep_38 ?_
    have h := wp_v h
    exact r_iret hc h dX6_keep_41
  · have h := wp_f c h
    refine r_iconst hc (v := (-1)) (by decide) dX6_keep_9 ?_
    have h := wp_v h
    exact r_iret hc h dX6_keep_10
theorem c_X6_keep {l : Launch} {x0 : Nat} {σ σ' : Hp} {r : Int32} (h : f_X6_keep x0 σ = some (r, σ')) : Mt l yX6_keep cX6_keep 1 (some .int) 3 shC (fun ad => [.ref (ad x0)]) σ (fun ad => some (.int r)) σ' := mt_i (own := RX6) (by decide) rfl (fun _ => Nat.le_of_ble_eq_true rfl) (fun γ ad K hc hk => t_X6_keep hc ⟨_, _, h, hk⟩)

-- NetMaps.undo()I
theorem dX6_undo_0 : decode cX6_undo 0 = .ok (.aload_n 0, 1) := by decide +kernel
theorem dX6_undo_1 : decode cX6_undo 1 = .ok (.getfield 370, 3) := by decide +kernel
theorem dX6_undo_4 : decode cX6_undo 4 = .ok (.iconst 1, 1) := by decide +kernel
theorem dX6_undo_5 : decode cX6_undo 5 = .ok (.if_icmp .ge 5, 3) := by decide +kernel
theorem dX6_undo_8 : decode cX6_undo 8 = .ok (.iconst (-1), 1) := by decide +kernel
theorem dX6_undo_9 : decode cX6_undo 9 = .ok (.ireturn, 1) := by decide +kernel
theorem dX6_undo_10 : decode cX6_undo 10 = .ok (.aload_n 0, 1) := by decide +kernel
theorem dX6_undo_11 : decode cX6_undo 11 = .ok (.dup, 1) := by decide +kernel
theorem dX6_undo_12 : decode cX6_undo 12 = .ok (.getfield 370, 3) := by decide +kernel
theorem dX6_undo_15 : decode cX6_undo 15 = .ok (.iconst 1, 1) := by decide +kernel
theorem dX6_undo_16 : decode cX6_undo 16 = .ok (.isub, 1) := by decide +kernel
theorem dX6_undo_17 : decode cX6_undo 17 = .ok (.putfield 370, 3) := by decide +kernel
theorem dX6_undo_20 : decode cX6_undo 20 = .ok (.aload_n 0, 1) := by decide +kernel
theorem dX6_undo_21 : decode cX6_undo 21 = .ok (.getfield 10, 3) := by decide +kernel
theorem dX6_undo_24 : decode cX6_undo 24 = .ok (.aload_n 0, 1) := by decide +kernel
theorem dX6_undo_25 : decode cX6_undo 25 = .ok (.getfield 16, 3) := by decide +kernel
theorem dX6_undo_28 : decode cX6_undo 28 = .ok (.aload_n 0, 1) := by decide +kernel
theorem dX6_undo_29 : decode cX6_undo 29 = .ok (.getfield 370, 3) := by decide +kernel
theorem dX6_undo_32 : decode cX6_undo 32 = .ok (.aaload, 1) := by decide +kernel
theorem dX6_undo_33 : decode cX6_undo 33 = .ok (.invokevirtual 373, 3) := by decide +kernel
theorem dX6_undo_36 : decode cX6_undo 36 = .ok (.aload_n 0, 1) := by decide +kernel
theorem dX6_undo_37 : decode cX6_undo 37 = .ok (.getfield 370, 3) := by decide +kernel
theorem dX6_undo_40 : decode cX6_undo 40 = .ok (.ireturn, 1) := by decide +kernel
noncomputable def f_X6_undo (x0 : Nat) (σ : Hp) : Option (Int32 × Hp) := gO (getI shC 6 x0 2 σ) fun v1 => if 1 ≤ v1 then (gO (getI shC 6 x0 2 σ) fun v2 => gO (putI shC 6 x0 2 (v2 - 1) σ) fun σ3 => gO (getR shC 6 x0 0 σ3) fun v4 => gO (getR shC 6 x0 1 σ3) fun v5 => gO (getI shC 6 x0 2 σ3) fun v6 => gO (aldR shC 4 v5 v6 σ3) fun v7 => gO (chk shC v4 5) fun _ => bO (f_X5_like v4 v7 σ3) fun _ σ9 => gO (getI shC 6 x0 2 σ9) fun v11 => some (v11, σ9)) else (some ((-1), σ))
set_option maxRecDepth 100000 in
set_option maxHeartbeats 4000000 in
theorem t_X6_undo {l : Launch} {γ : Gm} {ad : Nat → Nat} {K : Option Value → Hp → Prop} (hc : Cx l γ 3 1 ad shC RX6 cX6_undo (some .int) K) {x0 : Nat} {σ : Hp} (h : wpO (f_X6_undo x0 σ) (KI K)) : WW l γ 3 1 ad shC 0 [(0, .ref (ad x0))] [] σ := by
  unfold f_X6_undo at h
  refine r_aload_n hc 0 rfl rfl dX6_undo_0 ?_
  obtain ⟨v1, ev1, h⟩ := wp_g h
  refine r_getI hc ev1 fl_X6_370 rfl dX6_undo_1 ?_
  refine r_iconst hc (v := 1) (by decide) dX6_undo_4 ?_
  refine r_icmp_ge hc (tgt := 10) dX6_undo_5 (by decide) (fun c => ?_) (fun c => ?_)
  · have h := wp_t c h
    refine r_aload_n hc 0 rfl rfl dX6_undo_10 ?_
    refine r_dup hc rfl dX6_undo_11 ?_
    obtain ⟨v2, ev2, h⟩ := wp_g h
    refine r_getI hc ev2 fl_X6_370 rfl dX6_undo_12 ?_
    refine r_iconst hc (v := 1) (by decide) dX6_undo_15 ?_
    refine r_isub hc dX6_undo_16 ?_
    obtain ⟨σ3, eσ3, h⟩ := wp_g h
    refine r_putI hc eσ3 fp_X6_370 rfl dX6_undo_17 ?_
    refine r_aload_n hc 0 rfl rfl dX6_undo_20 ?_
    obtain ⟨v4, ev4, h⟩ := wp_g h
    refine r_getR hc ev4 fl_X6_10 rfl dX6_undo_21 ?_
    refine r_aload_n hc 0 rfl rfl dX6_undo_24 ?_
    obtain ⟨v5, ev5, h⟩ := wp_g h
    refine r_getR hc ev5 fl_X6_16 rfl dX6_undo_25 ?_
    refine r_aload_n hc 0 rfl rfl dX6_undo_28 ?_
    obtain ⟨v6, ev6, h⟩ := wp_g h
    refine r_getI hc ev6 fl_X6_370 rfl dX6_undo_29 ?_
    obtain ⟨v7, ev7, h⟩ := wp_g h
    refine r_aald4 hc ev7 dX6_undo_32 ?_
    obtain ⟨_, ek10, h⟩ := wp_g h
    obtain ⟨_, σ9, er8, h⟩ := wp_b h
    refine r_callV hc (k0 := v4) mv_X5_like ml_X6_373 (c_X5_like er8) (chk_of ek10) cls_5.1 rfl rfl rfl (by decide) rfl (Nat.le_of_ble_eq_true rfl) dX6_undo_33 ?_
    refine r_aload_n hc 0 rfl rfl dX6_undo_36 ?_
    obtain ⟨v11, ev11, h⟩ := wp_g h
    refine r_getI hc ev11 fl_X6_370 rfl dX6_undo_37 ?_
    have h := wp_v h
    exact r_iret hc h dX6_undo_40
  · have h := wp_f c h
    refine r_iconst hc (v := (-1)) (by decide) dX6_undo_8 ?_
    have h := wp_v h
    exact r_iret hc h dX6_undo_9
theorem c_X6_undo {l : Launch} {x0 : Nat} {σ σ' : Hp} {r : Int32} (h : f_X6_undo x0 σ = some (r, σ')) : Mt l yX6_undo cX6_undo 1 (some .int) 3 shC (fun ad => [.ref (ad x0)]) σ (fun ad => some (.int r)) σ' := mt_i (own := RX6) (by decide) rfl (fun _ => Nat.le_of_ble_eq_true rfl) (fun γ ad K hc hk => t_X6_undo hc ⟨_, _, h, hk⟩)
