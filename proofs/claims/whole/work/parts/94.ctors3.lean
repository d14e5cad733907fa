/-! the constructors: the class, the reference -/
section CTORS3
variable {l : Launch} {γ : Gm} {R : Room} {nL L0 : Nat} {ad0 : Nat → Nat} {sh sA : List Shp} {σ σA : Hp} {k0 L : Nat}
theorem read_len (h : sh.length = L) : (readS sh).length = L + 3 := net_len (len1 h)
theorem read_at {k : Nat} {q : Shp} (h : sh[k]? = some q) : (readS sh)[k]? = some q := net_at (at1 h)
theorem read_cl (h : sh.length = L) (hk : k0 < L) (hc : Cl sh σ) : Cl (readS sh) (readH L k0 σ) := by
  have h1 := read_len h
  exact Cl_R (net_cl (len1 h) (by omega) (Cl_app hc _)) (by rw [h1]; omega) (by rw [h1]; omega)
theorem seek_len (h : sh.length = L) : (seekS sh).length = L + 5 := len1 (len1 (net_len (len1 h)))
theorem seek_at {k : Nat} {q : Shp} (h : sh[k]? = some q) : (seekS sh)[k]? = some q := at1 (at1 (net_at (at1 h)))
theorem seek_cl (h : sh.length = L) (hk : k0 < L) (hc : Cl sh σ) : Cl (seekS sh) (seekH L k0 σ) := by
  have h1 := seek_len h
  have c1 : Cl (seekS sh) (netH (L + 1) L σ) := Cl_app (Cl_app (net_cl (len1 h) (by omega) (Cl_app hc _)) _) _
  exact Cl_R (Cl_R (Cl_R (Cl_R c1 (by omega) (by omega)) (by omega) (by omega)) (by omega) (by omega)) (by omega) (by omega)
theorem scale_len (h : sh.length = L) : (scaleS sh).length = L + 4 := len1 (len1 (len1 (len1 h)))
theorem scale_at {k : Nat} {q : Shp} (h : sh[k]? = some q) : (scaleS sh)[k]? = some q := at1 (at1 (at1 (at1 h)))
theorem scale_cl (h : sh.length = L) (hk : k0 < L) (hc : Cl sh σ) : Cl (scaleS sh) (scaleH L k0 σ) := by
  have h1 := scale_len h
  have c1 : Cl (scaleS sh) σ := Cl_app (Cl_app (Cl_app (Cl_app hc _) _) _) _
  exact Cl_R (Cl_R (Cl_R (Cl_R c1 (by omega) (by omega)) (by omega) (by omega)) (by omega) (by omega)) (by omega) (by omega)
theorem crowd_len (h : sh.length = L) : (crowdS sh).length = L + 3 := len1 (len1 (len1 h))
theorem crowd_at {k : Nat} {q : Shp} (h : sh[k]? = some q) : (crowdS sh)[k]? = some q := at1 (at1 (at1 h))
theorem crowd_cl (h : sh.length = L) (hk : k0 < L) (hc : Cl sh σ) : Cl (crowdS sh) (crowdH L k0 σ) := by
  have h1 := crowd_len h
  have c1 : Cl (crowdS sh) σ := Cl_app (Cl_app (Cl_app hc _) _) _
  exact Cl_R (Cl_R (Cl_R c1 (by omega) (by omega)) (by omega) (by omega)) (by omega) (by omega)
def nmS (sh : List Shp) : List Shp := (((crowdS (scaleS (seekS (netS (readS ((statesS ((stateS (sh ++ [.inl 5])) ++ [.inr (4, 10)]) 10) ++ [.inr (0, 160)] ++ [.inl 2]) ++ [.inl 1]) ++ [.inl 4]) ++ [.inl 3]) ++ [.inl 0])) ++ [.inr (0, 27)]) ++ [.inr (0, 27)]) ++ [.inr (0, 90)]
def nmH (L k0 : Nat) (σ : Hp) : Hp := setR (setR (setR (setR (crowdH (L + 263) (L + 262) (setR (scaleH (L + 258) (L + 257) (setR (seekH (L + 252) (L + 251) (setR (netH (L + 249) (L + 248) (setR (readH (L + 245) (L + 244) (setR (statesH (L + 23) (L + 22) (setR (setR (stateH (L + 1) (L) (σ)) k0 0 (L)) k0 1 (L + 22)) 10) k0 3 (L + 243))) k0 5 (L + 244))) k0 6 (L + 248))) k0 7 (L + 251))) k0 8 (L + 257))) k0 9 (L + 262)) k0 10 (L + 266)) k0 11 (L + 267)) k0 12 (L + 268)
theorem c_nm (hL : sh.length = L) (hk : sh[k0]? = some (.inl 6)) : MtN l yX6_init cX6_init 2 3 269 10610 k0 sh σ (nmS sh) (nmH L k0 σ) := by
  have hk0 := lt1 hk hL
  refine mt_n (by decide) rfl rfl (by decide) (lt1 hk rfl) (fun γ ad hc hci he => ?_)
  refine n_aload_n (n := 0) (i := 0) hc 0 rfl rfl (by decide +kernel) ?_
  refine n_objInit hc oi_X6 ⟨by decide, by decide⟩ rfl (by decide +kernel) ?_
  refine n_aload_n (n := 0) (i := 0) hc 0 rfl rfl (by decide +kernel) ?_
  refine n_new (ci := 5) (Ls := L) hc hL cls_5 cl_X6_7 is_X5 in_X5 tyX5_ok fs_5 ⟨by decide, by decide⟩ (by decide +kernel) ?_
  refine n_dup hc (fun _ => rfl) (by decide +kernel) ?_
  have hl1 := len1 (z := .inl 5) hL
  have kf2 := at1 (z := .inl 5) hk
  have nw3 := new1 (z := .inl 5) hL
  refine n_callI hc (c_state hl1 nw3) ml_X6_9 im_X5 in_X5 cd_X5 mh_X5 rfl ⟨by decide, by decide, by decide⟩ ⟨by decide, by decide⟩ (by rw [state_len hl1, hl1]; omega) (state_cl hl1 (by omega)) (fun _ => Nat.le_of_ble_eq_true rfl) (by decide +kernel) ?_
  have hl4 := state_len hl1
  have kf5 := state_at kf2
  refine n_putF hc hci (ty := .object "NetMaps$State") kf5 (Or.inl ⟨_, rfl⟩) fl_X6_10 rfl (by decide +kernel) rfl rfl (by decide +kernel) ?_
  refine n_aload_n (n := 0) (i := 0) hc 0 rfl rfl (by decide +kernel) ?_
  refine n_bipush (n := 10) (v := nI 10) hc (by decide) (by decide +kernel) ?_
  refine n_newq (Ls := L + 22) (t := 4) (N := 10) (ci := 5) hc hl4 cl_X6_7 ao5 tq4 (by decide) rfl (by decide) (by decide) ⟨by decide, by decide⟩ (by decide +kernel) ?_
  have nw6 := new1 (z := .inr (4, 10)) hl4
  have hl7 := len1 (z := .inr (4, 10)) hl4
  have kf8 := at1 (z := .inr (4, 10)) kf5
  refine n_putF hc hci (ty := .array (.object "NetMaps$State")) kf8 (Or.inr ⟨_, rfl⟩) fl_X6_16 rfl (by decide +kernel) rfl rfl (by decide +kernel) ?_
  refine n_iconst (n := 0) (v := nI 0) hc (by decide) (by decide +kernel) ?_
  refine n_istore_n (n := 1) (i := 1) (lv' := [(1, .inl (.int (nI 0))), (0, .inr k0)]) hc rfl (by decide) (fun _ => rfl) okst (by decide +kernel) ?_
  refine nm_loop hc (kd := L + 22) (L := L + 23) hl7 kf8 (by omega) (by omega) nw6 setR_s ⟨by decide, by decide, by decide, by decide⟩ ?_ 10 0 rfl
  have hl9 := states_len hl7 10
  have kf10 := states_at kf8 10
  refine n_aload_n (n := 0) (i := 0) hc 1 rfl rfl (by decide +kernel) ?_
  refine n_sipush (n := 160) (v := nI 160) hc (by decide) (by decide +kernel) ?_
  refine n_newa (Ls := L + 243) hc hl9 (atype := .int) (t := 0) (N := 160) rfl ac_int (fun _ => rfl) (by decide) (Or.inl rfl) rfl rfl (by decide) (by decide +kernel) ⟨by decide, by decide⟩ (by decide +kernel) ?_
  have hl11 := len1 (z := .inr (0, 160)) hl9
  have kf12 := at1 (z := .inr (0, 160)) kf10
  refine n_putF hc hci (ty := .array .int) kf12 (Or.inr ⟨_, rfl⟩) fl_X6_20 rfl (by decide +kernel) rfl rfl (by decide +kernel) ?_
  refine n_aload_n (n := 0) (i := 0) hc 1 rfl rfl (by decide +kernel) ?_
  refine n_new (ci := 2) (Ls := L + 244) hc hl11 cls_2 cl_X6_24 is_X2 in_X2 tyX2_ok fs_2 ⟨by decide, by decide⟩ (by decide +kernel) ?_
  refine n_dup hc (fun _ => rfl) (by decide +kernel) ?_
  have hl13 := len1 (z := .inl 2) hl11
  have kf14 := at1 (z := .inl 2) kf12
  have nw15 := new1 (z := .inl 2) hl11
  refine n_callN hc (c_read hl13 nw15) nl_X6_26 im_X2 in_X2 cd_X2 mh_X2 rfl ⟨by decide, by decide, by decide⟩ ⟨by decide, by decide⟩ (by rw [read_len hl13, hl13]; omega) (read_cl hl13 (by omega)) (fun _ => Nat.le_of_ble_eq_true rfl) (by decide +kernel) ?_
  have hl16 := read_len hl13
  have kf17 := read_at kf14
  refine n_putF hc hci (ty := .object "NetMaps$Reader") kf17 (Or.inl ⟨_, rfl⟩) fl_X6_27 rfl (by decide +kernel) rfl rfl (by decide +kernel) ?_
  refine n_aload_n (n := 0) (i := 0) hc 1 rfl rfl (by decide +kernel) ?_
  refine n_new (ci := 1) (Ls := L + 248) hc hl16 cls_1 cl_X6_31 is_X1 in_X1 tyX1_ok fs_1 ⟨by decide, by decide⟩ (by decide +kernel) ?_
  refine n_dup hc (fun _ => rfl) (by decide +kernel) ?_
  have hl18 := len1 (z := .inl 1) hl16
  have kf19 := at1 (z := .inl 1) kf17
  have nw20 := new1 (z := .inl 1) hl16
  refine n_callN hc (c_net hl18 nw20) nl_X6_33 im_X1 in_X1 cd_X1 mh_X1 rfl ⟨by decide, by decide, by decide⟩ ⟨by decide, by decide⟩ (by rw [net_len hl18, hl18]; omega) (net_cl hl18 (by omega)) (fun _ => Nat.le_of_ble_eq_true rfl) (by decide +kernel) ?_
  have hl21 := net_len hl18
  have kf22 := net_at kf19
  refine n_putF hc hci (ty := .object "NetMaps$Net") kf22 (Or.inl ⟨_, rfl⟩) fl_X6_34 rfl (by decide +kernel) rfl rfl (by decide +kernel) ?_
  refine n_aload_n (n := 0) (i := 0) hc 1 rfl rfl (by decide +kernel) ?_
  refine n_new (ci := 4) (Ls := L + 251) hc hl21 cls_4 cl_X6_38 is_X4 in_X4 tyX4_ok fs_4 ⟨by decide, by decide⟩ (by decide +kernel) ?_
  refine n_dup hc (fun _ => rfl) (by decide +kernel) ?_
  have hl23 := len1 (z := .inl 4) hl21
  have kf24 := at1 (z := .inl 4) kf22
  have nw25 := new1 (z := .inl 4) hl21
  refine n_callN hc (c_seek hl23 nw25) nl_X6_40 im_X4 in_X4 cd_X4 mh_X4 rfl ⟨by decide, by decide, by decide⟩ ⟨by decide, by decide⟩ (by rw [seek_len hl23, hl23]; omega) (seek_cl hl23 (by omega)) (fun _ => Nat.le_of_ble_eq_true rfl) (by decide +kernel) ?_
  have hl26 := seek_len hl23
  have kf27 := seek_at kf24
  refine n_putF hc hci (ty := .object "NetMaps$Search") kf27 (Or.inl ⟨_, rfl⟩) fl_X6_41 rfl (by decide +kernel) rfl rfl (by decide +kernel) ?_
  refine n_aload_n (n := 0) (i := 0) hc 1 rfl rfl (by decide +kernel) ?_
  refine n_new (ci := 3) (Ls := L + 257) hc hl26 cls_3 cl_X6_45 is_X3 in_X3 tyX3_ok fs_3 ⟨by decide, by decide⟩ (by decide +kernel) ?_
  refine n_dup hc (fun _ => rfl) (by decide +kernel) ?_
  have hl28 := len1 (z := .inl 3) hl26
  have kf29 := at1 (z := .inl 3) kf27
  have nw30 := new1 (z := .inl 3) hl26
  refine n_callN hc (c_scale hl28 nw30) nl_X6_47 im_X3 in_X3 cd_X3 mh_X3 rfl ⟨by decide, by decide, by decide⟩ ⟨by decide, by decide⟩ (by rw [scale_len hl28, hl28]; omega) (scale_cl hl28 (by omega)) (fun _ => Nat.le_of_ble_eq_true rfl) (by decide +kernel) ?_
  have hl31 := scale_len hl28
  have kf32 := scale_at kf29
  refine n_putF hc hci (ty := .object "NetMaps$Scale") kf32 (Or.inl ⟨_, rfl⟩) fl_X6_48 rfl (by decide +kernel) rfl rfl (by decide +kernel) ?_
  refine n_aload_n (n := 0) (i := 0) hc 1 rfl rfl (by decide +kernel) ?_
  refine n_new (ci := 0) (Ls := L + 262) hc hl31 cls_0 cl_X6_52 is_X0 in_X0 tyX0_ok fs_0 ⟨by decide, by decide⟩ (by decide +kernel) ?_
  refine n_dup hc (fun _ => rfl) (by decide +kernel) ?_
  have hl33 := len1 (z := .inl 0) hl31
  have kf34 := at1 (z := .inl 0) kf32
  have nw35 := new1 (z := .inl 0) hl31
  refine n_callN hc (c_crowd hl33 nw35) nl_X6_54 im_X0 in_X0 cd_X0 mh_X0 rfl ⟨by decide, by decide, by decide⟩ ⟨by decide, by decide⟩ (by rw [crowd_len hl33, hl33]; omega) (crowd_cl hl33 (by omega)) (fun _ => Nat.le_of_ble_eq_true rfl) (by decide +kernel) ?_
  have hl36 := crowd_len hl33
  have kf37 := crowd_at kf34
  refine n_putF hc hci (ty := .object "NetMaps$Crowd") kf37 (Or.inl ⟨_, rfl⟩) fl_X6_55 rfl (by decide +kernel) rfl rfl (by decide +kernel) ?_
  refine n_aload_n (n := 0) (i := 0) hc 1 rfl rfl (by decide +kernel) ?_
  refine n_bipush (n := 27) (v := nI 27) hc (by decide) (by decide +kernel) ?_
  refine n_newa (Ls := L + 266) hc hl36 (atype := .int) (t := 0) (N := 27) rfl ac_int (fun _ => rfl) (by decide) (Or.inl rfl) rfl rfl (by decide) (by decide +kernel) ⟨by decide, by decide⟩ (by decide +kernel) ?_
  have hl38 := len1 (z := .inr (0, 27)) hl36
  have kf39 := at1 (z := .inr (0, 27)) kf37
  refine n_putF hc hci (ty := .array .int) kf39 (Or.inr ⟨_, rfl⟩) fl_X6_59 rfl (by decide +kernel) rfl rfl (by decide +kernel) ?_
  refine n_aload_n (n := 0) (i := 0) hc 1 rfl rfl (by decide +kernel) ?_
  refine n_bipush (n := 27) (v := nI 27) hc (by decide) (by decide +kernel) ?_
  refine n_newa (Ls := L + 267) hc hl38 (atype := .int) (t := 0) (N := 27) rfl ac_int (fun _ => rfl) (by decide) (Or.inl rfl) rfl rfl (by decide) (by decide +kernel) ⟨by decide, by decide⟩ (by decide +kernel) ?_
  have hl40 := len1 (z := .inr (0, 27)) hl38
  have kf41 := at1 (z := .inr (0, 27)) kf39
  refine n_putF hc hci (ty := .array .int) kf41 (Or.inr ⟨_, rfl⟩) fl_X6_62 rfl (by decide +kernel) rfl rfl (by decide +kernel) ?_
  refine n_aload_n (n := 0) (i := 0) hc 1 rfl rfl (by decide +kernel) ?_
  refine n_bipush (n := 90) (v := nI 90) hc (by decide) (by decide +kernel) ?_
  refine n_newa (Ls := L + 268) hc hl40 (atype := .int) (t := 0) (N := 90) rfl ac_int (fun _ => rfl) (by decide) (Or.inl rfl) rfl rfl (by decide) (by decide +kernel) ⟨by decide, by decide⟩ (by decide +kernel) ?_
  have hl42 := len1 (z := .inr (0, 90)) hl40
  have kf43 := at1 (z := .inr (0, 90)) kf41
  refine n_putF hc hci (ty := .array .int) kf43 (Or.inr ⟨_, rfl⟩) fl_X6_65 rfl (by decide +kernel) rfl rfl (by decide +kernel) ?_
  exact n_vret hc he rfl (by decide +kernel)
theorem nm_len (hL : sh.length = L) : (nmS sh).length = L + 269 := by
  have hl1 := len1 (z := .inl 5) hL
  have hl4 := state_len hl1
  have hl7 := len1 (z := .inr (4, 10)) hl4
  have hl9 := states_len hl7 10
  have hl11 := len1 (z := .inr (0, 160)) hl9
  have hl13 := len1 (z := .inl 2) hl11
  have hl16 := read_len hl13
  have hl18 := len1 (z := .inl 1) hl16
  have hl21 := net_len hl18
  have hl23 := len1 (z := .inl 4) hl21
  have hl26 := seek_len hl23
  have hl28 := len1 (z := .inl 3) hl26
  have hl31 := scale_len hl28
  have hl33 := len1 (z := .inl 0) hl31
  have hl36 := crowd_len hl33
  have hl38 := len1 (z := .inr (0, 27)) hl36
  have hl40 := len1 (z := .inr (0, 27)) hl38
  have hl42 := len1 (z := .inr (0, 90)) hl40
  exact hl42
def mdA (sh : List Shp) : List Shp := (((((((((((((((((((((((sh ++ [.inr (0, 8)]) ++ [.inr (0, 56)]) ++ [.inr (0, 56)]) ++ [.inr (0, 7)]) ++ [.inr (0, 7)]) ++ [.inr (1, 160)]) ++ [.inr (0, 7)]) ++ [.inr (0, 7)]) ++ [.inr (0, 7)]) ++ [.inr (0, 7)]) ++ [.inr (2, 128)]) ++ [.inr (0, 2001)]) ++ [.inr (0, 2000)]) ++ [.inr (0, 2000)]) ++ [.inr (0, 27)]) ++ [.inr (2, 27)]) ++ [.inr (0, 7)]) ++ [.inr (0, 7)]) ++ [.inr (0, 60)]) ++ [.inr (0, 420)]) ++ [.inr (0, 420)]) ++ [.inr (0, 70)]) ++ [.inr (0, 70)])
def mdB (L k0 : Nat) (σ : Hp) : Hp := setR (setR (setR (setR (setR (setR (setR (setR (setR (setR (setR (setR (setR (setR (setR (setR (setR (setR (setR (setR (setR (setR (setR (σ) k0 0 (L)) k0 1 (L + 1)) k0 2 (L + 2)) k0 3 (L + 3)) k0 4 (L + 4)) k0 5 (L + 5)) k0 9 (L + 6)) k0 10 (L + 7)) k0 16 (L + 8)) k0 17 (L + 9)) k0 18 (L + 10)) k0 21 (L + 11)) k0 22 (L + 12)) k0 23 (L + 13)) k0 25 (L + 14)) k0 26 (L + 15)) k0 29 (L + 16)) k0 30 (L + 17)) k0 35 (L + 18)) k0 36 (L + 19)) k0 37 (L + 20)) k0 38 (L + 21)) k0 39 (L + 22)
def mdH (L k0 : Nat) (σ : Hp) : Hp := listH (L + 3) (mdB L k0 σ) 7
theorem md_len (hL : sh.length = L) : (mdA sh).length = L + 23 := by
  have hl1 := len1 (z := .inr (0, 8)) hL
  have hl2 := len1 (z := .inr (0, 56)) hl1
  have hl3 := len1 (z := .inr (0, 56)) hl2
  have hl4 := len1 (z := .inr (0, 7)) hl3
  have hl5 := len1 (z := .inr (0, 7)) hl4
  have hl6 := len1 (z := .inr (1, 160)) hl5
  have hl7 := len1 (z := .inr (0, 7)) hl6
  have hl8 := len1 (z := .inr (0, 7)) hl7
  have hl9 := len1 (z := .inr (0, 7)) hl8
  have hl10 := len1 (z := .inr (0, 7)) hl9
  have hl11 := len1 (z := .inr (2, 128)) hl10
  have hl12 := len1 (z := .inr (0, 2001)) hl11
  have hl13 := len1 (z := .inr (0, 2000)) hl12
  have hl14 := len1 (z := .inr (0, 2000)) hl13
  have hl15 := len1 (z := .inr (0, 27)) hl14
  have hl16 := len1 (z := .inr (2, 27)) hl15
  have hl17 := len1 (z := .inr (0, 7)) hl16
  have hl18 := len1 (z := .inr (0, 7)) hl17
  have hl19 := len1 (z := .inr (0, 60)) hl18
  have hl20 := len1 (z := .inr (0, 420)) hl19
  have hl21 := len1 (z := .inr (0, 420)) hl20
  have hl22 := len1 (z := .inr (0, 70)) hl21
  have hl23 := len1 (z := .inr (0, 70)) hl22
  exact hl23
theorem md_loop (hc : CN l γ 2 RX7 cX7_init) {kl kc ks : Nat} (hk : sA[k0]? = some (.inl 7)) (hl : sA[kl]? = some (.inr (0, 7))) (hv : σA.2 k0 3 = some kl)
    (kk : WN l γ R 2 L0 ad0 217 [(1, .inl (.int (nI 7))), (0, .inr k0)] [] sA (listH kl σA 7) kc ks) : ∀ j i, i + j = 7 → WN l γ R 2 L0 ad0 197 [(1, .inl (.int (nI i))), (0, .inr k0)] [] sA (listH kl σA i) kc ks := by
  intro j
  induction j with
  | zero =>
    intro i hi
    have e : i = 7 := by omega
    subst e
    refine n_iload_n (n := 1) (i := 1) hc 0 rfl rfl (by decide +kernel) ?_
    refine n_bipush (n := 7) (v := nI 7) hc (by decide) (by decide +kernel) ?_
    refine n_icmp_ge (off := 17) (tgt := 217) hc (by decide +kernel) (by decide) (fun _ => kk) (fun h => absurd (by decide) h)
  | succ j ih =>
    intro i hi
    refine n_iload_n (n := 1) (i := 1) hc 0 rfl rfl (by decide +kernel) ?_
    refine n_bipush (n := 7) (v := nI 7) hc (by decide) (by decide +kernel) ?_
    refine n_icmp_ge (off := 17) (tgt := 217) hc (by decide +kernel) (by decide) (fun h => absurd h (by rw [nlt6 (by omega) 7 (by omega)]; omega)) (fun _ => ?_)
    refine n_aload_n (n := 0) (i := 0) hc 1 rfl rfl (by decide +kernel) ?_
    refine n_getR hc hk (by rw [list_2]; exact hv) fl_X7_19 rfl (by decide +kernel) ?_
    refine n_iload_n (n := 1) (i := 1) hc 0 rfl rfl (by decide +kernel) ?_
    refine n_bipush (n := 127) (v := nI 127) hc (by decide) (by decide +kernel) ?_
    refine n_iast (i := i) (N := 7) hc hl rfl (by omega) (by decide) (by decide +kernel) ?_
    refine n_iinc (i := 1) (j := 0) (n := 1) (lv' := [(1, .inl (.int (nI (i + 1)))), (0, .inr k0)]) hc rfl inc_1 (by decide) (fun _ => rfl) okii (by decide +kernel) ?_
    refine n_goto (off := -17) (tgt := 197) hc (by decide +kernel) (by decide) ?_
    exact ih (i + 1) (by omega)
theorem c_md (hL : sh.length = L) (hk : sh[k0]? = some (.inl 7)) : MtN l yX7_init cX7_init 2 1 23 7559 k0 sh σ (mdA sh) (mdH L k0 σ) := by
  have hk0 := lt1 hk hL
  refine mt_n (by decide) rfl rfl (by decide) (lt1 hk rfl) (fun γ ad hc hci he => ?_)
  refine n_aload_n (n := 0) (i := 0) hc 0 rfl rfl (by decide +kernel) ?_
  refine n_objInit hc oi_X7 ⟨by decide, by decide⟩ rfl (by decide +kernel) ?_
  refine n_aload_n (n := 0) (i := 0) hc 0 rfl rfl (by decide +kernel) ?_
  refine n_bipush (n := 8) (v := nI 8) hc (by decide) (by decide +kernel) ?_
  refine n_newa (Ls := L) hc hL (atype := .int) (t := 0) (N := 8) rfl ac_int (fun _ => rfl) (by decide) (Or.inl rfl) rfl rfl (by decide) (by decide +kernel) ⟨by decide, by decide⟩ (by decide +kernel) ?_
  have hl1 := len1 (z := .inr (0, 8)) hL
  have kf1 := at1 (z := .inr (0, 8)) hk
  refine n_putF hc hci (ty := .array .int) kf1 (Or.inr ⟨_, rfl⟩) fl_X7_7 rfl (by decide +kernel) rfl rfl (by decide +kernel) ?_
  refine n_aload_n (n := 0) (i := 0) hc 0 rfl rfl (by decide +kernel) ?_
  refine n_bipush (n := 56) (v := nI 56) hc (by decide) (by decide +kernel) ?_
  refine n_newa (Ls := L + 1) hc hl1 (atype := .int) (t := 0) (N := 56) rfl ac_int (fun _ => rfl) (by decide) (Or.inl rfl) rfl rfl (by decide) (by decide +kernel) ⟨by decide, by decide⟩ (by decide +kernel) ?_
  have hl2 := len1 (z := .inr (0, 56)) hl1
  have kf2 := at1 (z := .inr (0, 56)) kf1
  refine n_putF hc hci (ty := .array .int) kf2 (Or.inr ⟨_, rfl⟩) fl_X7_13 rfl (by decide +kernel) rfl rfl (by decide +kernel) ?_
  refine n_aload_n (n := 0) (i := 0) hc 0 rfl rfl (by decide +kernel) ?_
  refine n_bipush (n := 56) (v := nI 56) hc (by decide) (by decide +kernel) ?_
  refine n_newa (Ls := L + 2) hc hl2 (atype := .int) (t := 0) (N := 56) rfl ac_int (fun _ => rfl) (by decide) (Or.inl rfl) rfl rfl (by decide) (by decide +kernel) ⟨by decide, by decide⟩ (by decide +kernel) ?_
  have hl3 := len1 (z := .inr (0, 56)) hl2
  have kf3 := at1 (z := .inr (0, 56)) kf2
  refine n_putF hc hci (ty := .array .int) kf3 (Or.inr ⟨_, rfl⟩) fl_X7_16 rfl (by decide +kernel) rfl rfl (by decide +kernel) ?_
  refine n_aload_n (n := 0) (i := 0) hc 0 rfl rfl (by decide +kernel) ?_
  refine n_bipush (n := 7) (v := nI 7) hc (by decide) (by decide +kernel) ?_
  refine n_newa (Ls := L + 3) hc hl3 (atype := .int) (t := 0) (N := 7) rfl ac_int (fun _ => rfl) (by decide) (Or.inl rfl) rfl rfl (by decide) (by decide +kernel) ⟨by decide, by decide⟩ (by decide +kernel) ?_
  have hl4 := len1 (z := .inr (0, 7)) hl3
  have kf4 := at1 (z := .inr (0, 7)) kf3
  refine n_putF hc hci (ty := .array .int) kf4 (Or.inr ⟨_, rfl⟩) fl_X7_19 rfl (by decide +kernel) rfl rfl (by decide +kernel) ?_
  refine n_aload_n (n := 0) (i := 0) hc 0 rfl rfl (by decide +kernel) ?_
  refine n_bipush (n := 7) (v := nI 7) hc (by decide) (by decide +kernel) ?_
  refine n_newa (Ls := L + 4) hc hl4 (atype := .int) (t := 0) (N := 7) rfl ac_int (fun _ => rfl) (by decide) (Or.inl rfl) rfl rfl (by decide) (by decide +kernel) ⟨by decide, by decide⟩ (by decide +kernel) ?_
  have hl5 := len1 (z := .inr (0, 7)) hl4
  have kf5 := at1 (z := .inr (0, 7)) kf4
  refine n_putF hc hci (ty := .array .int) kf5 (Or.inr ⟨_, rfl⟩) fl_X7_22 rfl (by decide +kernel) rfl rfl (by decide +kernel) ?_
  refine n_aload_n (n := 0) (i := 0) hc 0 rfl rfl (by decide +kernel) ?_
  refine n_sipush (n := 160) (v := nI 160) hc (by decide) (by decide +kernel) ?_
  refine n_newa (Ls := L + 5) hc hl5 (atype := .byte) (t := 1) (N := 160) rfl ac_byte (fun _ => rfl) (by decide) (Or.inr (Or.inl rfl)) rfl rfl (by decide) (by decide +kernel) ⟨by decide, by decide⟩ (by decide +kernel) ?_
  have hl6 := len1 (z := .inr (1, 160)) hl5
  have kf6 := at1 (z := .inr (1, 160)) kf5
  refine n_putF hc hci (ty := .array .byte) kf6 (Or.inr ⟨_, rfl⟩) fl_X7_25 rfl (by decide +kernel) rfl rfl (by decide +kernel) ?_
  refine n_aload_n (n := 0) (i := 0) hc 0 rfl rfl (by decide +kernel) ?_
  refine n_bipush (n := 7) (v := nI 7) hc (by decide) (by decide +kernel) ?_
  refine n_newa (Ls := L + 6) hc hl6 (atype := .int) (t := 0) (N := 7) rfl ac_int (fun _ => rfl) (by decide) (Or.inl rfl) rfl rfl (by decide) (by decide +kernel) ⟨by decide, by decide⟩ (by decide +kernel) ?_
  have hl7 := len1 (z := .inr (0, 7)) hl6
  have kf7 := at1 (z := .inr (0, 7)) kf6
  refine n_putF hc hci (ty := .array .int) kf7 (Or.inr ⟨_, rfl⟩) fl_X7_29 rfl (by decide +kernel) rfl rfl (by decide +kernel) ?_
  refine n_aload_n (n := 0) (i := 0) hc 0 rfl rfl (by decide +kernel) ?_
  refine n_bipush (n := 7) (v := nI 7) hc (by decide) (by decide +kernel) ?_
  refine n_newa (Ls := L + 7) hc hl7 (atype := .int) (t := 0) (N := 7) rfl ac_int (fun _ => rfl) (by decide) (Or.inl rfl) rfl rfl (by decide) (by decide +kernel) ⟨by decide, by decide⟩ (by decide +kernel) ?_
  have hl8 := len1 (z := .inr (0, 7)) hl7
  have kf8 := at1 (z := .inr (0, 7)) kf7
  refine n_putF hc hci (ty := .array .int) kf8 (Or.inr ⟨_, rfl⟩) fl_X7_32 rfl (by decide +kernel) rfl rfl (by decide +kernel) ?_
  refine n_aload_n (n := 0) (i := 0) hc 0 rfl rfl (by decide +kernel) ?_
  refine n_bipush (n := 7) (v := nI 7) hc (by decide) (by decide +kernel) ?_
  refine n_newa (Ls := L + 8) hc hl8 (atype := .int) (t := 0) (N := 7) rfl ac_int (fun _ => rfl) (by decide) (Or.inl rfl) rfl rfl (by decide) (by decide +kernel) ⟨by decide, by decide⟩ (by decide +kernel) ?_
  have hl9 := len1 (z := .inr (0, 7)) hl8
  have kf9 := at1 (z := .inr (0, 7)) kf8
  refine n_putF hc hci (ty := .array .int) kf9 (Or.inr ⟨_, rfl⟩) fl_X7_35 rfl (by decide +kernel) rfl rfl (by decide +kernel) ?_
  refine n_aload_n (n := 0) (i := 0) hc 0 rfl rfl (by decide +kernel) ?_
  refine n_bipush (n := 7) (v := nI 7) hc (by decide) (by decide +kernel) ?_
  refine n_newa (Ls := L + 9) hc hl9 (atype := .int) (t := 0) (N := 7) rfl ac_int (fun _ => rfl) (by decide) (Or.inl rfl) rfl rfl (by decide) (by decide +kernel) ⟨by decide, by decide⟩ (by decide +kernel) ?_
  have hl10 := len1 (z := .inr (0, 7)) hl9
  have kf10 := at1 (z := .inr (0, 7)) kf9
  refine n_putF hc hci (ty := .array .int) kf10 (Or.inr ⟨_, rfl⟩) fl_X7_38 rfl (by decide +kernel) rfl rfl (by decide +kernel) ?_
  refine n_aload_n (n := 0) (i := 0) hc 0 rfl rfl (by decide +kernel) ?_
  refine n_sipush (n := 128) (v := nI 128) hc (by decide) (by decide +kernel) ?_
  refine n_newa (Ls := L + 10) hc hl10 (atype := .boolean) (t := 2) (N := 128) rfl ac_boolean (fun _ => rfl) (by decide) (Or.inr (Or.inr rfl)) rfl rfl (by decide) (by decide +kernel) ⟨by decide, by decide⟩ (by decide +kernel) ?_
  have hl11 := len1 (z := .inr (2, 128)) hl10
  have kf11 := at1 (z := .inr (2, 128)) kf10
  refine n_putF hc hci (ty := .array .boolean) kf11 (Or.inr ⟨_, rfl⟩) fl_X7_41 rfl (by decide +kernel) rfl rfl (by decide +kernel) ?_
  refine n_aload_n (n := 0) (i := 0) hc 0 rfl rfl (by decide +kernel) ?_
  refine n_sipush (n := 2001) (v := nI 2001) hc (by decide) (by decide +kernel) ?_
  refine n_newa (Ls := L + 11) hc hl11 (atype := .int) (t := 0) (N := 2001) rfl ac_int (fun _ => rfl) (by decide) (Or.inl rfl) rfl rfl (by decide) (by decide +kernel) ⟨by decide, by decide⟩ (by decide +kernel) ?_
  have hl12 := len1 (z := .inr (0, 2001)) hl11
  have kf12 := at1 (z := .inr (0, 2001)) kf11
  refine n_putF hc hci (ty := .array .int) kf12 (Or.inr ⟨_, rfl⟩) fl_X7_45 rfl (by decide +kernel) rfl rfl (by decide +kernel) ?_
  refine n_aload_n (n := 0) (i := 0) hc 0 rfl rfl (by decide +kernel) ?_
  refine n_sipush (n := 2000) (v := nI 2000) hc (by decide) (by decide +kernel) ?_
  refine n_newa (Ls := L + 12) hc hl12 (atype := .int) (t := 0) (N := 2000) rfl ac_int (fun _ => rfl) (by decide) (Or.inl rfl) rfl rfl (by decide) (by decide +kernel) ⟨by decide, by decide⟩ (by decide +kernel) ?_
  have hl13 := len1 (z := .inr (0, 2000)) hl12
  have kf13 := at1 (z := .inr (0, 2000)) kf12
  refine n_putF hc hci (ty := .array .int) kf13 (Or.inr ⟨_, rfl⟩) fl_X7_48 rfl (by decide +kernel) rfl rfl (by decide +kernel) ?_
  refine n_aload_n (n := 0) (i := 0) hc 0 rfl rfl (by decide +kernel) ?_
  refine n_sipush (n := 2000) (v := nI 2000) hc (by decide) (by decide +kernel) ?_
  refine n_newa (Ls := L + 13) hc hl13 (atype := .int) (t := 0) (N := 2000) rfl ac_int (fun _ => rfl) (by decide) (Or.inl rfl) rfl rfl (by decide) (by decide +kernel) ⟨by decide, by decide⟩ (by decide +kernel) ?_
  have hl14 := len1 (z := .inr (0, 2000)) hl13
  have kf14 := at1 (z := .inr (0, 2000)) kf13
  refine n_putF hc hci (ty := .array .int) kf14 (Or.inr ⟨_, rfl⟩) fl_X7_51 rfl (by decide +kernel) rfl rfl (by decide +kernel) ?_
  refine n_aload_n (n := 0) (i := 0) hc 0 rfl rfl (by decide +kernel) ?_
  refine n_bipush (n := 27) (v := nI 27) hc (by decide) (by decide +kernel) ?_
  refine n_newa (Ls := L + 14) hc hl14 (atype := .int) (t := 0) (N := 27) rfl ac_int (fun _ => rfl) (by decide) (Or.inl rfl) rfl rfl (by decide) (by decide +kernel) ⟨by decide, by decide⟩ (by decide +kernel) ?_
  have hl15 := len1 (z := .inr (0, 27)) hl14
  have kf15 := at1 (z := .inr (0, 27)) kf14
  refine n_putF hc hci (ty := .array .int) kf15 (Or.inr ⟨_, rfl⟩) fl_X7_54 rfl (by decide +kernel) rfl rfl (by decide +kernel) ?_
  refine n_aload_n (n := 0) (i := 0) hc 0 rfl rfl (by decide +kernel) ?_
  refine n_bipush (n := 27) (v := nI 27) hc (by decide) (by decide +kernel) ?_
  refine n_newa (Ls := L + 15) hc hl15 (atype := .boolean) (t := 2) (N := 27) rfl ac_boolean (fun _ => rfl) (by decide) (Or.inr (Or.inr rfl)) rfl rfl (by decide) (by decide +kernel) ⟨by decide, by decide⟩ (by decide +kernel) ?_
  have hl16 := len1 (z := .inr (2, 27)) hl15
  have kf16 := at1 (z := .inr (2, 27)) kf15
  refine n_putF hc hci (ty := .array .boolean) kf16 (Or.inr ⟨_, rfl⟩) fl_X7_57 rfl (by decide +kernel) rfl rfl (by decide +kernel) ?_
  refine n_aload_n (n := 0) (i := 0) hc 0 rfl rfl (by decide +kernel) ?_
  refine n_bipush (n := 7) (v := nI 7) hc (by decide) (by decide +kernel) ?_
  refine n_newa (Ls := L + 16) hc hl16 (atype := .int) (t := 0) (N := 7) rfl ac_int (fun _ => rfl) (by decide) (Or.inl rfl) rfl rfl (by decide) (by decide +kernel) ⟨by decide, by decide⟩ (by decide +kernel) ?_
  have hl17 := len1 (z := .inr (0, 7)) hl16
  have kf17 := at1 (z := .inr (0, 7)) kf16
  refine n_putF hc hci (ty := .array .int) kf17 (Or.inr ⟨_, rfl⟩) fl_X7_60 rfl (by decide +kernel) rfl rfl (by decide +kernel) ?_
  refine n_aload_n (n := 0) (i := 0) hc 0 rfl rfl (by decide +kernel) ?_
  refine n_bipush (n := 7) (v := nI 7) hc (by decide) (by decide +kernel) ?_
  refine n_newa (Ls := L + 17) hc hl17 (atype := .int) (t := 0) (N := 7) rfl ac_int (fun _ => rfl) (by decide) (Or.inl rfl) rfl rfl (by decide) (by decide +kernel) ⟨by decide, by decide⟩ (by decide +kernel) ?_
  have hl18 := len1 (z := .inr (0, 7)) hl17
  have kf18 := at1 (z := .inr (0, 7)) kf17
  refine n_putF hc hci (ty := .array .int) kf18 (Or.inr ⟨_, rfl⟩) fl_X7_63 rfl (by decide +kernel) rfl rfl (by decide +kernel) ?_
  refine n_aload_n (n := 0) (i := 0) hc 0 rfl rfl (by decide +kernel) ?_
  refine n_bipush (n := 60) (v := nI 60) hc (by decide) (by decide +kernel) ?_
  refine n_newa (Ls := L + 18) hc hl18 (atype := .int) (t := 0) (N := 60) rfl ac_int (fun _ => rfl) (by decide) (Or.inl rfl) rfl rfl (by decide) (by decide +kernel) ⟨by decide, by decide⟩ (by decide +kernel) ?_
  have hl19 := len1 (z := .inr (0, 60)) hl18
  have kf19 := at1 (z := .inr (0, 60)) kf18
  refine n_putF hc hci (ty := .array .int) kf19 (Or.inr ⟨_, rfl⟩) fl_X7_66 rfl (by decide +kernel) rfl rfl (by decide +kernel) ?_
  refine n_aload_n (n := 0) (i := 0) hc 0 rfl rfl (by decide +kernel) ?_
  refine n_sipush (n := 420) (v := nI 420) hc (by decide) (by decide +kernel) ?_
  refine n_newa (Ls := L + 19) hc hl19 (atype := .int) (t := 0) (N := 420) rfl ac_int (fun _ => rfl) (by decide) (Or.inl rfl) rfl rfl (by decide) (by decide +kernel) ⟨by decide, by decide⟩ (by decide +kernel) ?_
  have hl20 := len1 (z := .inr (0, 420)) hl19
  have kf20 := at1 (z := .inr (0, 420)) kf19
  refine n_putF hc hci (ty := .array .int) kf20 (Or.inr ⟨_, rfl⟩) fl_X7_69 rfl (by decide +kernel) rfl rfl (by decide +kernel) ?_
  refine n_aload_n (n := 0) (i := 0) hc 0 rfl rfl (by decide +kernel) ?_
  refine n_sipush (n := 420) (v := nI 420) hc (by decide) (by decide +kernel) ?_
  refine n_newa (Ls := L + 20) hc hl20 (atype := .int) (t := 0) (N := 420) rfl ac_int (fun _ => rfl) (by decide) (Or.inl rfl) rfl rfl (by decide) (by decide +kernel) ⟨by decide, by decide⟩ (by decide +kernel) ?_
  have hl21 := len1 (z := .inr (0, 420)) hl20
  have kf21 := at1 (z := .inr (0, 420)) kf20
  refine n_putF hc hci (ty := .array .int) kf21 (Or.inr ⟨_, rfl⟩) fl_X7_72 rfl (by decide +kernel) rfl rfl (by decide +kernel) ?_
  refine n_aload_n (n := 0) (i := 0) hc 0 rfl rfl (by decide +kernel) ?_
  refine n_bipush (n := 70) (v := nI 70) hc (by decide) (by decide +kernel) ?_
  refine n_newa (Ls := L + 21) hc hl21 (atype := .int) (t := 0) (N := 70) rfl ac_int (fun _ => rfl) (by decide) (Or.inl rfl) rfl rfl (by decide) (by decide +kernel) ⟨by decide, by decide⟩ (by decide +kernel) ?_
  have hl22 := len1 (z := .inr (0, 70)) hl21
  have kf22 := at1 (z := .inr (0, 70)) kf21
  refine n_putF hc hci (ty := .array .int) kf22 (Or.inr ⟨_, rfl⟩) fl_X7_75 rfl (by decide +kernel) rfl rfl (by decide +kernel) ?_
  refine n_aload_n (n := 0) (i := 0) hc 0 rfl rfl (by decide +kernel) ?_
  refine n_bipush (n := 70) (v := nI 70) hc (by decide) (by decide +kernel) ?_
  refine n_newa (Ls := L + 22) hc hl22 (atype := .int) (t := 0) (N := 70) rfl ac_int (fun _ => rfl) (by decide) (Or.inl rfl) rfl rfl (by decide) (by decide +kernel) ⟨by decide, by decide⟩ (by decide +kernel) ?_
  have hl23 := len1 (z := .inr (0, 70)) hl22
  have kf23 := at1 (z := .inr (0, 70)) kf22
  refine n_putF hc hci (ty := .array .int) kf23 (Or.inr ⟨_, rfl⟩) fl_X7_78 rfl (by decide +kernel) rfl rfl (by decide +kernel) ?_
  refine n_iconst (n := 0) (v := nI 0) hc (by decide) (by decide +kernel) ?_
  refine n_istore_n (n := 1) (i := 1) (lv' := [(1, .inl (.int (nI 0))), (0, .inr k0)]) hc rfl (by decide) (fun _ => rfl) okst (by decide +kernel) ?_
  have gv : (mdB L k0 σ).2 k0 3 = some (L + 3) := by simp [mdB, setR]
  refine md_loop hc (sA := mdA sh) (σA := mdB L k0 σ) (kl := L + 3) kf23 (at1 (z := .inr (0, 70)) (at1 (z := .inr (0, 70)) (at1 (z := .inr (0, 420)) (at1 (z := .inr (0, 420)) (at1 (z := .inr (0, 60)) (at1 (z := .inr (0, 7)) (at1 (z := .inr (0, 7)) (at1 (z := .inr (2, 27)) (at1 (z := .inr (0, 27)) (at1 (z := .inr (0, 2000)) (at1 (z := .inr (0, 2000)) (at1 (z := .inr (0, 2001)) (at1 (z := .inr (2, 128)) (at1 (z := .inr (0, 7)) (at1 (z := .inr (0, 7)) (at1 (z := .inr (0, 7)) (at1 (z := .inr (0, 7)) (at1 (z := .inr (1, 160)) (at1 (z := .inr (0, 7)) (new1 (z := .inr (0, 7)) hl3)))))))))))))))))))) gv ?_ 7 0 rfl
  exact n_vret hc he rfl (by decide +kernel)
end CTORS3
