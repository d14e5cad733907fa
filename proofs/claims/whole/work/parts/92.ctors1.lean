/-! the constructors -/
theorem len1 {sh : List Shp} {L : Nat} {z : Shp} (h : sh.length = L) : (sh ++ [z]).length = L + 1 := by rw [List.length_append, h]; rfl
theorem at1 {sh : List Shp} {k : Nat} {z q : Shp} (h : sh[k]? = some q) : (sh ++ [z])[k]? = some q := by rw [List.getElem?_append_left (List.getElem?_eq_some_iff.mp h).1]; exact h
theorem new1 {sh : List Shp} {L : Nat} {z : Shp} (h : sh.length = L) : (sh ++ [z])[L]? = some z := by rw [List.getElem?_append_right (by omega), h, Nat.sub_self]; rfl
theorem lt1 {sh : List Shp} {k L : Nat} {q : Shp} (h : sh[k]? = some q) (hL : sh.length = L) : k < L := by rw [← hL]; exact (List.getElem?_eq_some_iff.mp h).1
theorem okst {k0 : Nat} {i : Int32} : ∀ n, (∀ q, q ∈ ([(0, .inr k0)] : List (Nat × Vn)) → okV n q.2) → ∀ q, q ∈ ([(1, .inl (.int i)), (0, .inr k0)] : List (Nat × Vn)) → okV n q.2 := fun n h q hq => by
  rcases List.mem_cons.mp hq with e | e
  · rw [e]; trivial
  · exact h q e
theorem okii {k0 : Nat} {i j : Int32} : ∀ n, (∀ q, q ∈ ([(1, .inl (.int j)), (0, .inr k0)] : List (Nat × Vn)) → okV n q.2) → ∀ q, q ∈ ([(1, .inl (.int i)), (0, .inr k0)] : List (Nat × Vn)) → okV n q.2 := fun n h q hq => by
  rcases List.mem_cons.mp hq with e | e
  · rw [e]; trivial
  · exact h q (List.mem_cons_of_mem _ e)
theorem mh_X1 : MhD yX1_init 0 := ⟨by decide +kernel, by decide +kernel, by decide +kernel⟩
theorem mh_X0 : MhD yX0_init 0 := ⟨by decide +kernel, by decide +kernel, by decide +kernel⟩
theorem mh_X2 : MhD yX2_init 0 := ⟨by decide +kernel, by decide +kernel, by decide +kernel⟩
theorem mh_X3 : MhD yX3_init 0 := ⟨by decide +kernel, by decide +kernel, by decide +kernel⟩
theorem mh_X4 : MhD yX4_init 0 := ⟨by decide +kernel, by decide +kernel, by decide +kernel⟩
theorem mh_X5 : MhD yX5_init 0 := ⟨by decide +kernel, by decide +kernel, by decide +kernel⟩
theorem mh_X6 : MhD yX6_init 0 := ⟨by decide +kernel, by decide +kernel, by decide +kernel⟩
theorem mh_X7 : MhD yX7_init 0 := ⟨by decide +kernel, by decide +kernel, by decide +kernel⟩
section CTORS
variable {l : Launch} {sh : List Shp} {σ : Hp} {k0 L : Nat}
def netS (sh : List Shp) : List Shp := (sh ++ [.inr (0, 27)]) ++ [.inr (0, 27)]
def netH (L k0 : Nat) (σ : Hp) : Hp := setR (setR σ k0 1 L) k0 2 (L + 1)
theorem net_len (h : sh.length = L) : (netS sh).length = L + 2 := len1 (len1 h)
theorem net_at {k : Nat} {q : Shp} (h : sh[k]? = some q) : (netS sh)[k]? = some q := at1 (at1 h)
theorem net_cl (h : sh.length = L) (hk : k0 < L) (hc : Cl sh σ) : Cl (netS sh) (netH L k0 σ) := by
  have h1 := len1 (z := .inr (0, 27)) h
  have h2 := len1 (z := .inr (0, 27)) h1
  have c2 : Cl (netS sh) σ := Cl_app (Cl_app hc _) _
  have e : (netS sh).length = L + 2 := h2
  exact Cl_R (Cl_R c2 (by omega) (by omega)) (by omega) (by omega)
theorem net_o {k : Nat} (h : k ≠ k0) : (netH L k0 σ).2 k = σ.2 k := by
  unfold netH setR
  funext j
  dsimp only
  rw [if_neg h, if_neg h]
theorem setR_o {k j x a : Nat} (h : a ≠ k) : (setR σ k j x).2 a = σ.2 a := by
  unfold setR
  funext b
  dsimp only
  rw [if_neg h]
theorem setR_s {k j x : Nat} : (setR σ k j x).2 k j = some x := by
  unfold setR
  dsimp only
  rw [if_pos rfl, if_pos rfl]
theorem c_net (hL : sh.length = L) (hk : sh[k0]? = some (.inl 1)) : MtN l yX1_init cX1_init 1 1 2 54 k0 sh σ (netS sh) (netH L k0 σ) := by
  refine mt_n (by decide) rfl rfl (by decide) (lt1 hk rfl) (fun γ ad hc hci he => ?_)
  refine n_aload_n (n := 0) (i := 0) hc 0 rfl rfl (by decide +kernel) ?_
  refine n_objInit hc oi_X1 ⟨by decide, by decide⟩ rfl (by decide +kernel) ?_
  refine n_aload_n (n := 0) (i := 0) hc 0 rfl rfl (by decide +kernel) ?_
  refine n_bipush (n := 27) (v := nI 27) hc (by decide) (by decide +kernel) ?_
  refine n_newa (Ls := L) hc hL (atype := .int) (t := 0) (N := 27) rfl ac_int (fun _ => rfl) (by decide) (Or.inl rfl) rfl rfl (by decide) (by decide +kernel) ⟨by decide, by decide⟩ (by decide +kernel) ?_
  have hl1 := len1 (z := .inr (0, 27)) hL
  have kf1 := at1 (z := .inr (0, 27)) hk
  refine n_putF hc hci (ty := .array .int) kf1 (Or.inr ⟨_, rfl⟩) fl_X1_9 rfl (by decide +kernel) rfl rfl (by decide +kernel) ?_
  refine n_aload_n (n := 0) (i := 0) hc 0 rfl rfl (by decide +kernel) ?_
  refine n_bipush (n := 27) (v := nI 27) hc (by decide) (by decide +kernel) ?_
  refine n_newa (Ls := L + 1) hc hl1 (atype := .int) (t := 0) (N := 27) rfl ac_int (fun _ => rfl) (by decide) (Or.inl rfl) rfl rfl (by decide) (by decide +kernel) ⟨by decide, by decide⟩ (by decide +kernel) ?_
  have hl2 := len1 (z := .inr (0, 27)) hl1
  have kf2 := at1 (z := .inr (0, 27)) kf1
  refine n_putF hc hci (ty := .array .int) kf2 (Or.inr ⟨_, rfl⟩) fl_X1_15 rfl (by decide +kernel) rfl rfl (by decide +kernel) ?_
  exact n_vret hc he rfl (by decide +kernel)
def scaleS (sh : List Shp) : List Shp := ((((sh ++ [.inr (0, 8)]) ++ [.inr (0, 8)]) ++ [.inr (0, 8)]) ++ [.inr (0, 7)])
def scaleH (L k0 : Nat) (σ : Hp) : Hp := setR (setR (setR (setR σ k0 0 L) k0 1 (L + 1)) k0 2 (L + 2)) k0 3 (L + 3)
theorem c_scale (hL : sh.length = L) (hk : sh[k0]? = some (.inl 3)) : MtN l yX3_init cX3_init 1 1 4 31 k0 sh σ (scaleS sh) (scaleH L k0 σ) := by
  refine mt_n (by decide) rfl rfl (by decide) (lt1 hk rfl) (fun γ ad hc hci he => ?_)
  refine n_aload_n (n := 0) (i := 0) hc 0 rfl rfl (by decide +kernel) ?_
  refine n_objInit hc oi_X3 ⟨by decide, by decide⟩ rfl (by decide +kernel) ?_
  refine n_aload_n (n := 0) (i := 0) hc 0 rfl rfl (by decide +kernel) ?_
  refine n_bipush (n := 8) (v := nI 8) hc (by decide) (by decide +kernel) ?_
  refine n_newa (Ls := L) hc hL (atype := .int) (t := 0) (N := 8) rfl ac_int (fun _ => rfl) (by decide) (Or.inl rfl) rfl rfl (by decide) (by decide +kernel) ⟨by decide, by decide⟩ (by decide +kernel) ?_
  have hl1 := len1 (z := .inr (0, 8)) hL
  have kf1 := at1 (z := .inr (0, 8)) hk
  refine n_putF hc hci (ty := .array .int) kf1 (Or.inr ⟨_, rfl⟩) fl_X3_9 rfl (by decide +kernel) rfl rfl (by decide +kernel) ?_
  refine n_aload_n (n := 0) (i := 0) hc 0 rfl rfl (by decide +kernel) ?_
  refine n_bipush (n := 8) (v := nI 8) hc (by decide) (by decide +kernel) ?_
  refine n_newa (Ls := L + 1) hc hl1 (atype := .int) (t := 0) (N := 8) rfl ac_int (fun _ => rfl) (by decide) (Or.inl rfl) rfl rfl (by decide) (by decide +kernel) ⟨by decide, by decide⟩ (by decide +kernel) ?_
  have hl2 := len1 (z := .inr (0, 8)) hl1
  have kf2 := at1 (z := .inr (0, 8)) kf1
  refine n_putF hc hci (ty := .array .int) kf2 (Or.inr ⟨_, rfl⟩) fl_X3_15 rfl (by decide +kernel) rfl rfl (by decide +kernel) ?_
  refine n_aload_n (n := 0) (i := 0) hc 0 rfl rfl (by decide +kernel) ?_
  refine n_bipush (n := 8) (v := nI 8) hc (by decide) (by decide +kernel) ?_
  refine n_newa (Ls := L + 2) hc hl2 (atype := .int) (t := 0) (N := 8) rfl ac_int (fun _ => rfl) (by decide) (Or.inl rfl) rfl rfl (by decide) (by decide +kernel) ⟨by decide, by decide⟩ (by decide +kernel) ?_
  have hl3 := len1 (z := .inr (0, 8)) hl2
  have kf3 := at1 (z := .inr (0, 8)) kf2
  refine n_putF hc hci (ty := .array .int) kf3 (Or.inr ⟨_, rfl⟩) fl_X3_18 rfl (by decide +kernel) rfl rfl (by decide +kernel) ?_
  refine n_aload_n (n := 0) (i := 0) hc 0 rfl rfl (by decide +kernel) ?_
  refine n_bipush (n := 7) (v := nI 7) hc (by decide) (by decide +kernel) ?_
  refine n_newa (Ls := L + 3) hc hl3 (atype := .int) (t := 0) (N := 7) rfl ac_int (fun _ => rfl) (by decide) (Or.inl rfl) rfl rfl (by decide) (by decide +kernel) ⟨by decide, by decide⟩ (by decide +kernel) ?_
  have hl4 := len1 (z := .inr (0, 7)) hl3
  have kf4 := at1 (z := .inr (0, 7)) kf3
  refine n_putF hc hci (ty := .array .int) kf4 (Or.inr ⟨_, rfl⟩) fl_X3_21 rfl (by decide +kernel) rfl rfl (by decide +kernel) ?_
  exact n_vret hc he rfl (by decide +kernel)
def crowdS (sh : List Shp) : List Shp := (((sh ++ [.inr (0, 2000)]) ++ [.inr (0, 2000)]) ++ [.inr (0, 2000)])
def crowdH (L k0 : Nat) (σ : Hp) : Hp := setR (setR (setR σ k0 3 L) k0 4 (L + 1)) k0 5 (L + 2)
theorem c_crowd (hL : sh.length = L) (hk : sh[k0]? = some (.inl 0)) : MtN l yX0_init cX0_init 1 1 3 6000 k0 sh σ (crowdS sh) (crowdH L k0 σ) := by
  refine mt_n (by decide) rfl rfl (by decide) (lt1 hk rfl) (fun γ ad hc hci he => ?_)
  refine n_aload_n (n := 0) (i := 0) hc 0 rfl rfl (by decide +kernel) ?_
  refine n_objInit hc oi_X0 ⟨by decide, by decide⟩ rfl (by decide +kernel) ?_
  refine n_aload_n (n := 0) (i := 0) hc 0 rfl rfl (by decide +kernel) ?_
  refine n_sipush (n := 2000) (v := nI 2000) hc (by decide) (by decide +kernel) ?_
  refine n_newa (Ls := L) hc hL (atype := .int) (t := 0) (N := 2000) rfl ac_int (fun _ => rfl) (by decide) (Or.inl rfl) rfl rfl (by decide) (by decide +kernel) ⟨by decide, by decide⟩ (by decide +kernel) ?_
  have hl1 := len1 (z := .inr (0, 2000)) hL
  have kf1 := at1 (z := .inr (0, 2000)) hk
  refine n_putF hc hci (ty := .array .int) kf1 (Or.inr ⟨_, rfl⟩) fl_X0_9 rfl (by decide +kernel) rfl rfl (by decide +kernel) ?_
  refine n_aload_n (n := 0) (i := 0) hc 0 rfl rfl (by decide +kernel) ?_
  refine n_sipush (n := 2000) (v := nI 2000) hc (by decide) (by decide +kernel) ?_
  refine n_newa (Ls := L + 1) hc hl1 (atype := .int) (t := 0) (N := 2000) rfl ac_int (fun _ => rfl) (by decide) (Or.inl rfl) rfl rfl (by decide) (by decide +kernel) ⟨by decide, by decide⟩ (by decide +kernel) ?_
  have hl2 := len1 (z := .inr (0, 2000)) hl1
  have kf2 := at1 (z := .inr (0, 2000)) kf1
  refine n_putF hc hci (ty := .array .int) kf2 (Or.inr ⟨_, rfl⟩) fl_X0_15 rfl (by decide +kernel) rfl rfl (by decide +kernel) ?_
  refine n_aload_n (n := 0) (i := 0) hc 0 rfl rfl (by decide +kernel) ?_
  refine n_sipush (n := 2000) (v := nI 2000) hc (by decide) (by decide +kernel) ?_
  refine n_newa (Ls := L + 2) hc hl2 (atype := .int) (t := 0) (N := 2000) rfl ac_int (fun _ => rfl) (by decide) (Or.inl rfl) rfl rfl (by decide) (by decide +kernel) ⟨by decide, by decide⟩ (by decide +kernel) ?_
  have hl3 := len1 (z := .inr (0, 2000)) hl2
  have kf3 := at1 (z := .inr (0, 2000)) kf2
  refine n_putF hc hci (ty := .array .int) kf3 (Or.inr ⟨_, rfl⟩) fl_X0_18 rfl (by decide +kernel) rfl rfl (by decide +kernel) ?_
  exact n_vret hc he rfl (by decide +kernel)
def readS (sh : List Shp) : List Shp := netS (sh ++ [.inl 1])
def readH (L k0 : Nat) (σ : Hp) : Hp := setR (netH (L + 1) L σ) k0 0 L
theorem c_read (hL : sh.length = L) (hk : sh[k0]? = some (.inl 2)) : MtN l yX2_init cX2_init 1 2 3 57 k0 sh σ (readS sh) (readH L k0 σ) := by
  refine mt_n (by decide) rfl rfl (by decide) (lt1 hk rfl) (fun γ ad hc hci he => ?_)
  have h1 := len1 (z := .inl 1) hL
  refine n_aload_n (n := 0) (i := 0) hc 0 rfl rfl (by decide +kernel) ?_
  refine n_objInit hc oi_X2 ⟨by decide, by decide⟩ rfl (by decide +kernel) ?_
  refine n_aload_n (n := 0) (i := 0) hc 0 rfl rfl (by decide +kernel) ?_
  refine n_new (ci := 1) (Ls := L) hc hL cls_1 cl_X2_9 is_X1 in_X1 tyX1_ok fs_1 ⟨by decide, by decide⟩ (by decide +kernel) ?_
  refine n_dup hc (fun _ => rfl) (by decide +kernel) ?_
  refine n_callN hc (c_net h1 (new1 hL)) nl_X2_11 im_X1 in_X1 cd_X1 mh_X1 rfl ⟨by decide, by decide, by decide⟩ ⟨by decide, by decide⟩ (by rw [net_len h1, h1]; omega) (net_cl h1 (by omega)) (fun _ => Nat.le_of_ble_eq_true rfl) (by decide +kernel) ?_
  refine n_putF hc hci (ty := .object "NetMaps$Net") (net_at (at1 hk)) (Or.inl ⟨_, rfl⟩) fl_X2_12 rfl (by decide +kernel) rfl rfl (by decide +kernel) ?_
  exact n_vret hc he rfl (by decide +kernel)
def seekS (sh : List Shp) : List Shp := (netS (sh ++ [.inl 1]) ++ [.inr (0, 27)]) ++ [.inr (0, 27)]
def seekH (L k0 : Nat) (σ : Hp) : Hp := setR (setR (setR (setR (netH (L + 1) L σ) k0 0 L) k0 1 L) k0 2 (L + 3)) k0 3 (L + 4)
theorem c_seek (hL : sh.length = L) (hk : sh[k0]? = some (.inl 4)) : MtN l yX4_init cX4_init 1 2 5 111 k0 sh σ (seekS sh) (seekH L k0 σ) := by
  refine mt_n (by decide) rfl rfl (by decide) (lt1 hk rfl) (fun γ ad hc hci he => ?_)
  have h1 := len1 (z := .inl 1) hL
  have h2 : (netS (sh ++ [.inl 1])).length = L + 3 := net_len h1
  have h3 := len1 (z := .inr (0, 27)) h2
  have k1 := net_at (at1 (z := .inl 1) hk)
  refine n_aload_n (n := 0) (i := 0) hc 0 rfl rfl (by decide +kernel) ?_
  refine n_objInit hc oi_X4 ⟨by decide, by decide⟩ rfl (by decide +kernel) ?_
  refine n_aload_n (n := 0) (i := 0) hc 0 rfl rfl (by decide +kernel) ?_
  refine n_new (ci := 1) (Ls := L) hc hL cls_1 cl_X4_9 is_X1 in_X1 tyX1_ok fs_1 ⟨by decide, by decide⟩ (by decide +kernel) ?_
  refine n_dup hc (fun _ => rfl) (by decide +kernel) ?_
  refine n_callN hc (c_net h1 (new1 hL)) nl_X4_11 im_X1 in_X1 cd_X1 mh_X1 rfl ⟨by decide, by decide, by decide⟩ ⟨by decide, by decide⟩ (by rw [h2, h1]; omega) (net_cl h1 (by omega)) (fun _ => Nat.le_of_ble_eq_true rfl) (by decide +kernel) ?_
  refine n_putR hc (ty := .object "NetMaps$Net") k1 (Or.inl ⟨_, rfl⟩) fp_X4_12 rfl (by decide +kernel) ?_
  refine n_aload_n (n := 0) (i := 0) hc 0 rfl rfl (by decide +kernel) ?_
  refine n_aload_n (n := 0) (i := 0) hc 0 rfl rfl (by decide +kernel) ?_
  refine n_getR hc k1 setR_s fl_X4_12 rfl (by decide +kernel) ?_
  refine n_putR hc (ty := .object "NetMaps$Net") k1 (Or.inl ⟨_, rfl⟩) fp_X4_18 rfl (by decide +kernel) ?_
  refine n_aload_n (n := 0) (i := 0) hc 0 rfl rfl (by decide +kernel) ?_
  refine n_bipush (n := 27) (v := nI 27) hc (by decide) (by decide +kernel) ?_
  refine n_newa (Ls := L + 3) hc h2 (atype := .int) (t := 0) (N := 27) rfl ac_int (fun _ => rfl) (by decide) (Or.inl rfl) rfl rfl (by decide) (by decide +kernel) ⟨by decide, by decide⟩ (by decide +kernel) ?_
  refine n_putF hc hci (ty := .array .int) (at1 k1) (Or.inr ⟨_, rfl⟩) fl_X4_21 rfl (by decide +kernel) rfl rfl (by decide +kernel) ?_
  refine n_aload_n (n := 0) (i := 0) hc 0 rfl rfl (by decide +kernel) ?_
  refine n_bipush (n := 27) (v := nI 27) hc (by decide) (by decide +kernel) ?_
  refine n_newa (Ls := L + 4) hc h3 (atype := .int) (t := 0) (N := 27) rfl ac_int (fun _ => rfl) (by decide) (Or.inl rfl) rfl rfl (by decide) (by decide +kernel) ⟨by decide, by decide⟩ (by decide +kernel) ?_
  refine n_putF hc hci (ty := .array .int) (at1 (at1 k1)) (Or.inr ⟨_, rfl⟩) fl_X4_25 rfl (by decide +kernel) rfl rfl (by decide +kernel) ?_
  exact n_vret hc he rfl (by decide +kernel)
end CTORS
