/-! the constructors of a state, of the class, of the reference -/
section CTORS2
variable {l : Launch} {γ : Gm} {R : Room} {nL L0 : Nat} {ad0 : Nat → Nat} {sh sA : List Shp} {σ σA : Hp} {k0 L : Nat}
def netsS (sh : List Shp) : Nat → List Shp
  | 0 => sh
  | i + 1 => netS (netsS sh i ++ [.inl 1])
def netsH (L k : Nat) (σ : Hp) : Nat → Hp
  | 0 => σ
  | i + 1 => setR (netH (L + 3 * i + 1) (L + 3 * i) (netsH L k σ i)) k i (L + 3 * i)
theorem nets_len (h : sh.length = L) : ∀ i, (netsS sh i).length = L + 3 * i := by
  intro i
  induction i with
  | zero => exact h
  | succ i ih => exact (net_len (len1 ih)).trans (by omega)
theorem nets_at {k : Nat} {q : Shp} (h : sh[k]? = some q) : ∀ i, (netsS sh i)[k]? = some q := by
  intro i
  induction i with
  | zero => exact h
  | succ i ih => exact net_at (at1 ih)
theorem nets_o {k a : Nat} (h1 : a < L) (h2 : a ≠ k) : ∀ i, (netsH L k σ i).2 a = σ.2 a := by
  intro i
  induction i with
  | zero => rfl
  | succ i ih => exact (setR_o h2).trans ((net_o (by omega)).trans ih)
theorem nets_cl {k : Nat} (h : sh.length = L) (hk : k < L) (hc : Cl sh σ) : ∀ i, Cl (netsS sh i) (netsH L k σ i) := by
  intro i
  induction i with
  | zero => exact hc
  | succ i ih =>
    have h1 := nets_len h i
    have h2 : (netsS sh (i + 1)).length = L + 3 * (i + 1) := nets_len h (i + 1)
    exact Cl_R (net_cl (len1 h1) (by omega) (Cl_app ih _)) (by rw [h2]; omega) (by rw [h2]; omega)
def listH (k : Nat) (σ : Hp) : Nat → Hp
  | 0 => σ
  | i + 1 => setI (listH k σ i) k i (nI 127)
theorem list_2 {k : Nat} : ∀ i, (listH k σ i).2 = σ.2 := by
  intro i
  induction i with
  | zero => rfl
  | succ i ih => exact ih
theorem list_cl {k : Nat} (hk : k < sh.length) (hc : Cl sh σ) : ∀ i, Cl sh (listH k σ i) := by
  intro i
  induction i with
  | zero => exact hc
  | succ i ih => exact Cl_I ih hk
theorem tq3 (dA : Nat → ClassId) : (tysOf dA)[3]? = some (dA 3, .object (clsN 1)) := rfl
theorem tq4 (dA : Nat → ClassId) : (tysOf dA)[4]? = some (dA 4, .object (clsN 5)) := rfl
theorem ao1 : ∀ s, AO s → va_AO (clsN 1) s := fun _ h => h.1
theorem ao5 : ∀ s, AO s → va_AO (clsN 5) s := fun _ h => h.2
def stA (sh : List Shp) : List Shp := ((sh ++ [.inr (3, 6)]) ++ [.inr (0, 7)]) ++ [.inr (0, 7)]
def stB (L k0 : Nat) (σ : Hp) : Hp := setR (setR (setR σ k0 0 L) k0 1 (L + 1)) k0 2 (L + 2)
def stateS (sh : List Shp) : List Shp := netsS (stA sh) 6
def stateH (L k0 : Nat) (σ : Hp) : Hp := listH (L + 1) (netsH (L + 3) L (stB L k0 σ) 6) 7
theorem stA_len (h : sh.length = L) : (stA sh).length = L + 3 := len1 (len1 (len1 h))
theorem state_len (h : sh.length = L) : (stateS sh).length = L + 21 := nets_len (stA_len h) 6
theorem state_at {k : Nat} {q : Shp} (h : sh[k]? = some q) : (stateS sh)[k]? = some q := nets_at (at1 (at1 (at1 h))) 6
theorem state_cl (h : sh.length = L) (hk : k0 < L) (hc : Cl sh σ) : Cl (stateS sh) (stateH L k0 σ) := by
  have h1 := stA_len h
  have c1 : Cl (stA sh) σ := Cl_app (Cl_app (Cl_app hc _) _) _
  have c2 : Cl (stA sh) (stB L k0 σ) := Cl_R (Cl_R (Cl_R c1 (by omega) (by omega)) (by omega) (by omega)) (by omega) (by omega)
  have h2 := state_len h
  exact list_cl (by rw [show netsS (stA sh) 6 = stateS sh from rfl, h2]; omega) (nets_cl h1 (by omega) c2 6) 7
theorem state_o {k : Nat} (h : k ≠ k0) (h2 : k < L) : (stateH L k0 σ).2 k = σ.2 k := by
  unfold stateH
  rw [list_2, nets_o (by omega) (by omega)]
  unfold stB
  rw [setR_o h, setR_o h, setR_o h]
theorem nlt6 {i : Nat} (h : i < 1000) (n : Nat) (hn : n < 1000) : (nI n ≤ nI i) = (n ≤ i) := nle (by omega) (by omega)
theorem inc_1 {i : Nat} : nI i + Int32.ofInt 1 = nI (i + 1) := nI_1 i
/-- the loop of the drawers -/
theorem st_loop1 (hc : CN l γ 2 RX5 cX5_init) (hL : sA.length = L + 3) (hk : sA[k0]? = some (.inl 5)) (hk0 : k0 < L) (hdr : sA[L]? = some (.inr (3, 6))) (hv : σA.2 k0 0 = some L) (hR : 21 ≤ R.cells ∧ 362 ≤ R.slots ∧ 2 ≤ R.frames ∧ 96 ≤ R.locals)
    (kk : WN l γ R 2 L0 ad0 56 [(1, .inl (.int (nI 6))), (0, .inr k0)] [] (netsS sA 6) (netsH (L + 3) L σA 6) (3 + 3 * 6) (20 + 57 * 6)) : ∀ j i, i + j = 6 → WN l γ R 2 L0 ad0 31 [(1, .inl (.int (nI i))), (0, .inr k0)] [] (netsS sA i) (netsH (L + 3) L σA i) (3 + 3 * i) (20 + 57 * i) := by
  intro j
  induction j with
  | zero =>
    intro i hi
    have e : i = 6 := by omega
    subst e
    refine n_iload_n (n := 1) (i := 1) hc 0 rfl rfl (by decide +kernel) ?_
    refine n_bipush (n := 6) (v := nI 6) hc (by decide) (by decide +kernel) ?_
    refine n_icmp_ge (off := 22) (tgt := 56) hc (by decide +kernel) (by decide) (fun _ => kk) (fun h => absurd (by decide) h)
  | succ j ih =>
    intro i hi
    have h1 := nets_len hL i
    have h2 := len1 (z := .inl 1) h1
    have hv2 : (netsH (L + 3) L σA i).2 k0 0 = some L := by rw [nets_o (by omega) (by omega)]; exact hv
    refine n_iload_n (n := 1) (i := 1) hc 0 rfl rfl (by decide +kernel) ?_
    refine n_bipush (n := 6) (v := nI 6) hc (by decide) (by decide +kernel) ?_
    refine n_icmp_ge (off := 22) (tgt := 56) hc (by decide +kernel) (by decide) (fun h => absurd h (by rw [nlt6 (by omega) 6 (by omega)]; omega)) (fun _ => ?_)
    refine n_aload_n (n := 0) (i := 0) hc 1 rfl rfl (by decide +kernel) ?_
    refine n_getR hc (nets_at hk i) hv2 fl_X5_11 rfl (by decide +kernel) ?_
    refine n_iload_n (n := 1) (i := 1) hc 0 rfl rfl (by decide +kernel) ?_
    refine n_new (ci := 1) (Ls := L + 3 + 3 * i) hc h1 cls_1 cl_X5_9 is_X1 in_X1 tyX1_ok fs_1 ⟨by omega, by show 20 + 57 * i + 3 ≤ R.slots; omega⟩ (by decide +kernel) ?_
    refine n_dup hc (fun _ => rfl) (by decide +kernel) ?_
    refine n_callN hc (c_net h2 (new1 h1)) nl_X5_24 im_X1 in_X1 cd_X1 mh_X1 rfl ⟨by omega, by decide, by omega⟩ ⟨by omega, by show 20 + 57 * i + 3 + 54 ≤ R.slots; omega⟩ (by rw [net_len h2, h2]; omega) (net_cl h2 (by omega)) (fun _ => Nat.le_of_ble_eq_true rfl) (by decide +kernel) ?_
    refine n_astq (i := i) (N := 6) (t := 3) (ci := 1) hc (net_at (at1 (nets_at hdr i))) tq3 (by decide) (net_at (new1 h1)) rfl rfl (by omega) (by decide) (by decide +kernel) ?_
    refine n_iinc (i := 1) (j := 0) (n := 1) (lv' := [(1, .inl (.int (nI (i + 1)))), (0, .inr k0)]) hc rfl inc_1 (by decide) (fun _ => rfl) okii (by decide +kernel) ?_
    refine n_goto (off := -22) (tgt := 31) hc (by decide +kernel) (by decide) ?_
    have key := ih (i + 1) (by omega)
    rw [show 3 + 3 * (i + 1) = 3 + 3 * i + 1 + 2 by omega, show 20 + 57 * (i + 1) = 20 + 57 * i + 3 + 54 by omega] at key
    exact key
theorem st_loop2 (hc : CN l γ 2 RX5 cX5_init) {kl kc ks : Nat} (hk : sA[k0]? = some (.inl 5)) (hl : sA[kl]? = some (.inr (0, 7))) (hv : σA.2 k0 1 = some kl)
    (kk : WN l γ R 2 L0 ad0 78 [(1, .inl (.int (nI 7))), (0, .inr k0)] [] sA (listH kl σA 7) kc ks) : ∀ j i, i + j = 7 → WN l γ R 2 L0 ad0 58 [(1, .inl (.int (nI i))), (0, .inr k0)] [] sA (listH kl σA i) kc ks := by
  intro j
  induction j with
  | zero =>
    intro i hi
    have e : i = 7 := by omega
    subst e
    refine n_iload_n (n := 1) (i := 1) hc 0 rfl rfl (by decide +kernel) ?_
    refine n_bipush (n := 7) (v := nI 7) hc (by decide) (by decide +kernel) ?_
    refine n_icmp_ge (off := 17) (tgt := 78) hc (by decide +kernel) (by decide) (fun _ => kk) (fun h => absurd (by decide) h)
  | succ j ih =>
    intro i hi
    refine n_iload_n (n := 1) (i := 1) hc 0 rfl rfl (by decide +kernel) ?_
    refine n_bipush (n := 7) (v := nI 7) hc (by decide) (by decide +kernel) ?_
    refine n_icmp_ge (off := 17) (tgt := 78) hc (by decide +kernel) (by decide) (fun h => absurd h (by rw [nlt6 (by omega) 7 (by omega)]; omega)) (fun _ => ?_)
    refine n_aload_n (n := 0) (i := 0) hc 1 rfl rfl (by decide +kernel) ?_
    refine n_getR hc hk (by rw [list_2]; exact hv) fl_X5_17 rfl (by decide +kernel) ?_
    refine n_iload_n (n := 1) (i := 1) hc 0 rfl rfl (by decide +kernel) ?_
    refine n_bipush (n := 127) (v := nI 127) hc (by decide) (by decide +kernel) ?_
    refine n_iast (i := i) (N := 7) hc hl rfl (by omega) (by decide) (by decide +kernel) ?_
    refine n_iinc (i := 1) (j := 0) (n := 1) (lv' := [(1, .inl (.int (nI (i + 1)))), (0, .inr k0)]) hc rfl inc_1 (by decide) (fun _ => rfl) okii (by decide +kernel) ?_
    refine n_goto (off := -17) (tgt := 58) hc (by decide +kernel) (by decide) ?_
    exact ih (i + 1) (by omega)
theorem c_state (hL : sh.length = L) (hk : sh[k0]? = some (.inl 5)) : MtN l yX5_init cX5_init 2 2 21 362 k0 sh σ (stateS sh) (stateH L k0 σ) := by
  have hk0 := lt1 hk hL
  refine mt_n (by decide) rfl rfl (by decide) (lt1 hk rfl) (fun γ ad hc hci he => ?_)
  have h1 := len1 (z := .inr (3, 6)) hL
  have h2 := len1 (z := .inr (0, 7)) h1
  have k1 := at1 (z := .inr (3, 6)) hk
  have k2 := at1 (z := .inr (0, 7)) k1
  have k3 := at1 (z := .inr (0, 7)) k2
  refine n_aload_n (n := 0) (i := 0) hc 0 rfl rfl (by decide +kernel) ?_
  refine n_objInit hc oi_X5 ⟨by decide, by decide⟩ rfl (by decide +kernel) ?_
  refine n_aload_n (n := 0) (i := 0) hc 0 rfl rfl (by decide +kernel) ?_
  refine n_bipush (n := 6) (v := nI 6) hc (by decide) (by decide +kernel) ?_
  refine n_newq (Ls := L) (t := 3) (N := 6) (ci := 1) hc hL cl_X5_9 ao1 tq3 (by decide) rfl (by decide) (by decide) ⟨by decide, by decide⟩ (by decide +kernel) ?_
  refine n_putF hc hci (ty := .array (.object "NetMaps$Net")) k1 (Or.inr ⟨_, rfl⟩) fl_X5_11 rfl (by decide +kernel) rfl rfl (by decide +kernel) ?_
  refine n_aload_n (n := 0) (i := 0) hc 0 rfl rfl (by decide +kernel) ?_
  refine n_bipush (n := 7) (v := nI 7) hc (by decide) (by decide +kernel) ?_
  refine n_newa (Ls := L + 1) hc h1 (atype := .int) (t := 0) (N := 7) rfl ac_int (fun _ => rfl) (by decide) (Or.inl rfl) rfl rfl (by decide) (by decide +kernel) ⟨by decide, by decide⟩ (by decide +kernel) ?_
  refine n_putF hc hci (ty := .array .int) k2 (Or.inr ⟨_, rfl⟩) fl_X5_17 rfl (by decide +kernel) rfl rfl (by decide +kernel) ?_
  refine n_aload_n (n := 0) (i := 0) hc 0 rfl rfl (by decide +kernel) ?_
  refine n_bipush (n := 7) (v := nI 7) hc (by decide) (by decide +kernel) ?_
  refine n_newa (Ls := L + 2) hc h2 (atype := .int) (t := 0) (N := 7) rfl ac_int (fun _ => rfl) (by decide) (Or.inl rfl) rfl rfl (by decide) (by decide +kernel) ⟨by decide, by decide⟩ (by decide +kernel) ?_
  refine n_putF hc hci (ty := .array .int) k3 (Or.inr ⟨_, rfl⟩) fl_X5_21 rfl (by decide +kernel) rfl rfl (by decide +kernel) ?_
  refine n_iconst (n := 0) (v := nI 0) hc (by decide) (by decide +kernel) ?_
  refine n_istore_n (n := 1) (i := 1) (lv' := [(1, .inl (.int (nI 0))), (0, .inr k0)]) hc rfl (by decide) (fun _ => rfl) okst (by decide +kernel) ?_
  have g0 : (stB L k0 σ).2 k0 0 = some L := by simp [stB, setR]
  have g1 : (stB L k0 σ).2 k0 1 = some (L + 1) := by simp [stB, setR]
  refine st_loop1 hc (sA := stA sh) (σA := stB L k0 σ) (L := L) (stA_len hL) k3 hk0 (at1 (at1 (new1 hL))) g0 ⟨by decide, by decide, by decide, by decide⟩ ?_ 6 0 rfl
  refine n_iconst (n := 0) (v := nI 0) hc (by decide) (by decide +kernel) ?_
  refine n_istore_n (n := 1) (i := 1) (lv' := [(1, .inl (.int (nI 0))), (0, .inr k0)]) hc rfl (by decide) (fun _ => rfl) okii (by decide +kernel) ?_
  refine st_loop2 hc (sA := stateS sh) (σA := netsH (L + 3) L (stB L k0 σ) 6) (kl := L + 1) (state_at hk) (nets_at (at1 (new1 h1)) 6) (by rw [nets_o (by omega) (by omega)]; exact g1) ?_ 7 0 rfl
  exact n_vret hc he rfl (by decide +kernel)
def statesS (sh : List Shp) : Nat → List Shp
  | 0 => sh
  | i + 1 => stateS (statesS sh i ++ [.inl 5])
def statesH (L k : Nat) (σ : Hp) : Nat → Hp
  | 0 => σ
  | i + 1 => setR (stateH (L + 22 * i + 1) (L + 22 * i) (statesH L k σ i)) k i (L + 22 * i)
theorem states_len (h : sh.length = L) : ∀ i, (statesS sh i).length = L + 22 * i := by
  intro i
  induction i with
  | zero => exact h
  | succ i ih => exact (state_len (len1 ih)).trans (by omega)
theorem states_at {k : Nat} {q : Shp} (h : sh[k]? = some q) : ∀ i, (statesS sh i)[k]? = some q := by
  intro i
  induction i with
  | zero => exact h
  | succ i ih => exact state_at (at1 ih)
theorem states_o {k a : Nat} (h1 : a < L) (h2 : a ≠ k) : ∀ i, (statesH L k σ i).2 a = σ.2 a := by
  intro i
  induction i with
  | zero => rfl
  | succ i ih => exact (setR_o h2).trans ((state_o (by omega) (by omega)).trans ih)
theorem nm_loop (hc : CN l γ 2 RX6 cX6_init) {kc ks : Nat} (hL : sA.length = L) (hk : sA[k0]? = some (.inl 6)) (hk0 : k0 < L) {kd : Nat} (hkd : k0 ≠ kd) (hdr : sA[kd]? = some (.inr (4, 10))) (hv : σA.2 k0 1 = some kd) (hR : kc + 220 ≤ R.cells ∧ ks + 3650 ≤ R.slots ∧ 3 ≤ R.frames ∧ 144 ≤ R.locals)
    (kk : WN l γ R 2 L0 ad0 51 [(1, .inl (.int (nI 10))), (0, .inr k0)] [] (statesS sA 10) (statesH L kd σA 10) (kc + 22 * 10) (ks + 365 * 10)) : ∀ j i, i + j = 10 → WN l γ R 2 L0 ad0 26 [(1, .inl (.int (nI i))), (0, .inr k0)] [] (statesS sA i) (statesH L kd σA i) (kc + 22 * i) (ks + 365 * i) := by
  intro j
  induction j with
  | zero =>
    intro i hi
    have e : i = 10 := by omega
    subst e
    refine n_iload_n (n := 1) (i := 1) hc 0 rfl rfl (by decide +kernel) ?_
    refine n_bipush (n := 10) (v := nI 10) hc (by decide) (by decide +kernel) ?_
    refine n_icmp_ge (off := 22) (tgt := 51) hc (by decide +kernel) (by decide) (fun _ => kk) (fun h => absurd (by decide) h)
  | succ j ih =>
    intro i hi
    have h1 := states_len hL i
    have h2 := len1 (z := .inl 5) h1
    have hv2 : (statesH L kd σA i).2 k0 1 = some kd := by rw [states_o hk0 hkd]; exact hv
    refine n_iload_n (n := 1) (i := 1) hc 0 rfl rfl (by decide +kernel) ?_
    refine n_bipush (n := 10) (v := nI 10) hc (by decide) (by decide +kernel) ?_
    refine n_icmp_ge (off := 22) (tgt := 51) hc (by decide +kernel) (by decide) (fun h => absurd h (by rw [nlt6 (by omega) 10 (by omega)]; omega)) (fun _ => ?_)
    refine n_aload_n (n := 0) (i := 0) hc 1 rfl rfl (by decide +kernel) ?_
    refine n_getR hc (states_at hk i) hv2 fl_X6_16 rfl (by decide +kernel) ?_
    refine n_iload_n (n := 1) (i := 1) hc 0 rfl rfl (by decide +kernel) ?_
    refine n_new (ci := 5) (Ls := L + 22 * i) hc h1 cls_5 cl_X6_7 is_X5 in_X5 tyX5_ok fs_5 ⟨by omega, by show ks + 365 * i + 3 ≤ R.slots; omega⟩ (by decide +kernel) ?_
    refine n_dup hc (fun _ => rfl) (by decide +kernel) ?_
    refine n_callI hc (c_state h2 (new1 h1)) ml_X6_9 im_X5 in_X5 cd_X5 mh_X5 rfl ⟨by omega, by decide, by omega⟩ ⟨by omega, by show ks + 365 * i + 3 + 362 ≤ R.slots; omega⟩ (by rw [state_len h2, h2]; omega) (state_cl h2 (by omega)) (fun _ => Nat.le_of_ble_eq_true rfl) (by decide +kernel) ?_
    refine n_astq (i := i) (N := 10) (t := 4) (ci := 5) hc (state_at (at1 (states_at hdr i))) tq4 (by decide) (state_at (new1 h1)) rfl rfl (by omega) (by decide) (by decide +kernel) ?_
    refine n_iinc (i := 1) (j := 0) (n := 1) (lv' := [(1, .inl (.int (nI (i + 1)))), (0, .inr k0)]) hc rfl inc_1 (by decide) (fun _ => rfl) okii (by decide +kernel) ?_
    refine n_goto (off := -22) (tgt := 26) hc (by decide +kernel) (by decide) ?_
    have key := ih (i + 1) (by omega)
    rw [show kc + 22 * (i + 1) = kc + 22 * i + 1 + 21 by omega, show ks + 365 * (i + 1) = ks + 365 * i + 3 + 362 by omega] at key
    exact key
end CTORS2
