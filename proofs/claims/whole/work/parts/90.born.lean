/-! what is born: constructors, over a heap that grows -/
def fs0 (ci : Nat) : List Value := (List.range (nFld ci)).map (fun j => if fref ci j = true then Value.null else .int 0)
theorem in_L : Cond.initialized RL ∈ tblG := tbl_in 0 (by decide +kernel) rfl
theorem in_X6 : Cond.initialized RX6 ∈ tblG := tbl_in 1 (by decide +kernel) rfl
theorem in_X5 : Cond.initialized RX5 ∈ tblG := tbl_in 2 (by decide +kernel) rfl
theorem in_X1 : Cond.initialized RX1 ∈ tblG := tbl_in 3 (by decide +kernel) rfl
theorem in_X2 : Cond.initialized RX2 ∈ tblG := tbl_in 4 (by decide +kernel) rfl
theorem in_X4 : Cond.initialized RX4 ∈ tblG := tbl_in 5 (by decide +kernel) rfl
theorem in_X3 : Cond.initialized RX3 ∈ tblG := tbl_in 6 (by decide +kernel) rfl
theorem in_X0 : Cond.initialized RX0 ∈ tblG := tbl_in 7 (by decide +kernel) rfl
theorem in_X7 : Cond.initialized RX7 ∈ tblG := tbl_in 8 (by decide +kernel) rfl
theorem in_J6 : Cond.initialized RJ6 ∈ tblG := tbl_in 9 (by decide +kernel) rfl
theorem in_J9 : Cond.initialized RJ9 ∈ tblG := tbl_in 10 (by decide +kernel) rfl
theorem cl_L_7 : Cond.classLink RL 7 RX6 ∈ tblG := tbl_in 11 (by decide +kernel) rfl
theorem is_X6 : Cond.instantiable RX6 13 ∈ tblG := tbl_in 12 (by decide +kernel) rfl
theorem im_X6 : Cond.instanceMethod yX6_init ∈ tblG := tbl_in 14 (by decide +kernel) rfl
theorem cd_X6 : Cond.code yX6_init cX6_init 2 none ∈ tblG := tbl_in 15 (by decide +kernel) rfl
theorem oi_X6 : Cond.methodLink RX6 1 objectInit ∈ tblG := tbl_in 16 (by decide +kernel) rfl
theorem im_Obj : Cond.instanceMethod objectInit ∈ tblG := tbl_in 17 (by decide +kernel) rfl
theorem cd_Obj : Cond.code objectInit ⟨#[0xb1]⟩ 1 none ∈ tblG := tbl_in 18 (by decide +kernel) rfl
theorem cl_X6_7 : Cond.classLink RX6 7 RX5 ∈ tblG := tbl_in 19 (by decide +kernel) rfl
theorem is_X5 : Cond.instantiable RX5 3 ∈ tblG := tbl_in 20 (by decide +kernel) rfl
theorem im_X5 : Cond.instanceMethod yX5_init ∈ tblG := tbl_in 22 (by decide +kernel) rfl
theorem cd_X5 : Cond.code yX5_init cX5_init 2 none ∈ tblG := tbl_in 23 (by decide +kernel) rfl
theorem oi_X5 : Cond.methodLink RX5 3 objectInit ∈ tblG := tbl_in 24 (by decide +kernel) rfl
theorem cl_X5_9 : Cond.classLink RX5 9 RX1 ∈ tblG := tbl_in 25 (by decide +kernel) rfl
theorem is_X1 : Cond.instantiable RX1 3 ∈ tblG := tbl_in 27 (by decide +kernel) rfl
theorem im_X1 : Cond.instanceMethod yX1_init ∈ tblG := tbl_in 29 (by decide +kernel) rfl
theorem cd_X1 : Cond.code yX1_init cX1_init 1 none ∈ tblG := tbl_in 30 (by decide +kernel) rfl
theorem oi_X1 : Cond.methodLink RX1 3 objectInit ∈ tblG := tbl_in 31 (by decide +kernel) rfl
theorem ac_int : Cond.arrayClass .int ∈ tblG := tbl_in 51 (by decide +kernel) rfl
theorem cl_X6_24 : Cond.classLink RX6 24 RX2 ∈ tblG := tbl_in 66 (by decide +kernel) rfl
theorem is_X2 : Cond.instantiable RX2 4 ∈ tblG := tbl_in 67 (by decide +kernel) rfl
theorem im_X2 : Cond.instanceMethod yX2_init ∈ tblG := tbl_in 69 (by decide +kernel) rfl
theorem cd_X2 : Cond.code yX2_init cX2_init 1 none ∈ tblG := tbl_in 70 (by decide +kernel) rfl
theorem oi_X2 : Cond.methodLink RX2 3 objectInit ∈ tblG := tbl_in 71 (by decide +kernel) rfl
theorem cl_X2_9 : Cond.classLink RX2 9 RX1 ∈ tblG := tbl_in 72 (by decide +kernel) rfl
theorem cl_X6_31 : Cond.classLink RX6 31 RX1 ∈ tblG := tbl_in 88 (by decide +kernel) rfl
theorem cl_X6_38 : Cond.classLink RX6 38 RX4 ∈ tblG := tbl_in 90 (by decide +kernel) rfl
theorem is_X4 : Cond.instantiable RX4 9 ∈ tblG := tbl_in 91 (by decide +kernel) rfl
theorem im_X4 : Cond.instanceMethod yX4_init ∈ tblG := tbl_in 93 (by decide +kernel) rfl
theorem cd_X4 : Cond.code yX4_init cX4_init 1 none ∈ tblG := tbl_in 94 (by decide +kernel) rfl
theorem oi_X4 : Cond.methodLink RX4 3 objectInit ∈ tblG := tbl_in 95 (by decide +kernel) rfl
theorem cl_X4_9 : Cond.classLink RX4 9 RX1 ∈ tblG := tbl_in 96 (by decide +kernel) rfl
theorem cl_X6_45 : Cond.classLink RX6 45 RX3 ∈ tblG := tbl_in 135 (by decide +kernel) rfl
theorem is_X3 : Cond.instantiable RX3 5 ∈ tblG := tbl_in 136 (by decide +kernel) rfl
theorem im_X3 : Cond.instanceMethod yX3_init ∈ tblG := tbl_in 138 (by decide +kernel) rfl
theorem cd_X3 : Cond.code yX3_init cX3_init 1 none ∈ tblG := tbl_in 139 (by decide +kernel) rfl
theorem oi_X3 : Cond.methodLink RX3 3 objectInit ∈ tblG := tbl_in 140 (by decide +kernel) rfl
theorem cl_X6_52 : Cond.classLink RX6 52 RX0 ∈ tblG := tbl_in 160 (by decide +kernel) rfl
theorem is_X0 : Cond.instantiable RX0 7 ∈ tblG := tbl_in 161 (by decide +kernel) rfl
theorem im_X0 : Cond.instanceMethod yX0_init ∈ tblG := tbl_in 163 (by decide +kernel) rfl
theorem cd_X0 : Cond.code yX0_init cX0_init 1 none ∈ tblG := tbl_in 164 (by decide +kernel) rfl
theorem oi_X0 : Cond.methodLink RX0 3 objectInit ∈ tblG := tbl_in 165 (by decide +kernel) rfl
theorem cl_L_10 : Cond.classLink RL 10 RX7 ∈ tblG := tbl_in 804 (by decide +kernel) rfl
theorem is_X7 : Cond.instantiable RX7 40 ∈ tblG := tbl_in 805 (by decide +kernel) rfl
theorem im_X7 : Cond.instanceMethod yX7_init ∈ tblG := tbl_in 807 (by decide +kernel) rfl
theorem cd_X7 : Cond.code yX7_init cX7_init 2 none ∈ tblG := tbl_in 808 (by decide +kernel) rfl
theorem oi_X7 : Cond.methodLink RX7 1 objectInit ∈ tblG := tbl_in 809 (by decide +kernel) rfl
theorem ac_byte : Cond.arrayClass .byte ∈ tblG := tbl_in 931 (by decide +kernel) rfl
theorem ac_boolean : Cond.arrayClass .boolean ∈ tblG := tbl_in 932 (by decide +kernel) rfl
theorem fs_0 : ∀ j, j < 7 → defaultValue (tyX0 j) = vp_V (fs0 0) j := fun j hj => match j, hj with
  | 0, _ => rfl
  | 1, _ => rfl
  | 2, _ => rfl
  | 3, _ => rfl
  | 4, _ => rfl
  | 5, _ => rfl
  | 6, _ => rfl
  | j + 7, h => absurd h (by omega)
theorem fs_1 : ∀ j, j < 3 → defaultValue (tyX1 j) = vp_V (fs0 1) j := fun j hj => match j, hj with
  | 0, _ => rfl
  | 1, _ => rfl
  | 2, _ => rfl
  | j + 3, h => absurd h (by omega)
theorem fs_2 : ∀ j, j < 4 → defaultValue (tyX2 j) = vp_V (fs0 2) j := fun j hj => match j, hj with
  | 0, _ => rfl
  | 1, _ => rfl
  | 2, _ => rfl
  | 3, _ => rfl
  | j + 4, h => absurd h (by omega)
theorem fs_3 : ∀ j, j < 5 → defaultValue (tyX3 j) = vp_V (fs0 3) j := fun j hj => match j, hj with
  | 0, _ => rfl
  | 1, _ => rfl
  | 2, _ => rfl
  | 3, _ => rfl
  | 4, _ => rfl
  | j + 5, h => absurd h (by omega)
theorem fs_4 : ∀ j, j < 9 → defaultValue (tyX4 j) = vp_V (fs0 4) j := fun j hj => match j, hj with
  | 0, _ => rfl
  | 1, _ => rfl
  | 2, _ => rfl
  | 3, _ => rfl
  | 4, _ => rfl
  | 5, _ => rfl
  | 6, _ => rfl
  | 7, _ => rfl
  | 8, _ => rfl
  | j + 9, h => absurd h (by omega)
theorem fs_5 : ∀ j, j < 3 → defaultValue (tyX5 j) = vp_V (fs0 5) j := fun j hj => match j, hj with
  | 0, _ => rfl
  | 1, _ => rfl
  | 2, _ => rfl
  | j + 3, h => absurd h (by omega)
theorem fs_6 : ∀ j, j < 13 → defaultValue (tyX6 j) = vp_V (fs0 6) j := fun j hj => match j, hj with
  | 0, _ => rfl
  | 1, _ => rfl
  | 2, _ => rfl
  | 3, _ => rfl
  | 4, _ => rfl
  | 5, _ => rfl
  | 6, _ => rfl
  | 7, _ => rfl
  | 8, _ => rfl
  | 9, _ => rfl
  | 10, _ => rfl
  | 11, _ => rfl
  | 12, _ => rfl
  | j + 13, h => absurd h (by omega)
theorem fs_7 : ∀ j, j < 40 → defaultValue (tyX7 j) = vp_V (fs0 7) j := fun j hj => match j, hj with
  | 0, _ => rfl
  | 1, _ => rfl
  | 2, _ => rfl
  | 3, _ => rfl
  | 4, _ => rfl
  | 5, _ => rfl
  | 6, _ => rfl
  | 7, _ => rfl
  | 8, _ => rfl
  | 9, _ => rfl
  | 10, _ => rfl
  | 11, _ => rfl
  | 12, _ => rfl
  | 13, _ => rfl
  | 14, _ => rfl
  | 15, _ => rfl
  | 16, _ => rfl
  | 17, _ => rfl
  | 18, _ => rfl
  | 19, _ => rfl
  | 20, _ => rfl
  | 21, _ => rfl
  | 22, _ => rfl
  | 23, _ => rfl
  | 24, _ => rfl
  | 25, _ => rfl
  | 26, _ => rfl
  | 27, _ => rfl
  | 28, _ => rfl
  | 29, _ => rfl
  | 30, _ => rfl
  | 31, _ => rfl
  | 32, _ => rfl
  | 33, _ => rfl
  | 34, _ => rfl
  | 35, _ => rfl
  | 36, _ => rfl
  | 37, _ => rfl
  | 38, _ => rfl
  | 39, _ => rfl
  | j + 40, h => absurd h (by omega)

abbrev Vn : Type := Value ⊕ Nat
def mv (ad : Nat → Nat) (v : Vn) : Value := Sum.elim id (fun k => .ref (ad k)) v
def mlv (ad : Nat → Nat) (lv : List (Nat × Vn)) : List (Nat × Value) := lv.map (fun q => (q.1, mv ad q.2))
def mst (ad : Nat → Nat) (st : List Vn) : List Value := st.map (mv ad)
def okV (n : Nat) (v : Vn) : Prop := Sum.elim (fun _ => True) (fun k => k < n) v
def OkN (n : Nat) (lv : List (Nat × Vn)) (st : List Vn) : Prop := (∀ q, q ∈ lv → okV n q.2) ∧ ∀ q, q ∈ st → okV n q
def Cl (sh : List Shp) (σ : Hp) : Prop := (∀ k j x, σ.2 k j = some x → x < sh.length) ∧ ∀ k, sh.length ≤ k → σ.1 k = (fun _ => 0) ∧ σ.2 k = (fun _ => none)
def AO (U : State) : Prop := va_AO RX1 U ∧ va_AO RX5 U
def up1 (ad : Nat → Nat) (L q : Nat) : Nat → Nat := fun k => if k = L then q else ad k
theorem up1_n {ad : Nat → Nat} {L q k : Nat} (h : k ≠ L) : up1 ad L q k = ad k := if_neg h
theorem up1_s {ad : Nat → Nat} {L q : Nat} : up1 ad L q L = q := if_pos rfl
theorem mv_up {ad : Nat → Nat} {L q : Nat} {v : Vn} (h : okV L v) : mv (up1 ad L q) v = mv ad v := by
  cases v with
  | inl x => rfl
  | inr k =>
    have h : k < L := h
    show Value.ref (up1 ad L q k) = Value.ref (ad k)
    rw [up1_n (by omega)]
theorem mlv_up {ad : Nat → Nat} {L q : Nat} {lv : List (Nat × Vn)} (h : ∀ q, q ∈ lv → okV L q.2) : mlv (up1 ad L q) lv = mlv ad lv := List.map_congr_left fun x hx => by rw [mv_up (h x hx)]
theorem mst_up {ad : Nat → Nat} {L q : Nat} {st : List Vn} (h : ∀ q, q ∈ st → okV L q) : mst (up1 ad L q) st = mst ad st := List.map_congr_left fun x hx => mv_up (h x hx)
theorem okV_w {n k : Nat} {v : Vn} (h : okV n v) (hk : n ≤ k) : okV k v := by
  cases v with
  | inl x => trivial
  | inr j => exact Nat.lt_of_lt_of_le h hk
theorem cell_up {dA : Nat → ClassId} {ad : Nat → Nat} {sh : List Shp} {σ : Hp} {q k : Nat} (hcl : Cl sh σ) (z : Shp) : cellE dA (up1 ad sh.length q) σ k z = cellE dA ad σ k z := by
  have e : ∀ j, (σ.2 k j).map (up1 ad sh.length q) = (σ.2 k j).map ad := fun j => by
    cases h : σ.2 k j with
    | none => rfl
    | some x =>
      have := hcl.1 k j x h
      show some _ = some _
      rw [up1_n (by omega)]
  unfold cellE fval
  simp only [e]
theorem ws_app {dA : Nat → ClassId} {ad : Nat → Nat} {sh : List Shp} {σ : Hp} (hcl : Cl sh σ) (q : Nat) (z : Shp) : wsOf dA (up1 ad sh.length q) (sh ++ [z]) σ = wsOf dA ad sh σ ++ [(q, cellE dA ad σ sh.length z)] := by
  unfold wsOf
  rw [List.mapIdx_concat, cell_up hcl, up1_s]
  congr 1
  apply List.ext_getElem?
  intro i
  rw [List.getElem?_mapIdx, List.getElem?_mapIdx]
  cases h : sh[i]? with
  | none => rfl
  | some x =>
    have := (List.getElem?_eq_some_iff.mp h).1
    show some (up1 ad sh.length q i, cellE dA (up1 ad sh.length q) σ i x) = some (ad i, cellE dA ad σ i x)
    rw [cell_up hcl, up1_n (by omega)]
theorem Cl_app {sh : List Shp} {σ : Hp} (hcl : Cl sh σ) (z : Shp) : Cl (sh ++ [z]) σ := ⟨fun k j x h => by rw [List.length_append]; exact Nat.lt_of_lt_of_le (hcl.1 k j x h) (Nat.le_add_right _ _), fun k hk => hcl.2 k (by rw [List.length_append] at hk; exact Nat.le_trans (Nat.le_add_right _ _) hk)⟩
theorem Cl_R {sh : List Shp} {σ : Hp} {k j x : Nat} (hcl : Cl sh σ) (hk : k < sh.length) (hx : x < sh.length) : Cl sh (setR σ k j x) := by
  refine ⟨fun a b y h => ?_, fun a ha => ⟨(hcl.2 a ha).1, ?_⟩⟩
  · unfold setR at h
    dsimp only at h
    split at h
    · split at h
      · injection h with h; omega
      · exact hcl.1 _ _ _ h
    · exact hcl.1 _ _ _ h
  · funext b
    show (if a = k then _ else _) = none
    rw [if_neg (by omega), (hcl.2 a ha).2]
theorem Cl_I {sh : List Shp} {σ : Hp} {k j : Nat} {x : Int32} (hcl : Cl sh σ) (hk : k < sh.length) : Cl sh (setI σ k j x) := by
  refine ⟨fun a b y h => hcl.1 a b y h, fun a ha => ⟨?_, (hcl.2 a ha).2⟩⟩
  funext b
  show (if a = k then _ else _) = 0
  rw [if_neg (by omega), (hcl.2 a ha).1]
def CN (l : Launch) (γ : Gm) (nL : Nat) (own : String) (cc : ByteArray) : Prop := match γ with
  | (p, _, s, m, args, _, meth, c, D, dA, A, _) => p.tables.exec = Jvm.exec ∧ c.code = cc ∧ c.maxLocals = nL ∧ s.vm.findClass own = some m.cls ∧ (∀ w ∈ tblG, w.before args s = true) ∧ (∀ w ∈ nestW, va_Nw w s) ∧ va_K D vwCl (tysOf dA) s ∧ (∀ q, s.heap.size ≤ q → A q) ∧ meth.locks = false ∧ AO s
def CI (γ : Gm) : Prop := match γ with
  | (_, _, _, _, _, _, meth, _, _, _, _, _) => meth.name = "<init>"
def WN (l : Launch) (γ : Gm) (R : Room) (nL L0 : Nat) (ad0 : Nat → Nat) (pc : Nat) (lv : List (Nat × Vn)) (st : List Vn) (sh : List Shp) (σ : Hp) (kc ks : Nat) : Prop := match γ with
  | (p, e, s, m, args, below, meth, c, D, dA, A, Q) => ∀ (ad : Nat → Nat) (H : Heap) (locs : List Jvm.Loc) (ls : Array Slot), Cl sh σ → OkN sh.length lv st → (∀ k, k < L0 → ad k = ad0 k) → L0 ≤ sh.length → va_P D vwCl (wsOf dA ad sh σ) H → va_D A (wsOf dA ad sh σ) → va_S A s.heap H locs → lv_has ls nL (mlv ad lv) → W p l e R s m args below meth c H locs kc ks Q (F0 m pc ls (mst ad st))
section NROWS
variable {l : Launch} {γ : Gm} {R : Room} {nL L0 : Nat} {ad0 : Nat → Nat} {own : String} {cc : ByteArray} {pc : Nat} {lv lv' : List (Nat × Vn)} {st : List Vn} {sh : List Shp} {σ : Hp} {kc ks : Nat}
theorem ok_top {n : Nat} {v : Vn} (h : OkN n lv st) (hv : okV n v) : OkN n lv (v :: st) := ⟨h.1, fun q hq => by
  rcases List.mem_cons.mp hq with e | e
  · rw [e]; exact hv
  · exact h.2 q e⟩
theorem ok_pop {n : Nat} {v : Vn} (h : OkN n lv (v :: st)) : OkN n lv st := ⟨h.1, fun q hq => h.2 q (List.mem_cons_of_mem _ hq)⟩
theorem ok_hd {n : Nat} {v : Vn} (h : OkN n lv (v :: st)) : okV n v := h.2 v List.mem_cons_self
theorem ok_w {n k : Nat} (h : OkN n lv st) (hk : n ≤ k) : OkN k lv st := ⟨fun q hq => okV_w (h.1 q hq) hk, fun q hq => okV_w (h.2 q hq) hk⟩
theorem n_aload_n (hc : CN l γ nL own cc) {n : Fin 4} {i k : Nat} (j : Nat) (hi : (n : Nat) = i) (hj : lv[j]? = some (i, .inr k)) (hd : decode cc pc = .ok (.aload_n n, 1)) (kk : WN l γ R nL L0 ad0 (pc + 1) lv (.inr k :: st) sh σ kc ks) : WN l γ R nL L0 ad0 pc lv st sh σ kc ks := by
  obtain ⟨p, e, s, m, args, below, meth, c, D, dA, A, Q⟩ := γ
  obtain ⟨hx, hb, hml, hown, hts, hnw, hK, hA, hlk, hao⟩ := hc
  intro ad H locs ls hcl hok had hL hP hD hS hl
  refine lv_aload_n hx hb hd hi (lv_at hl j ?_) (kk ad H locs ls hcl (ok_top hok (hok.1 _ (List.mem_of_getElem? hj))) had hL hP hD hS hl)
  unfold mlv
  rw [List.getElem?_map, hj]; rfl
theorem n_iload_n (hc : CN l γ nL own cc) {n : Fin 4} {i : Nat} {x : Int32} (j : Nat) (hi : (n : Nat) = i) (hj : lv[j]? = some (i, .inl (.int x))) (hd : decode cc pc = .ok (.iload_n n, 1)) (kk : WN l γ R nL L0 ad0 (pc + 1) lv (.inl (.int x) :: st) sh σ kc ks) : WN l γ R nL L0 ad0 pc lv st sh σ kc ks := by
  obtain ⟨p, e, s, m, args, below, meth, c, D, dA, A, Q⟩ := γ
  obtain ⟨hx, hb, hml, hown, hts, hnw, hK, hA, hlk, hao⟩ := hc
  intro ad H locs ls hcl hok had hL hP hD hS hl
  refine lv_iload_n hx hb hd hi (lv_at hl j ?_) (kk ad H locs ls hcl (ok_top hok trivial) had hL hP hD hS hl)
  unfold mlv
  rw [List.getElem?_map, hj]; rfl
theorem n_bipush (hc : CN l γ nL own cc) {n : Int} {v : Int32} (hv : (Int8.ofInt n).toInt32 = v) (hd : decode cc pc = .ok (.bipush n, 2)) (kk : WN l γ R nL L0 ad0 (pc + 2) lv (.inl (.int v) :: st) sh σ kc ks) : WN l γ R nL L0 ad0 pc lv st sh σ kc ks := by
  obtain ⟨p, e, s, m, args, below, meth, c, D, dA, A, Q⟩ := γ
  obtain ⟨hx, hb, hml, hown, hts, hnw, hK, hA, hlk, hao⟩ := hc
  intro ad H locs ls hcl hok had hL hP hD hS hl
  exact lv_bipush hx hb hd hv (kk ad H locs ls hcl (ok_top hok trivial) had hL hP hD hS hl)
theorem n_sipush (hc : CN l γ nL own cc) {n : Int} {v : Int32} (hv : (Int16.ofInt n).toInt32 = v) (hd : decode cc pc = .ok (.sipush n, 3)) (kk : WN l γ R nL L0 ad0 (pc + 3) lv (.inl (.int v) :: st) sh σ kc ks) : WN l γ R nL L0 ad0 pc lv st sh σ kc ks := by
  obtain ⟨p, e, s, m, args, below, meth, c, D, dA, A, Q⟩ := γ
  obtain ⟨hx, hb, hml, hown, hts, hnw, hK, hA, hlk, hao⟩ := hc
  intro ad H locs ls hcl hok had hL hP hD hS hl
  exact lv_sipush hx hb hd hv (kk ad H locs ls hcl (ok_top hok trivial) had hL hP hD hS hl)
theorem n_iconst (hc : CN l γ nL own cc) {n : Int} {v : Int32} (hv : Int32.ofInt n = v) (hd : decode cc pc = .ok (.iconst n, 1)) (kk : WN l γ R nL L0 ad0 (pc + 1) lv (.inl (.int v) :: st) sh σ kc ks) : WN l γ R nL L0 ad0 pc lv st sh σ kc ks := by
  obtain ⟨p, e, s, m, args, below, meth, c, D, dA, A, Q⟩ := γ
  obtain ⟨hx, hb, hml, hown, hts, hnw, hK, hA, hlk, hao⟩ := hc
  intro ad H locs ls hcl hok had hL hP hD hS hl
  exact lv_iconst hx hb hd hv (kk ad H locs ls hcl (ok_top hok trivial) had hL hP hD hS hl)
theorem n_dup (hc : CN l γ nL own cc) {v : Vn} (h1 : ∀ ad, (mv ad v).category = 1) (hd : decode cc pc = .ok (.dup, 1)) (kk : WN l γ R nL L0 ad0 (pc + 1) lv (v :: v :: st) sh σ kc ks) : WN l γ R nL L0 ad0 pc lv (v :: st) sh σ kc ks := by
  obtain ⟨p, e, s, m, args, below, meth, c, D, dA, A, Q⟩ := γ
  obtain ⟨hx, hb, hml, hown, hts, hnw, hK, hA, hlk, hao⟩ := hc
  intro ad H locs ls hcl hok had hL hP hD hS hl
  exact lv_dup hx hb hd (h1 ad) (kk ad H locs ls hcl (ok_top hok (ok_hd hok)) had hL hP hD hS hl)
theorem n_istore_n (hc : CN l γ nL own cc) {n : Fin 4} {i : Nat} {x : Int32} (hi : (n : Nat) = i) (hn : i < nL) (hv : ∀ ad, (i, Value.int x) :: (mlv ad lv).filter (fun q => !(q.1 == i) && !(q.1 + 1 == i && q.2.category == 2)) = mlv ad lv') (ho : ∀ n, (∀ q, q ∈ lv → okV n q.2) → ∀ q, q ∈ lv' → okV n q.2) (hd : decode cc pc = .ok (.istore_n n, 1)) (kk : WN l γ R nL L0 ad0 (pc + 1) lv' st sh σ kc ks) : WN l γ R nL L0 ad0 pc lv (.inl (.int x) :: st) sh σ kc ks := by
  obtain ⟨p, e, s, m, args, below, meth, c, D, dA, A, Q⟩ := γ
  obtain ⟨hx, hb, hml, hown, hts, hnw, hK, hA, hlk, hao⟩ := hc
  intro ad H locs ls hcl hok had hL hP hD hS hl
  exact lv_istore_n hx hb hd hi hl hn (hv ad) (fun ls hl => kk ad H locs ls hcl ⟨ho _ hok.1, (ok_pop hok).2⟩ had hL hP hD hS hl)
theorem n_astore_n (hc : CN l γ nL own cc) {n : Fin 4} {i k : Nat} (hi : (n : Nat) = i) (hn : i < nL) (hv : ∀ ad, (i, Value.ref (ad k)) :: (mlv ad lv).filter (fun q => !(q.1 == i) && !(q.1 + 1 == i && q.2.category == 2)) = mlv ad lv') (ho : ∀ n, k < n → (∀ q, q ∈ lv → okV n q.2) → ∀ q, q ∈ lv' → okV n q.2) (hd : decode cc pc = .ok (.astore_n n, 1)) (kk : WN l γ R nL L0 ad0 (pc + 1) lv' st sh σ kc ks) : WN l γ R nL L0 ad0 pc lv (.inr k :: st) sh σ kc ks := by
  obtain ⟨p, e, s, m, args, below, meth, c, D, dA, A, Q⟩ := γ
  obtain ⟨hx, hb, hml, hown, hts, hnw, hK, hA, hlk, hao⟩ := hc
  intro ad H locs ls hcl hok had hL hP hD hS hl
  exact lv_astore_n hx hb hd hi hl hn (hv ad) (fun ls hl => kk ad H locs ls hcl ⟨ho _ (ok_hd hok) hok.1, (ok_pop hok).2⟩ had hL hP hD hS hl)
theorem n_iinc (hc : CN l γ nL own cc) {i j : Nat} {n : Int} {x v : Int32} (hj : lv[j]? = some (i, .inl (.int x))) (hx2 : x + Int32.ofInt n = v) (hn : i < nL) (hv : ∀ ad, (i, Value.int v) :: (mlv ad lv).filter (fun q => !(q.1 == i) && !(q.1 + 1 == i && q.2.category == 2)) = mlv ad lv') (ho : ∀ n, (∀ q, q ∈ lv → okV n q.2) → ∀ q, q ∈ lv' → okV n q.2) (hd : decode cc pc = .ok (.iinc i n, 3)) (kk : WN l γ R nL L0 ad0 (pc + 3) lv' st sh σ kc ks) : WN l γ R nL L0 ad0 pc lv st sh σ kc ks := by
  obtain ⟨p, e, s, m, args, below, meth, c, D, dA, A, Q⟩ := γ
  obtain ⟨hx, hb, hml, hown, hts, hnw, hK, hA, hlk, hao⟩ := hc
  intro ad H locs ls hcl hok had hL hP hD hS hl
  refine lv_iinc (k := j) hx hb hd hl ?_ hx2 hn (hv ad) (fun ls hl => kk ad H locs ls hcl ⟨ho _ hok.1, hok.2⟩ had hL hP hD hS hl)
  unfold mlv
  rw [List.getElem?_map, hj]; rfl
theorem n_goto (hc : CN l γ nL own cc) {off : Int} {tgt : Nat} (hd : decode cc pc = .ok (.goto off, 3)) (ht : (pc : Int) + off = (tgt : Int)) (kk : WN l γ R nL L0 ad0 tgt lv st sh σ kc ks) : WN l γ R nL L0 ad0 pc lv st sh σ kc ks := by
  obtain ⟨p, e, s, m, args, below, meth, c, D, dA, A, Q⟩ := γ
  obtain ⟨hx, hb, hml, hown, hts, hnw, hK, hA, hlk, hao⟩ := hc
  intro ad H locs ls hcl hok had hL hP hD hS hl
  exact lv_goto hx hb hd ht (kk ad H locs ls hcl hok had hL hP hD hS hl)
theorem n_icmp_ge (hc : CN l γ nL own cc) {x y : Int32} {off : Int} {tgt : Nat} (hd : decode cc pc = .ok (.if_icmp .ge off, 3)) (ht : (pc : Int) + off = (tgt : Int)) (kt : (y ≤ x) → WN l γ R nL L0 ad0 tgt lv st sh σ kc ks) (kf : ¬ (y ≤ x) → WN l γ R nL L0 ad0 (pc + 3) lv st sh σ kc ks) : WN l γ R nL L0 ad0 pc lv (.inl (.int y) :: .inl (.int x) :: st) sh σ kc ks := by
  obtain ⟨p, e, s, m, args, below, meth, c, D, dA, A, Q⟩ := γ
  obtain ⟨hx, hb, hml, hown, hts, hnw, hK, hA, hlk, hao⟩ := hc
  intro ad H locs ls hcl hok had hL hP hD hS hl
  exact lv_icmp_ge hx hb hd ht (fun h => kt h ad H locs ls hcl (ok_pop (ok_pop hok)) had hL hP hD hS hl) (fun h => kf h ad H locs ls hcl (ok_pop (ok_pop hok)) had hL hP hD hS hl)
theorem n_objInit (hc : CN l γ nL own cc) {idx k : Nat} (hlink : Cond.methodLink own idx objectInit ∈ tblG) (hR : 1 ≤ R.frames ∧ 28 ≤ R.locals) (hst : st = []) (hd : decode cc pc = .ok (.invokespecial idx, 3)) (kk : WN l γ R nL L0 ad0 (pc + 3) lv st sh σ kc ks) : WN l γ R nL L0 ad0 pc lv (.inr k :: st) sh σ kc ks := by
  obtain ⟨p, e, s, m, args, below, meth, c, D, dA, A, Q⟩ := γ
  obtain ⟨hx, hb, hml, hown, hts, hnw, hK, hA, hlk, hao⟩ := hc
  intro ad H locs ls hcl hok had hL hP hD hS hl
  subst hst
  refine W.objInit hx hb hown (hts _ hlink) (hts _ im_Obj) (hts _ cd_Obj) rfl (hl.1.trans hml.symm) rfl hd hR.1 ?_ (kk ad H locs ls hcl (ok_pop hok) had hL hP hD hS hl)
  show 2 * (F0 m pc ls [Value.ref (ad k)]).monitorRoom + 0 + 12 ≤ R.locals
  have : (F0 m pc ls [Value.ref (ad k)]).monitorRoom = 0 := rfl
  omega
theorem n_new (hc : CN l γ nL own cc) {Ls : Nat} (hls : sh.length = Ls) {idx ci : Nat} (F : ClsOk ci) (hcl0 : Cond.classLink own idx (clsN ci) ∈ tblG) (hinst : Cond.instantiable (clsN ci) (nFld ci) ∈ tblG) (hini : Cond.initialized (clsN ci) ∈ tblG) {ty : Nat → FieldType} (hty : ∀ k, k < nFld ci → parseFieldDescriptor (clsT ci k).2.2.1 = some (ty k)) (hfs : ∀ j, j < nFld ci → defaultValue (ty j) = vp_V (fs0 ci) j) (hR : kc + 1 ≤ R.cells ∧ ks + nFld ci ≤ R.slots) (hd : decode cc pc = .ok (.new idx, 3)) (kk : WN l γ R nL L0 ad0 (pc + 3) lv (.inr Ls :: st) (sh ++ [.inl ci]) σ (kc + 1) (ks + nFld ci)) : WN l γ R nL L0 ad0 pc lv st sh σ kc ks := by
  subst hls
  obtain ⟨p, e, s, m, args, below, meth, c, D, dA, A, Q⟩ := γ
  obtain ⟨hx, hb, hml, hown, hts, hnw, hK, hA, hlk, hao⟩ := hc
  intro ad H locs ls hcl hok had hL hP hD hS hl
  obtain ⟨h1, h2, h3, h4⟩ := F
  refine va_new hx hb hts h2 ty hty hown (hts _ hcl0) (hts _ hinst) (hts _ hini) hK hP hD hS hA h1 hfs hR.1 hR.2 hd (fun q H1 hP1 hD1 hS1 => ?_)
  have e : wsOf dA ad sh σ ++ [(q, (Sum.inr (ci, fs0 ci) : va_E))] = wsOf dA (up1 ad sh.length q) (sh ++ [.inl ci]) σ := by
    have ef : fs0 ci = (List.range (nFld ci)).map (fval ad σ ci sh.length) := by
      unfold fs0
      apply List.map_congr_left
      intro j _
      unfold fval
      rw [(hcl.2 _ (Nat.le_refl _)).1, (hcl.2 _ (Nat.le_refl _)).2]
      rfl
    rw [ws_app hcl, ef]
    rfl
  rw [e] at hP1 hD1
  have hlen : (sh ++ [Sum.inl ci]).length = sh.length + 1 := by rw [List.length_append]; rfl
  have key := kk (up1 ad sh.length q) H1 locs ls (Cl_app hcl _) (by rw [hlen]; exact ok_top (ok_w hok (Nat.le_succ _)) (Nat.lt_succ_self _)) (fun k hk => (up1_n (by omega)).trans (had k hk)) (by rw [hlen]; omega) hP1 hD1 hS1 (by rw [mlv_up hok.1]; exact hl)
  have e2 : mst (up1 ad sh.length q) (.inr sh.length :: st) = .ref q :: mst ad st := by
    show Value.ref (up1 ad sh.length q sh.length) :: mst (up1 ad sh.length q) st = _
    rw [up1_s, mst_up hok.2]
  rw [e2] at key
  exact key
theorem dA_of {s : State} {dA : Nat → ClassId} {D : va_G} {cA : ClassId} {ty : FieldType} {t : Nat} (hK : va_K D vwCl (tysOf dA) s) (hK1 : va_K D vwCl (tysOf dA ++ [(cA, ty)]) s) (ht : (tysOf dA)[t]? = some (dA t, ty)) (hty : (∃ n, ty = .object n) ∨ ty = .int ∨ ty = .byte ∨ ty = .boolean) : cA = dA t := by
  have h1 := (hK.2 t _ ht).2
  have h2 := (hK1.2 (tysOf dA).length (cA, ty) (by rw [List.getElem?_append_right (Nat.le_refl _), Nat.sub_self]; rfl)).2
  rcases hty with ⟨n, rfl⟩ | rfl | rfl | rfl
  · obtain ⟨_, _, _, _, _, h1⟩ := h1
    obtain ⟨_, _, _, _, _, h2⟩ := h2
    exact Option.some.inj (h2.symm.trans h1)
  · exact Option.some.inj ((show _ = some cA from h2).symm.trans h1)
  · exact Option.some.inj ((show _ = some cA from h2).symm.trans h1)
  · exact Option.some.inj ((show _ = some cA from h2).symm.trans h1)
theorem n_newa (hc : CN l γ nL own cc) {Ls : Nat} (hls : sh.length = Ls) {atype : ArrayType} {ty : FieldType} {t N : Nat} {n : Int32} (hty : newarray.typeOf atype = ty) (hac : Cond.arrayClass ty ∈ tblG) (ht : ∀ dA : Nat → ClassId, (tysOf dA)[t]? = some (dA t, ty)) (ht3 : t < 3) (hty2 : ty = .int ∨ ty = .byte ∨ ty = .boolean) (hdef : defaultValue ty = .int 0) (hn : n = nI N) (hN : N < 100000) (hby : N * componentBytes ty ≤ 536870912) (hR : kc + 1 ≤ R.cells ∧ ks + N ≤ R.slots) (hd : decode cc pc = .ok (.newarray atype, 2)) (kk : WN l γ R nL L0 ad0 (pc + 2) lv (.inr Ls :: st) (sh ++ [.inr (t, N)]) σ (kc + 1) (ks + N)) : WN l γ R nL L0 ad0 pc lv (.inl (.int n) :: st) sh σ kc ks := by
  subst hls
  obtain ⟨p, e, s, m, args, below, meth, c, D, dA, A, Q⟩ := γ
  obtain ⟨hx, hb, hml, hown, hts, hnw, hK, hA, hlk, hao⟩ := hc
  intro ad H locs ls hcl hok had hL hP hD hS hl
  subst hn
  refine va_newa (atype := atype) (ty := ty) (a0 := (N, Sum.inl (fun _ => 0))) hx hb (by rw [hty]; exact hts _ hac) hty hK hP hD hS hA (fun cA => by rw [hdef]; rfl) (nI_pos (by omega)) (nI_clamp (by omega)) hby hR.1 hR.2 hd (fun q cA H1 hK1 hP1 hD1 hS1 => ?_)
  have ecA := dA_of hK hK1 (ht dA) (Or.inr hty2)
  subst ecA
  have e : wsOf dA ad sh σ ++ [(q, (Sum.inl (dA t, N, Sum.inl (fun _ => 0)) : va_E))] = wsOf dA (up1 ad sh.length q) (sh ++ [.inr (t, N)]) σ := by
    rw [ws_app hcl]
    congr 3
    unfold cellE
    dsimp only
    rw [if_pos ht3, (hcl.2 _ (Nat.le_refl _)).1]
  rw [e] at hP1 hD1
  have hlen : (sh ++ [Sum.inr (t, N)]).length = sh.length + 1 := by rw [List.length_append]; rfl
  have hok := ok_pop hok
  have key := kk (up1 ad sh.length q) H1 locs ls (Cl_app hcl _) (by rw [hlen]; exact ok_top (ok_w hok (Nat.le_succ _)) (Nat.lt_succ_self _)) (fun k hk => (up1_n (by omega)).trans (had k hk)) (by rw [hlen]; omega) hP1 hD1 hS1 (by rw [mlv_up hok.1]; exact hl)
  have e2 : mst (up1 ad sh.length q) (.inr sh.length :: st) = .ref q :: mst ad st := by
    show Value.ref (up1 ad sh.length q sh.length) :: mst (up1 ad sh.length q) st = _
    rw [up1_s, mst_up hok.2]
  rw [e2] at key
  exact key
theorem n_newq (hc : CN l γ nL own cc) {Ls : Nat} (hls : sh.length = Ls) {idx t N ci : Nat} {n : Int32} (hcl0 : Cond.classLink own idx (clsN ci) ∈ tblG) (hao1 : ∀ s, AO s → va_AO (clsN ci) s) (ht : ∀ dA : Nat → ClassId, (tysOf dA)[t]? = some (dA t, .object (clsN ci))) (ht3 : ¬ t < 3) (hn : n = nI N) (hN : N < 100000) (hby : N * 4 ≤ 536870912) (hR : kc + 1 ≤ R.cells ∧ ks + N ≤ R.slots) (hd : decode cc pc = .ok (.anewarray idx, 3)) (kk : WN l γ R nL L0 ad0 (pc + 3) lv (.inr Ls :: st) (sh ++ [.inr (t, N)]) σ (kc + 1) (ks + N)) : WN l γ R nL L0 ad0 pc lv (.inl (.int n) :: st) sh σ kc ks := by
  subst hls
  obtain ⟨p, e, s, m, args, below, meth, c, D, dA, A, Q⟩ := γ
  obtain ⟨hx, hb, hml, hown, hts, hnw, hK, hA, hlk, hao⟩ := hc
  intro ad H locs ls hcl hok had hL hP hD hS hl
  subst hn
  refine va_newq (C := clsN ci) hx hb hown (hts _ hcl0) (hao1 _ hao) hK hP hD hS hA (nI_pos (by omega)) (nI_clamp (by omega)) hby hR.1 hR.2 hd (fun q cA H1 hK1 hP1 hD1 hS1 => ?_)
  have ecA := dA_of hK hK1 (ht dA) (Or.inl ⟨_, rfl⟩)
  subst ecA
  have e : wsOf dA ad sh σ ++ [(q, (Sum.inl (dA t, N, Sum.inr (Sum.inr (Sum.inr (Sum.inr (fun _ => none))))) : va_E))] = wsOf dA (up1 ad sh.length q) (sh ++ [.inr (t, N)]) σ := by
    rw [ws_app hcl]
    congr 3
    unfold cellE
    dsimp only
    rw [if_neg ht3, (hcl.2 _ (Nat.le_refl _)).2]
    rfl
  rw [e] at hP1 hD1
  have hlen : (sh ++ [Sum.inr (t, N)]).length = sh.length + 1 := by rw [List.length_append]; rfl
  have hok := ok_pop hok
  have key := kk (up1 ad sh.length q) H1 locs ls (Cl_app hcl _) (by rw [hlen]; exact ok_top (ok_w hok (Nat.le_succ _)) (Nat.lt_succ_self _)) (fun k hk => (up1_n (by omega)).trans (had k hk)) (by rw [hlen]; omega) hP1 hD1 hS1 (by rw [mlv_up hok.1]; exact hl)
  have e2 : mst (up1 ad sh.length q) (.inr sh.length :: st) = .ref q :: mst ad st := by
    show Value.ref (up1 ad sh.length q sh.length) :: mst (up1 ad sh.length q) st = _
    rw [up1_s, mst_up hok.2]
  rw [e2] at key
  exact key
theorem n_getR (hc : CN l γ nL own cc) {idx ci k0 j x : Nat} (hs : sh[k0]? = some (.inl ci)) (hv : σ.2 k0 j = some x) (F : Fld own idx ci j) (hf : fref ci j = true) (hd : decode cc pc = .ok (.getfield idx, 3)) (kk : WN l γ R nL L0 ad0 (pc + 3) lv (.inr x :: st) sh σ kc ks) : WN l γ R nL L0 ad0 pc lv (.inr k0 :: st) sh σ kc ks := by
  obtain ⟨p, e, s, m, args, below, meth, c, D, dA, A, Q⟩ := γ
  obtain ⟨hx, hb, hml, hown, hts, hnw, hK, hA, hlk, hao⟩ := hc
  intro ad H locs ls hcl hok had hL hP hD hS hl
  obtain ⟨⟨h1, h2, -, -⟩, hj, hC, hw⟩ := F
  exact va_get hx hb hts h2 hown hK hP k0 (ws_get hs) h1 j hj (hts _ hw) (fun x h => by rw [← hC]; exact h) (by rw [fs_at hj]; unfold fval; rw [hf]; rw [if_pos rfl, hv]; rfl) hd (kk ad H locs ls hcl (ok_top (ok_pop hok) (hcl.1 _ _ _ hv)) had hL hP hD hS hl)
theorem n_putF (hc : CN l γ nL own cc) (hci : CI γ) {idx ci k0 j x : Nat} {ty : FieldType} (hs : sh[k0]? = some (.inl ci)) (hty2 : (∃ n, ty = .object n) ∨ ∃ t, ty = .array t) (F : Fld own idx ci j) (hfin : (clsT ci j).2.2.2 = true) (hty : parseFieldDescriptor (clsT ci j).2.2.1 = some ty) (ho : clsN ci = own) (hf : fref ci j = true) (hd : decode cc pc = .ok (.putfield idx, 3)) (kk : WN l γ R nL L0 ad0 (pc + 3) lv st sh (setR σ k0 j x) kc ks) : WN l γ R nL L0 ad0 pc lv (.inr x :: .inr k0 :: st) sh σ kc ks := by
  obtain ⟨p, e, s, m, args, below, meth, c, D, dA, A, Q⟩ := γ
  obtain ⟨hx, hb, hml, hown, hts, hnw, hK, hA, hlk, hao⟩ := hc
  intro ad H locs ls hcl hok had hL hP hD hS hl
  obtain ⟨⟨h1, h2, ⟨ty0, h3⟩, h4⟩, hj, hC, hw⟩ := F
  have hk0 := (List.getElem?_eq_some_iff.mp hs).1
  have hx0 : x < sh.length := ok_hd hok
  refine va_putF hx hb hts h2 ty0 h3 h4 hown hK hP hD hS k0 (ws_get hs) h1 j hj (hts _ hw) (fun x h => by rw [← hC]; exact h) hfin hci (hC.trans ho) hty (by rcases hty2 with ⟨n, rfl⟩ | ⟨t, rfl⟩ <;> rfl) (by rcases hty2 with ⟨n, rfl⟩ | ⟨t, rfl⟩ <;> rfl) (by simpa using hj) hd (fun H1 locs1 hP1 hD1 hS1 => ?_)
  rw [fs_set (τ := setR σ k0 j x) (by unfold fval; rw [hf]; simp [setR, va_rf, mv]) (fun i hi => by unfold fval; simp [setR, hi])] at hP1 hD1
  have e : (ad k0, (Sum.inr (ci, (List.range (nFld ci)).map (fval ad (setR σ k0 j x) ci k0)) : va_E)) = (ad k0, cellE dA ad (setR σ k0 j x) k0 (.inl ci)) := rfl
  rw [e, ws_set hs (fun i hi => by funext b; simp [setR, hi]) (fun i hi => by funext b; simp [setR, hi])] at hP1 hD1
  exact kk ad H1 locs1 ls (Cl_R hcl hk0 hx0) (ok_pop (ok_pop hok)) had hL hP1 hD1 hS1 hl
theorem n_putR (hc : CN l γ nL own cc) {idx ci k0 j x : Nat} {ty : FieldType} (hs : sh[k0]? = some (.inl ci)) (hty2 : (∃ n, ty = .object n) ∨ ∃ t, ty = .array t) (F : FldP own idx ci j ty) (hf : fref ci j = true) (hd : decode cc pc = .ok (.putfield idx, 3)) (kk : WN l γ R nL L0 ad0 (pc + 3) lv st sh (setR σ k0 j x) kc ks) : WN l γ R nL L0 ad0 pc lv (.inr x :: .inr k0 :: st) sh σ kc ks := by
  obtain ⟨p, e, s, m, args, below, meth, c, D, dA, A, Q⟩ := γ
  obtain ⟨hx, hb, hml, hown, hts, hnw, hK, hA, hlk, hao⟩ := hc
  intro ad H locs ls hcl hok had hL hP hD hS hl
  obtain ⟨⟨⟨h1, h2, ⟨ty0, h3⟩, h4⟩, hj, hC, hw⟩, hfin, hty⟩ := F
  have hk0 := (List.getElem?_eq_some_iff.mp hs).1
  have hx0 : x < sh.length := ok_hd hok
  refine va_put hx hb hts h2 ty0 h3 h4 hown hK hP hD hS k0 (ws_get hs) h1 j hj (hts _ hw) (fun x h => by rw [← hC]; exact h) hfin hty (by rcases hty2 with ⟨n, rfl⟩ | ⟨t, rfl⟩ <;> rfl) (by rcases hty2 with ⟨n, rfl⟩ | ⟨t, rfl⟩ <;> rfl) (by simpa using hj) hd (fun H1 locs1 hP1 hD1 hS1 => ?_)
  rw [fs_set (τ := setR σ k0 j x) (by unfold fval; rw [hf]; simp [setR, va_rf, mv]) (fun i hi => by unfold fval; simp [setR, hi])] at hP1 hD1
  have e : (ad k0, (Sum.inr (ci, (List.range (nFld ci)).map (fval ad (setR σ k0 j x) ci k0)) : va_E)) = (ad k0, cellE dA ad (setR σ k0 j x) k0 (.inl ci)) := rfl
  rw [e, ws_set hs (fun i hi => by funext b; simp [setR, hi]) (fun i hi => by funext b; simp [setR, hi])] at hP1 hD1
  exact kk ad H1 locs1 ls (Cl_R hcl hk0 hx0) (ok_pop (ok_pop hok)) had hL hP1 hD1 hS1 hl
theorem n_iast (hc : CN l γ nL own cc) {k0 N i : Nat} {n x : Int32} (hs : sh[k0]? = some (.inr (0, N))) (hn : n = nI i) (hi : i < N) (hN : N < 100000) (hd : decode cc pc = .ok (.iastore, 1)) (kk : WN l γ R nL L0 ad0 (pc + 1) lv st sh (setI σ k0 i x) kc ks) : WN l γ R nL L0 ad0 pc lv (.inl (.int x) :: .inl (.int n) :: .inr k0 :: st) sh σ kc ks := by
  obtain ⟨p, e, s, m, args, below, meth, c, D, dA, A, Q⟩ := γ
  obtain ⟨hx, hb, hml, hown, hts, hnw, hK, hA, hlk, hao⟩ := hc
  intro ad H locs ls hcl hok had hL hP hD hS hl
  subst hn
  have hk0 := (List.getElem?_eq_some_iff.mp hs).1
  refine va_iast hx hb hK hP hD hS k0 0 (ws_get hs) rfl (vp_in_nI hi (by omega)) hd (fun H1 locs1 hP1 hD1 hS1 => ?_)
  rw [nI_clamp (by omega)] at hP1 hD1
  have e : (ad k0, (Sum.inl (dA 0, N, Sum.inl (upd (σ.1 k0) i x)) : va_E)) = (ad k0, cellE dA ad (setI σ k0 i x) k0 (.inr (0, N))) := by
    show _ = (ad k0, (Sum.inl (dA 0, N, if 0 < 3 then Sum.inl ((setI σ k0 i x).1 k0) else _) : va_E))
    rw [if_pos (by decide)]
    have e2 : (setI σ k0 i x).1 k0 = upd (σ.1 k0) i x := by
      funext b
      simp [setI, upd]
    rw [e2]
  rw [e, ws_set hs (fun i hi => by funext b; simp [setI, hi]) (fun i hi => by funext b; simp [setI])] at hP1 hD1
  exact kk ad H1 locs1 ls (Cl_I hcl hk0) (ok_pop (ok_pop (ok_pop hok))) had hL hP1 hD1 hS1 hl
theorem n_astq (hc : CN l γ nL own cc) {k0 N i v t ci : Nat} {n : Int32} (hs : sh[k0]? = some (.inr (t, N))) (ht : ∀ dA : Nat → ClassId, (tysOf dA)[t]? = some (dA t, .object (clsN ci))) (ht3 : ¬ t < 3) (hv : sh[v]? = some (.inl ci)) (hcl0 : vwCl[ci]? = some (clsN ci, clsT ci, nFld ci)) (hn : n = nI i) (hi : i < N) (hN : N < 100000) (hd : decode cc pc = .ok (.aastore, 1)) (kk : WN l γ R nL L0 ad0 (pc + 1) lv st sh (setR σ k0 i v) kc ks) : WN l γ R nL L0 ad0 pc lv (.inr v :: .inl (.int n) :: .inr k0 :: st) sh σ kc ks := by
  obtain ⟨p, e, s, m, args, below, meth, c, D, dA, A, Q⟩ := γ
  obtain ⟨hx, hb, hml, hown, hts, hnw, hK, hA, hlk, hao⟩ := hc
  intro ad H locs ls hcl hok had hL hP hD hS hl
  subst hn
  have hk0 := (List.getElem?_eq_some_iff.mp hs).1
  have hv0 := (List.getElem?_eq_some_iff.mp hv).1
  have ea : cellE dA ad σ k0 (.inr (t, N)) = Sum.inl (dA t, N, Sum.inr (Sum.inr (Sum.inr (Sum.inr (fun j => (σ.2 k0 j).map ad))))) := by
    unfold cellE
    dsimp only
    rw [if_neg ht3]
  have hg := ws_get (dA := dA) (ad := ad) (σ := σ) hs
  rw [ea] at hg
  refine va_astq (ci := ci) hx hb hK hP hD hS k0 t v hg (ht dA) (ws_get hv) hcl0 (vp_in_nI hi (by omega)) hd (fun H1 locs1 hP1 hD1 hS1 => ?_)
  rw [nI_clamp (by omega)] at hP1 hD1
  have e : (ad k0, (Sum.inl (dA t, N, Sum.inr (Sum.inr (Sum.inr (Sum.inr (va_up (fun j => (σ.2 k0 j).map ad) i (some (ad v))))))) : va_E)) = (ad k0, cellE dA ad (setR σ k0 i v) k0 (.inr (t, N))) := by
    unfold cellE
    dsimp only
    rw [if_neg ht3]
    congr 8
    funext j
    unfold va_up setR
    dsimp only
    rw [if_pos rfl]
    by_cases c : j = i
    · rw [if_pos c, if_pos c]; rfl
    · rw [if_neg c, if_neg c]
  rw [e, ws_set hs (fun i hi => by funext b; simp [setR]) (fun i hi => by funext b; simp [setR, hi])] at hP1 hD1
  exact kk ad H1 locs1 ls (Cl_R hcl hk0 hv0) (ok_pop (ok_pop (ok_pop hok))) had hL hP1 hD1 hS1 hl
end NROWS
