/-! the law, from its entry -/
theorem D_of {dA : Nat → ClassId} {ad : Nat → Nat} {sh : List Shp} {σ : Hp} {A : Nat → Prop} (h1 : ∀ i j, i < sh.length → j < sh.length → ad i = ad j → i = j) (h2 : ∀ i, i < sh.length → A (ad i)) : va_D A (wsOf dA ad sh σ) := by
  refine ⟨fun i j p q hp hq e => ?_, fun k q hq => ?_⟩
  · obtain ⟨a1, a2⟩ := ws_ad hp
    obtain ⟨b1, b2⟩ := ws_ad hq
    exact h1 i j a1 b1 (by rw [← a2, ← b2]; exact e)
  · obtain ⟨a1, a2⟩ := ws_ad hq
    rw [a2]; exact h2 k a1
theorem D_to {dA : Nat → ClassId} {ad : Nat → Nat} {sh : List Shp} {σ : Hp} {A : Nat → Prop} (h : va_D A (wsOf dA ad sh σ)) : (∀ i j, i < sh.length → j < sh.length → ad i = ad j → i = j) ∧ ∀ i, i < sh.length → A (ad i) := by
  refine ⟨fun i j hi hj e => ?_, fun i hi => ?_⟩
  · exact h.1 i j _ _ (ws_get (List.getElem?_eq_getElem hi)) (ws_get (List.getElem?_eq_getElem hj)) e
  · exact h.2 i _ (ws_get (List.getElem?_eq_getElem hi))
theorem ww_nest : ∀ w ∈ nestW, w ∈ tables_1 := by decide +kernel
theorem ww_cls (s : State) {b : Nat} (htg : ∀ w ∈ tblG, w.before #[Value.ref b] s = true) : ∃ D : va_G, ∀ (k : Nat) (q : vw_C), vwCl[k]? = some q → u_Kn s q.1 q.2.1 q.2.2 (D.1 k) (D.2 k) := by
  obtain ⟨c0, i0, h0⟩ := u_known (C := clsN 0) (T := clsT 0) (N := nFld 0) htg cls_0.2.1 (htg _ is_X0)
  obtain ⟨c1, i1, h1⟩ := u_known (C := clsN 1) (T := clsT 1) (N := nFld 1) htg cls_1.2.1 (htg _ is_X1)
  obtain ⟨c2, i2, h2⟩ := u_known (C := clsN 2) (T := clsT 2) (N := nFld 2) htg cls_2.2.1 (htg _ is_X2)
  obtain ⟨c3, i3, h3⟩ := u_known (C := clsN 3) (T := clsT 3) (N := nFld 3) htg cls_3.2.1 (htg _ is_X3)
  obtain ⟨c4, i4, h4⟩ := u_known (C := clsN 4) (T := clsT 4) (N := nFld 4) htg cls_4.2.1 (htg _ is_X4)
  obtain ⟨c5, i5, h5⟩ := u_known (C := clsN 5) (T := clsT 5) (N := nFld 5) htg cls_5.2.1 (htg _ is_X5)
  obtain ⟨c6, i6, h6⟩ := u_known (C := clsN 6) (T := clsT 6) (N := nFld 6) htg cls_6.2.1 (htg _ is_X6)
  obtain ⟨c7, i7, h7⟩ := u_known (C := clsN 7) (T := clsT 7) (N := nFld 7) htg cls_7.2.1 (htg _ is_X7)
  refine ⟨(fun k => if k = 0 then c0 else if k = 1 then c1 else if k = 2 then c2 else if k = 3 then c3 else if k = 4 then c4 else if k = 5 then c5 else if k = 6 then c6 else c7, fun k => if k = 0 then i0 else if k = 1 then i1 else if k = 2 then i2 else if k = 3 then i3 else if k = 4 then i4 else if k = 5 then i5 else if k = 6 then i6 else i7), ?_⟩
  intro k q hq
  match k, hq with
  | 0, hq => cases hq; exact h0
  | 1, hq => cases hq; exact h1
  | 2, hq => cases hq; exact h2
  | 3, hq => cases hq; exact h3
  | 4, hq => cases hq; exact h4
  | 5, hq => cases hq; exact h5
  | 6, hq => cases hq; exact h6
  | 7, hq => cases hq; exact h7
  | k + 8, hq => simp [vwCl] at hq
theorem ww_arr (s : State) {b : Nat} (htg : ∀ w ∈ tblG, w.before #[Value.ref b] s = true) (hao : AO s) : ∃ dA : Nat → ClassId, ∀ (k : Nat) (q : ClassId × FieldType), (tysOf dA)[k]? = some q → ArrOfT s q.1 q.2 ∧ va_RA s q.1 q.2 := by
  obtain ⟨c0, k0, p0, f0, g0, e0⟩ := Cond.arrayClass_spec (htg _ ac_int)
  obtain ⟨c1, k1, p1, f1, g1, e1⟩ := Cond.arrayClass_spec (htg _ ac_byte)
  obtain ⟨c2, k2, p2, f2, g2, e2⟩ := Cond.arrayClass_spec (htg _ ac_boolean)
  obtain ⟨p3, c3, k3, f3, j3, g3, e3, n3⟩ := Cond.arrayOver_spec hao.1
  obtain ⟨p4, c4, k4, f4, j4, g4, e4, n4⟩ := Cond.arrayOver_spec hao.2
  refine ⟨fun k => if k = 0 then c0 else if k = 1 then c1 else if k = 2 then c2 else if k = 3 then c3 else c4, ?_⟩
  intro k q hq
  match k, hq with
  | 0, hq => cases hq; exact ⟨fun n z => ⟨fun k h => (by cases h), k0, g0, p0, e0⟩, f0⟩
  | 1, hq => cases hq; exact ⟨fun n z => ⟨fun k h => (by cases h), k1, g1, p1, e1⟩, f1⟩
  | 2, hq => cases hq; exact ⟨fun n z => ⟨fun k h => (by cases h), k2, g2, p2, e2⟩, f2⟩
  | 3, hq => cases hq; exact ⟨fun n z => ⟨fun k h => (by cases h), k3, g3, p3, e3⟩, k3, p3, g3, e3, f3, n3⟩
  | 4, hq => cases hq; exact ⟨fun n z => ⟨fun k h => (by cases h), k4, g4, p4, e4⟩, k4, p4, g4, e4, f4, n4⟩
  | k + 5, hq => simp [tysOf] at hq
theorem m_nm (l : Launch) : MtN l yX6_init cX6_init 2 3 269 10610 0 [.inl 6] σ00 shC (nmH 1 0 σ00) := by
  have h := c_nm (l := l) (sh := [.inl 6]) (σ := σ00) (k0 := 0) (L := 1) rfl rfl
  rw [nm_sh] at h
  exact h
theorem m_md (l : Launch) : MtN l yX7_init cX7_init 2 1 23 7559 270 (shC ++ [.inl 7]) (nmH 1 0 σ00) (shC ++ shM) σF := by
  have h := c_md (l := l) (sh := shC ++ [.inl 7]) (σ := nmH 1 0 σ00) (k0 := 270) (L := 271) (len1 shC_len) (new1 shC_len)
  rw [md_sh] at h
  exact h
theorem cl_nm : Cl [.inl 6] σ00 → Cl shC (nmH 1 0 σ00) := fun hc => by
  have h := nm_cl (sh := [.inl 6]) (σ := σ00) (k0 := 0) (L := 1) rfl (by omega) hc
  rw [nm_sh] at h
  exact h
theorem cl_mdg {sh sh' : List Shp} {σ : Hp} {L k0 : Nat} (e : sh.length = L) (hk : k0 < L) (e2 : mdA sh = sh') (hc : Cl sh σ) : Cl sh' (mdH L k0 σ) := by
  rw [← e2]
  exact md_cl e hk hc
theorem cl_md (hc : Cl (shC ++ [.inl 7]) (nmH 1 0 σ00)) : Cl (shC ++ shM) σF := by
  rw [σF]
  exact cl_mdg (len1 shC_len) (Nat.lt_succ_self 270) md_sh hc
theorem oks {n : Nat} {a b : List (Nat × Vn)} (h : ∀ q, q ∈ b → q ∈ a ∨ ∃ x, q.2 = Sum.inl x) (ha : ∀ q, q ∈ a → okV n q.2) : ∀ q, q ∈ b → okV n q.2 := fun q hq => by
  rcases h q hq with e | ⟨x, e⟩
  · exact ha q e
  · rw [e]; trivial
/-- THE LAW, from its entry -/
theorem whole_start {p : Program} {e : Env} {s : State} {m : MethodId} {below : List Frame} {meth : Method} {c : Code} (l : Launch) (hflags : l.flags = flags0) {b L : Nat} {xs : Nat → Int32} (hL : L ≤ 3584) (C0 : lw_At p s m meth c b L xs) : W p l e room_1 s m #[Value.ref b] below meth c s.heap [] 0 0 (lw_Z below #[Value.ref b] s) (entryFrame m ([Value.ref b] : List Value).toArray 4) := by
  obtain ⟨hx, hb, hr, hml, hown, hts, hX, hbl, hlocks, hgv⟩ := C0
  have htg : ∀ w ∈ tblG, w.before #[Value.ref b] s = true := fun w hw => hts w (List.mem_filter.mp hw).1
  have hnw : ∀ w ∈ nestW, va_Nw w s := fun w hw => va_Nw.of (nest_on w hw) (hts w (List.mem_append_right _ (ww_nest w hw)))
  have hao : AO s := ⟨va_AO.of (hts (.arrayOver (.object RX1)) (List.mem_append_right _ (List.mem_of_getElem? (i := 26) (by decide +kernel)))), va_AO.of (hts (.arrayOver (.object RX5)) (List.mem_append_right _ (List.mem_of_getElem? (i := 65) (by decide +kernel))))⟩
  obtain ⟨D, hKc⟩ := ww_cls s htg
  obtain ⟨dA, hKa⟩ := ww_arr s htg hao
  have hK : va_K D vwCl (tysOf dA) s := ⟨hKc, hKa⟩
  have hl := lv_entry ([.ref b]) (n := 4) (Nat.le_of_ble_eq_true rfl)
  rw [lg_entry_eq]
  generalize (lg_sl ([.ref b]) ++ List.replicate (4 - (lg_sl ([.ref b])).length) Slot.unset).toArray = ls at hl ⊢
  have hc : CN l (p, e, s, m, #[Value.ref b], below, meth, c, D, dA, fun q => s.heap.size ≤ q, lw_Z below #[Value.ref b] s) 4 RL code := ⟨hx, hb, hml, hown, htg, hnw, hK, fun q h => h, hlocks, hao⟩
  have key : WN l (p, e, s, m, #[Value.ref b], below, meth, c, D, dA, fun q => s.heap.size ≤ q, lw_Z below #[Value.ref b] s) room_1 4 0 (fun _ => 0) 0 [(0, .inl (.ref b))] [] [] σ00 0 0 := by
    refine n_new (ci := 6) (Ls := 0) hc rfl cls_6 cl_L_7 is_X6 in_X6 tyX6_ok fs_6 ⟨by decide, by decide⟩ dL_law_0 ?_
    refine n_dup hc (fun _ => rfl) dL_law_3 ?_
    refine n_callI hc (m_nm l) ml_L_9 im_X6 in_X6 cd_X6 mh_X6 rfl ⟨by decide, by decide, by decide⟩ ⟨by decide, by decide⟩ (by rw [shC_len]; decide) cl_nm (fun _ => Nat.le_of_ble_eq_true rfl) dL_law_4 ?_
    refine n_astore_n (n := 1) (i := 1) (lv' := [(1, .inr 0), (0, .inl (.ref b))]) hc rfl (by decide) (fun _ => rfl) (fun n hk h q hq => ?_) dL_law_7 ?_
    · rcases List.mem_cons.mp hq with e | e
      · rw [e]; exact hk
      · exact h q e
    refine n_new (ci := 7) (Ls := 270) hc shC_len cls_7 cl_L_10 is_X7 in_X7 tyX7_ok fs_7 ⟨by decide, by decide⟩ dL_law_8 ?_
    refine n_dup hc (fun _ => rfl) dL_law_11 ?_
    refine n_callI hc (m_md l) ml_L_12 im_X7 in_X7 cd_X7 mh_X7 rfl ⟨by decide, by decide, by decide⟩ ⟨by decide, by decide⟩ (by rw [len1 shC_len, List.length_append, shC_len, shM_len]; decide) cl_md (fun _ => Nat.le_of_ble_eq_true rfl) dL_law_12 ?_
    refine n_astore_n (n := 2) (i := 2) (lv' := [(2, .inr 270), (1, .inr 0), (0, .inl (.ref b))]) hc rfl (by decide) (fun _ => rfl) (fun n hk h q hq => ?_) dL_law_15 ?_
    · rcases List.mem_cons.mp hq with e | e
      · rw [e]; exact hk
      · exact h q e
    refine n_iconst (n := 0) (v := nI 0) hc (by decide) dL_law_16 ?_
    refine n_istore_n (n := 3) (i := 3) (lv' := [(3, .inl (.int (nI 0))), (2, .inr 270), (1, .inr 0), (0, .inl (.ref b))]) hc rfl (by decide) (fun _ => rfl) (fun n h q hq => ?_) dL_law_17 ?_
    · rcases List.mem_cons.mp hq with e | e
      · rw [e]; trivial
      · exact h q e
    intro ad H locs ls hcl hok had hLL hP hD hS hl
    have hD2 := D_to hD
    have hlen : (shC ++ shM).length = 294 := by rw [List.length_append, shC_len, shM_len]
    rw [hlen] at hD2
    have hLC : LC l (p, e, s, m, below, meth, c, D, dA) ad (fun k => ad (270 + k)) b L xs := by
      refine ⟨hx, hb, hr, hml, hown, htg, hnw, hK, hX, hbl, hlocks, hL, fun σ => D_of (fun i j hi hj e => ?_) (fun i hi => ?_), fun τ => D_of (fun i j hi hj e => ?_) (fun i hi => ?_), fun i j hi hj e => ?_⟩
      · rw [shC_len] at hi hj
        exact hD2.1 i j (by omega) (by omega) e
      · rw [shC_len] at hi
        exact hD2.2 i (by omega)
      · rw [shM_len] at hi hj
        have := hD2.1 (270 + i) (270 + j) (by omega) (by omega) e
        omega
      · rw [shM_len] at hi
        exact hD2.2 (270 + i) (by omega)
      · have := hD2.1 i (270 + j) (by omega) (by omega) e
        omega
    exact l_loop hLC (L + 1) 0 A0F s0F t0F 253 253 (by omega) (by omega) fresh_OK fresh_CC fresh_MM H locs ls (fresh_C hP) (fresh_M hP) hS hl
  exact key (fun _ => 0) s.heap [] ls cl_0 ⟨fun q hq => by rw [List.mem_singleton.mp hq]; trivial, fun q hq => by cases hq⟩ (fun k hk => absurd hk (Nat.not_lt_zero k)) (Nat.le_refl _) (fun k q h => by simp [wsOf] at h) ⟨fun i j p q h => by simp [wsOf] at h, fun k q h => by simp [wsOf] at h⟩ va_S.rf hl
