/-! THE CLAIM OUT OF ONE WALK OF THE LAW'S BODY. Your part is whole_start (and what it stands on); all else here is the same for every law, but numbers. -/
def R_law : String := "NetMapsLaw"
def lw_P (b : Addr) (xs : List Int32) (args : Array Value) (s : State) : Prop := args = #[.ref b] ∧ s.IntsAt b xs ∧ xs.length ≤ 3584 ∧ (Jvm.Cond.and given_1 narrow_1).before args s = true
def lw_Q (_ : Array Value) (s : State) (o : Outcome) (t : State) : Prop := o = .returned (some (.int 1)) ∧ Framed s o t [] 600000 7302250
def lw_Z (below : List Frame) (a : Array Value) (s : State) : State → Prop := fun t => ∃ o, t.status = .running ∧ Ended t below o ∧ lw_Q a s o t
/-- the law's own end, with 1 on the stack, nothing written that was there before, its room as the claim has it -/
theorem lw_ret {p : Program} {l : Launch} {e : Env} {s : State} {m : MethodId} {below : List Frame} {meth : Method} {c : Code} {b : Nat} (hx : p.tables.exec = Jvm.exec) (hb : c.code = code) (hr : meth.sig.returnType = ret) (hlocks : meth.locks = false) {pc : Nat} {H : Heap} {ls : Array Slot} (hdg : decode code pc = .ok (.ireturn, 1)) : W p l e room_1 s m #[Value.ref b] below meth c H [] 600000 7302250 (lw_Z below #[Value.ref b] s) (F0 m pc ls [.int 1]) := by
  intro T hT X
  obtain ⟨fs, hret, hrun, hended, hW, hframe⟩ := X.leave (v := some (.int 1)) (hlocks := hlocks) (fun h => by rw [hr] at h; cases h)
  have hmeth' : T.vm.method? m = some meth := X.method'
  refine ⟨T.setFrames fs, ?_, .returned (some (.int 1)), hrun, hended, rfl, ⟨_, rfl⟩, hW, hframe⟩
  jvm_step X.here [X.here.top, hx, hb, hdg, hmeth', hr, ret, narrow_b1]
  (try refine ⟨rfl, ?_⟩); (try refine ⟨rfl, ?_⟩)
  first | (intro acts; rw [hret _ acts rfl rfl rfl]) | rw [hret _ _ rfl rfl rfl]
  exact Steps.refl _
/-- what holds at the law's entry: the machine, the code, the tables' words (any of lw_tbl by 'hts w (by decide +kernel)'), the script of L ints xs at the cell b, what the Statement gives of the start (any of its parts by flat_of_before) -/
def lw_At (p : Program) (s : State) (m : MethodId) (meth : Method) (c : Code) (b L : Nat) (xs : Nat → Int32) : Prop :=
  p.tables.exec = Jvm.exec ∧ c.code = code ∧ meth.sig.returnType = ret ∧ c.maxLocals = 4 ∧ s.vm.findClass R_law = some m.cls ∧ (∀ w ∈ lw_tbl, w.before #[Value.ref b] s = true) ∧ va_X b L xs s s.heap ∧ b < s.heap.size ∧ meth.locks = false ∧ (Jvm.Cond.and given_1 narrow_1).before #[Value.ref b] s = true
/-! the law: its places -/
abbrev Lg : Type := Program × Env × State × MethodId × List Frame × Method × Code × va_G × (Nat → ClassId)
def LC (l : Launch) (γ : Lg) (ad1 ad2 : Nat → Nat) (b L : Nat) (xs : Nat → Int32) : Prop := match γ with
  | (p, _, s, m, _, meth, c, D, dA) => p.tables.exec = Jvm.exec ∧ c.code = code ∧ meth.sig.returnType = ret ∧ c.maxLocals = 4 ∧ s.vm.findClass RL = some m.cls ∧ (∀ w ∈ tblG, w.before #[Value.ref b] s = true) ∧ (∀ w ∈ nestW, va_Nw w s) ∧ va_K D vwCl (tysOf dA) s ∧ va_X b L xs s s.heap ∧ b < s.heap.size ∧ meth.locks = false ∧ L ≤ 3584 ∧ (∀ σ, va_D (fun q => s.heap.size ≤ q) (wsOf dA ad1 shC σ)) ∧ (∀ τ, va_D (fun q => s.heap.size ≤ q) (wsOf dA ad2 shM τ)) ∧ ∀ i j, i < 270 → j < 24 → ad1 i ≠ ad2 j
def llv (ad1 ad2 : Nat → Nat) (b : Nat) (i : Int32) : List (Nat × Value) := [(3, .int i), (2, .ref (ad2 0)), (1, .ref (ad1 0)), (0, .ref b)]
def LW (l : Launch) (γ : Lg) (ad1 ad2 : Nat → Nat) (b pc : Nat) (i : Int32) (st : List Value) (σ τ : Hp) : Prop := match γ with
  | (p, e, s, m, below, meth, c, D, dA) => ∀ (H : Heap) (locs : List Jvm.Loc) (ls : Array Slot), va_P D vwCl (wsOf dA ad1 shC σ) H → va_P D vwCl (wsOf dA ad2 shM τ) H → va_S (fun q => s.heap.size ≤ q) s.heap H locs → lv_has ls 4 (llv ad1 ad2 b i) → W p l e room_1 s m #[Value.ref b] below meth c H locs 294 18222 (lw_Z below #[Value.ref b] s) (F0 m pc ls st)
theorem ws_ad {dA : Nat → ClassId} {ad : Nat → Nat} {sh : List Shp} {σ : Hp} {k : Nat} {q : Nat × va_E} (h : (wsOf dA ad sh σ)[k]? = some q) : k < sh.length ∧ q.1 = ad k := by
  unfold wsOf at h
  rw [List.getElem?_mapIdx] at h
  cases hs : sh[k]? with
  | none => rw [hs] at h; cases h
  | some x => rw [hs] at h; cases h; exact ⟨(List.getElem?_eq_some_iff.mp hs).1, rfl⟩
section LROWS
variable {l : Launch} {γ : Lg} {ad1 ad2 : Nat → Nat} {b L pc : Nat} {xs : Nat → Int32} {i : Int32} {st st0 : List Value} {σ τ σ' : Hp}
theorem l_aload1 (hc : LC l γ ad1 ad2 b L xs) (hd : decode code pc = .ok (.aload_n 1, 1)) (kk : LW l γ ad1 ad2 b (pc + 1) i (.ref (ad1 0) :: st) σ τ) : LW l γ ad1 ad2 b pc i st σ τ := by
  obtain ⟨p, e, s, m, below, meth, c, D, dA⟩ := γ
  obtain ⟨hx, hb, hr, hml, hown, hts, hnw, hK, hX, hbl, hlk, hL, hD1, hD2, hdis⟩ := hc
  intro H locs ls hP1 hP2 hS hl
  exact lv_aload_n hx hb hd rfl (lv_at hl 2 rfl) (kk H locs ls hP1 hP2 hS hl)
theorem l_aload2 (hc : LC l γ ad1 ad2 b L xs) (hd : decode code pc = .ok (.aload_n 2, 1)) (kk : LW l γ ad1 ad2 b (pc + 1) i (.ref (ad2 0) :: st) σ τ) : LW l γ ad1 ad2 b pc i st σ τ := by
  obtain ⟨p, e, s, m, below, meth, c, D, dA⟩ := γ
  obtain ⟨hx, hb, hr, hml, hown, hts, hnw, hK, hX, hbl, hlk, hL, hD1, hD2, hdis⟩ := hc
  intro H locs ls hP1 hP2 hS hl
  exact lv_aload_n hx hb hd rfl (lv_at hl 1 rfl) (kk H locs ls hP1 hP2 hS hl)
theorem l_arg (hc : LC l γ ad1 ad2 b L xs) {j k : Nat} {n : Int} (hn : Int32.ofInt n = nI k) (hi : i = nI j) (hjk : j + k < L) (d1 : decode code pc = .ok (.aload_n 0, 1)) (d2 : decode code (pc + 1) = .ok (.iload_n 3, 1)) (d3 : decode code (pc + 1 + 1) = .ok (.iconst n, 1)) (d4 : decode code (pc + 1 + 1 + 1) = .ok (.iadd, 1)) (d5 : decode code (pc + 1 + 1 + 1 + 1) = .ok (.iaload, 1)) (kk : LW l γ ad1 ad2 b (pc + 5) i (.int (xs (j + k)) :: st) σ τ) : LW l γ ad1 ad2 b pc i st σ τ := by
  obtain ⟨p, e, s, m, below, meth, c, D, dA⟩ := γ
  obtain ⟨hx, hb, hr, hml, hown, hts, hnw, hK, hX, hbl, hlk, hL, hD1, hD2, hdis⟩ := hc
  subst hi
  intro H locs ls hP1 hP2 hS hl
  refine lv_aload_n hx hb d1 rfl (lv_at hl 3 rfl) ?_
  refine lv_iload_n hx hb d2 rfl (lv_at hl 0 rfl) ?_
  refine lv_iconst hx hb d3 hn ?_
  refine lv_iadd hx hb d4 ?_
  have e1 : nI j + nI k = nI (j + k) := nI_add j k
  rw [e1]
  refine va_sld hx hb hX hbl (Nat.not_le.mpr hbl) hS (vp_in_nI hjk (by omega)) d5 ?_
  rw [nI_clamp (by omega)]
  exact kk H locs ls hP1 hP2 hS hl
theorem l_arg6 (hc : LC l γ ad1 ad2 b L xs) {j k : Nat} {n : Int} (hn : (Int8.ofInt n).toInt32 = nI k) (hi : i = nI j) (hjk : j + k < L) (d1 : decode code pc = .ok (.aload_n 0, 1)) (d2 : decode code (pc + 1) = .ok (.iload_n 3, 1)) (d3 : decode code (pc + 1 + 1) = .ok (.bipush n, 2)) (d4 : decode code (pc + 1 + 1 + 2) = .ok (.iadd, 1)) (d5 : decode code (pc + 1 + 1 + 2 + 1) = .ok (.iaload, 1)) (kk : LW l γ ad1 ad2 b (pc + 6) i (.int (xs (j + k)) :: st) σ τ) : LW l γ ad1 ad2 b pc i st σ τ := by
  obtain ⟨p, e, s, m, below, meth, c, D, dA⟩ := γ
  obtain ⟨hx, hb, hr, hml, hown, hts, hnw, hK, hX, hbl, hlk, hL, hD1, hD2, hdis⟩ := hc
  subst hi
  intro H locs ls hP1 hP2 hS hl
  refine lv_aload_n hx hb d1 rfl (lv_at hl 3 rfl) ?_
  refine lv_iload_n hx hb d2 rfl (lv_at hl 0 rfl) ?_
  refine lv_bipush hx hb d3 hn ?_
  refine lv_iadd hx hb d4 ?_
  have e1 : nI j + nI k = nI (j + k) := nI_add j k
  rw [e1]
  refine va_sld hx hb hX hbl (Nat.not_le.mpr hbl) hS (vp_in_nI hjk (by omega)) d5 ?_
  rw [nI_clamp (by omega)]
  exact kk H locs ls hP1 hP2 hS hl
theorem l_bool (hc : LC l γ ad1 ad2 b L xs) {x : Int32} (d1 : decode code pc = .ok (.ifCond .eq 7, 3)) (d2 : decode code (pc + 3) = .ok (.iconst 1, 1)) (d3 : decode code (pc + 3 + 1) = .ok (.goto 4, 3)) (d4 : decode code (pc + 7) = .ok (.iconst 0, 1)) (kk : LW l γ ad1 ad2 b (pc + 8) i (.int (bI (!decide (x = 0))) :: st) σ τ) : LW l γ ad1 ad2 b pc i (.int x :: st) σ τ := by
  obtain ⟨p, e, s, m, below, meth, c, D, dA⟩ := γ
  obtain ⟨hx, hb, hr, hml, hown, hts, hnw, hK, hX, hbl, hlk, hL, hD1, hD2, hdis⟩ := hc
  intro H locs ls hP1 hP2 hS hl
  have key := kk H locs ls hP1 hP2 hS hl
  refine lv_if_eq (tgt := pc + 7) hx hb d1 (by omega) (fun h => ?_) (fun h => ?_)
  · rw [decide_eq_true h] at key
    exact lv_iconst (v := 0) hx hb d4 (by decide) key
  · rw [decide_eq_false h] at key
    refine lv_iconst (v := 1) hx hb d2 (by decide) ?_
    exact lv_goto (tgt := pc + 8) hx hb d3 (by omega) key
theorem l_same (hc : LC l γ ad1 ad2 b L xs) {v : Int32} {off : Int} (hd : decode code pc = .ok (.if_icmp .eq off, 3)) (ht : (pc : Int) + off = ((2063 : Nat) : Int)) (kk : LW l γ ad1 ad2 b 2063 i [] σ τ) : LW l γ ad1 ad2 b pc i [.int v, .int v] σ τ := by
  obtain ⟨p, e, s, m, below, meth, c, D, dA⟩ := γ
  obtain ⟨hx, hb, hr, hml, hown, hts, hnw, hK, hX, hbl, hlk, hL, hD1, hD2, hdis⟩ := hc
  intro H locs ls hP1 hP2 hS hl
  exact lv_icmp_eq (tgt := 2063) hx hb hd ht (fun _ => kk H locs ls hP1 hP2 hS hl) (fun h => absurd rfl h)
theorem l_callC (hc : LC l γ ad1 ad2 b L xs) {idx np n d' : Nat} {y : MethodName} {b' : ByteArray} {r : Option FieldType} {av : (Nat → Nat) → List Value} {v : Int32} {As : List Value} (hk : MV y b' n r np) (hlk : Cond.methodLink RL idx y ∈ tblG) (hM : Mt l y b' n r d' shC av σ (fun _ => some (.int v)) σ') (hcls : y.cls = RX6) (hav : av ad1 = .ref (ad1 0) :: As) (hn : As.length = np) (hd' : d' + 1 ≤ 2048 ∧ n ≤ 29 ∧ 48 * (d' + 1) ≤ 84000) (hst : st0 = As.reverse ++ .ref (ad1 0) :: st) (hW : (st.map fun v => v.category).sum ≤ 8) (hdg : decode code pc = .ok (.invokevirtual idx, 3)) (kk : LW l γ ad1 ad2 b (pc + 3) i (.int v :: st) σ' τ) : LW l γ ad1 ad2 b pc i st0 σ τ := by
  obtain ⟨p, e, s, m, below, meth, c, D, dA⟩ := γ
  obtain ⟨hx, hb, hr, hml, hown, hts, hnw, hK, hX, hbl, hlk2, hL, hD1, hD2, hdis⟩ := hc
  obtain ⟨k1, k2, k3, k4, k5, k6, k7⟩ := hk
  intro H locs ls hP1 hP2 hS hl
  have hM2 := hM D dA ad1 H.size
  rw [hav] at hM2
  have k2' : Cond.selects RX6 y y ∈ tblG := by rw [← hcls]; exact k2
  have k3' : Cond.initialized RX6 ∈ tblG := by rw [← hcls]; exact k3
  have hF : ∀ q, va_A (wsOf dA ad1 shC σ) H.size q → s.heap.size ≤ q := by
    intro q hq
    rcases hq with ⟨i, e, h⟩ | h
    · exact (hD1 σ).2 i _ h
    · exact Nat.le_trans hS.1 h
  have hr := va_runV (p := p) (e := e) (R := room_1) (s := s) (m := m) (args := #[Value.ref b]) (below := below) (meth := meth) (H := H) (locs := locs) (cells := 294) (slots := 18222) (g := F0 m pc ls st0) (As := As) (rest := st) ⟨hx, hb, hml, hown, hts⟩ hM2 (cwV (C := RX6) np hts (goodG (four_all hlk k1 k2' k3' (code_all k4))) rfl rfl rfl ⟨hcls, k5, k6, k7⟩ ⟨hd'.1, (by show 8 + (n + 11) + 48 * d' ≤ 84000; omega)⟩) ⟨Mpre_blind, va_recv hK hP1 (ci := 6) (q0 := 0) rfl (ws_get (q := .inl 6) rfl), pre_U (A := fun q => s.heap.size ≤ q) hK hD1 hP1 hnw⟩ rfl hn hl.1 hst (lv_room hW) hdg ⟨(by decide), (by decide)⟩
  intro T hT X
  obtain ⟨w, st₀, t, T', L', h0, X', hL', e1, e2, ⟨hoc, hp, hz, hkk⟩, st1⟩ := hr T hT X
  cases hoc
  rw [h0] at hz hkk
  have hP2' : va_P D vwCl (wsOf dA ad2 shM τ) T'.heap := hP2.kept fun k q hq => by
    have hlt := (hP2 k q hq).lt
    rw [e1]
    refine hkk q.1 hlt (fun hA => ?_)
    rcases hA with ⟨i, e, h⟩ | h
    · obtain ⟨a1, a2⟩ := ws_ad h
      obtain ⟨b1, b2⟩ := ws_ad hq
      rw [shC_len] at a1
      rw [shM_len] at b1
      exact hdis i k a1 b1 (a2.symm.trans b2)
    · omega
  obtain ⟨t2, a1, b1⟩ := kk T'.heap (locs ++ L') ls (by rw [e1]; exact hp) hP2'
    ⟨Nat.le_trans hS.1 (by rw [e1]; exact hz), fun q h1 h2 => by rw [e1, hkk q (Nat.lt_of_lt_of_le h1 hS.1) (fun z => h2 (hF q z))]; exact hS.2.1 q h1 h2, fun q hq => by
      rcases List.mem_append.mp hq with h | h
      · exact hS.2.2 q h
      · exact hF _ (hL' q h)⟩ hl T' rfl X'
  exact ⟨t2, st1 t2 a1, b1⟩
theorem l_callM (hc : LC l γ ad1 ad2 b L xs) {idx np n d' : Nat} {y : MethodName} {b' : ByteArray} {r : Option FieldType} {av : (Nat → Nat) → List Value} {v : Int32} {As : List Value} {τ' : Hp} (hk : MV y b' n r np) (hlk : Cond.methodLink RL idx y ∈ tblG) (hM : Mt l y b' n r d' shM av τ (fun _ => some (.int v)) τ') (hcls : y.cls = RX7) (hav : av ad2 = .ref (ad2 0) :: As) (hn : As.length = np) (hd' : d' + 1 ≤ 2048 ∧ n ≤ 29 ∧ 48 * (d' + 1) ≤ 84000) (hst : st0 = As.reverse ++ .ref (ad2 0) :: st) (hW : (st.map fun v => v.category).sum ≤ 8) (hdg : decode code pc = .ok (.invokevirtual idx, 3)) (kk : LW l γ ad1 ad2 b (pc + 3) i (.int v :: st) σ τ') : LW l γ ad1 ad2 b pc i st0 σ τ := by
  obtain ⟨p, e, s, m, below, meth, c, D, dA⟩ := γ
  obtain ⟨hx, hb, hr, hml, hown, hts, hnw, hK, hX, hbl, hlk2, hL, hD1, hD2, hdis⟩ := hc
  obtain ⟨k1, k2, k3, k4, k5, k6, k7⟩ := hk
  intro H locs ls hP1 hP2 hS hl
  have hM2 := hM D dA ad2 H.size
  rw [hav] at hM2
  have k2' : Cond.selects RX7 y y ∈ tblG := by rw [← hcls]; exact k2
  have k3' : Cond.initialized RX7 ∈ tblG := by rw [← hcls]; exact k3
  have hF : ∀ q, va_A (wsOf dA ad2 shM τ) H.size q → s.heap.size ≤ q := by
    intro q hq
    rcases hq with ⟨i, e, h⟩ | h
    · exact (hD2 τ).2 i _ h
    · exact Nat.le_trans hS.1 h
  have hr := va_runV (p := p) (e := e) (R := room_1) (s := s) (m := m) (args := #[Value.ref b]) (below := below) (meth := meth) (H := H) (locs := locs) (cells := 294) (slots := 18222) (g := F0 m pc ls st0) (As := As) (rest := st) ⟨hx, hb, hml, hown, hts⟩ hM2 (cwV (C := RX7) np hts (goodG (four_all hlk k1 k2' k3' (code_all k4))) rfl rfl rfl ⟨hcls, k5, k6, k7⟩ ⟨hd'.1, (by show 8 + (n + 11) + 48 * d' ≤ 84000; omega)⟩) ⟨Mpre_blind, va_recv hK hP2 (ci := 7) (q0 := 0) rfl (ws_get (q := .inl 7) rfl), pre_U (A := fun q => s.heap.size ≤ q) hK hD2 hP2 hnw⟩ rfl hn hl.1 hst (lv_room hW) hdg ⟨(by decide), (by decide)⟩
  intro T hT X
  obtain ⟨w, st₀, t, T', L', h0, X', hL', e1, e2, ⟨hoc, hp, hz, hkk⟩, st1⟩ := hr T hT X
  cases hoc
  rw [h0] at hz hkk
  have hP1' : va_P D vwCl (wsOf dA ad1 shC σ) T'.heap := hP1.kept fun k q hq => by
    have hlt := (hP1 k q hq).lt
    rw [e1]
    refine hkk q.1 hlt (fun hA => ?_)
    rcases hA with ⟨i, e, h⟩ | h
    · obtain ⟨a1, a2⟩ := ws_ad h
      obtain ⟨b1, b2⟩ := ws_ad hq
      rw [shM_len] at a1
      rw [shC_len] at b1
      exact hdis k i b1 a1 (b2.symm.trans a2)
    · omega
  obtain ⟨t2, a1, b1⟩ := kk T'.heap (locs ++ L') ls hP1' (by rw [e1]; exact hp)
    ⟨Nat.le_trans hS.1 (by rw [e1]; exact hz), fun q h1 h2 => by rw [e1, hkk q (Nat.lt_of_lt_of_le h1 hS.1) (fun z => h2 (hF q z))]; exact hS.2.1 q h1 h2, fun q hq => by
      rcases List.mem_append.mp hq with h | h
      · exact hS.2.2 q h
      · exact hF _ (hL' q h)⟩ hl T' rfl X'
  exact ⟨t2, st1 t2 a1, b1⟩
end LROWS
