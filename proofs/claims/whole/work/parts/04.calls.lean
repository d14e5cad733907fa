/-! CONTRACTS AND CALLS over the frame -/
theorem goodG {ws : List Cond} (h : ∀ w ∈ ws, w ∈ tblG) : GoodIn tblG ws := fun w hw => ⟨h w hw, good_of_word (List.mem_filter.mp (h w hw)).2⟩
theorem nest_on : ∀ w ∈ nestW, w.onTables = true := by decide
theorem nest_warm {s U : State} (hW : s.WarmedH U.vm) : ∀ w ∈ nestW, va_Nw w s → va_Nw w U := by
  intro w hw h
  simp only [nestW, List.mem_cons, List.not_mem_nil, or_false] at hw
  rcases hw with rfl | rfl | rfl | rfl | rfl | rfl | rfl | rfl | rfl | rfl | rfl | rfl <;> exact va_Nw.warmM hW h
theorem Mpre_blind {D : va_G} {dA : Nat → ClassId} {ad : Nat → Nat} {sh : List Shp} {sz : Nat} {av : List Value} {σ : Hp} : FrameBlind (Mpre D dA ad sh sz av σ) := by
  intro a U g mk h
  obtain ⟨h1, h2, h3, h4, h5, h6⟩ := h
  exact ⟨h1, h2, h3, va_K.moved (u := U) (U := U.calling g mk a) (Vm.Alike.refl U.vm) h4, h5, fun w hw => va_Nw.same (u := U) (U := U.calling g mk a) (nest_on w hw) rfl (h6 w hw)⟩
theorem mt_i {l : Launch} {y : MethodName} {b : ByteArray} {n : Nat} {r : Option FieldType} {d : Nat} {sh : List Shp} {own : String} {av : (Nat → Nat) → List Value} {σ : Hp} {v : (Nat → Nat) → Option Value} {σ' : Hp} (hy : plainName y.cls = true) (ho : y.cls = own) (hlen : ∀ ad, (lg_sl (av ad)).length ≤ n)
    (body : ∀ (γ : Gm) (ad : Nat → Nat) (K : Option Value → Hp → Prop), Cx l γ d n ad sh own b r K → K (v ad) σ' → WW l γ d n ad sh 0 (lv_args 0 (av ad)) [] σ) : Mt l y b n r d sh av σ v σ' := by
  intro D dA ad sz
  refine Met.ofW (cc := b) (maxL := n) (ret := r) hy rfl ?_
  intro p e s m args below meth c s₁ B hml hv
  obtain ⟨rfl, hsz, hP, hK, hD0, hn⟩ := hv
  subst hsz
  have hl := lv_entry (av ad) (n := n) (hlen ad)
  rw [lg_entry_eq]
  generalize (lg_sl (av ad) ++ List.replicate (n - (lg_sl (av ad)).length) Slot.unset).toArray = ls at hl ⊢
  have hts := atoms_spec (ws := Cond.code y b n r :: tblG) B.pre
  have hown : s.vm.findClass y.cls = some m.cls := findClass_of_methodNamed B.named
  have key := body (p, e, s, m, (av ad).toArray, below, meth, c, D, dA, va_A (wsOf dA ad sh σ) s.heap.size, MQ below (Mpost D dA ad sh s.heap.size σ (v ad) σ') (av ad).toArray s 0 0 (va_A (wsOf dA ad sh σ) s.heap.size)) ad (fun w τ => w = v ad ∧ τ = σ')
    ⟨B.exec, B.bytes, hml, by rw [← ho]; exact hown, fun w hw => hts w (List.mem_cons_of_mem _ hw), hn, hK, fun τ => ws_D hD0.self, fun q h => Or.inr h, B.notSynchronized, B.returns, _, rfl, fun w τ hw t h1 h2 => by
      obtain ⟨rfl, rfl⟩ := hw
      exact ⟨rfl, h1, h2⟩⟩ ⟨rfl, rfl⟩
  exact key s.heap [] ls hP va_S.rf hl
def MhD (y : MethodName) (np : Nat) : Prop := y.cls ≠ "java/lang/invoke/MethodHandle" ∧ y.cls ≠ "java/lang/invoke/VarHandle" ∧ (parseMethodDescriptor y.desc).map (fun d => d.parameters.length) = some np
def MV (y : MethodName) (b : ByteArray) (n : Nat) (r : Option FieldType) (np : Nat) : Prop := Cond.instanceMethod y ∈ tblG ∧ Cond.selects y.cls y y ∈ tblG ∧ Cond.initialized y.cls ∈ tblG ∧ Cond.code y b n r ∈ tblG ∧ MhD y np
def MS (y : MethodName) (b : ByteArray) (n : Nat) (r : Option FieldType) (np : Nat) : Prop := Cond.static y ∈ tblG ∧ Cond.initialized y.cls ∈ tblG ∧ Cond.code y b n r ∈ tblG ∧ MhD y np
theorem code_all {y : MethodName} {b : ByteArray} {n : Nat} {r : Option FieldType} (h : Cond.code y b n r ∈ tblG) : ∀ w ∈ Cond.code y b n r :: tblG, w ∈ tblG := by
  intro w hw
  rcases List.mem_cons.mp hw with e | e
  · rw [e]; exact h
  · exact e
theorem four_all {a b c d : Cond} {ws : List Cond} (ha : a ∈ tblG) (hb : b ∈ tblG) (hc : c ∈ tblG) (hd : d ∈ tblG) (h : ∀ w ∈ ws, w ∈ tblG) : ∀ w ∈ ([a, b, c, d] : List Cond) ++ ws, w ∈ tblG := by
  intro w hw
  rcases List.mem_append.mp hw with e | e
  · simp only [List.mem_cons, List.not_mem_nil, or_false] at e
    rcases e with rfl | rfl | rfl | rfl <;> assumption
  · exact h w e
theorem three_all {a b c : Cond} {ws : List Cond} (ha : a ∈ tblG) (hb : b ∈ tblG) (hc : c ∈ tblG) (h : ∀ w ∈ ws, w ∈ tblG) : ∀ w ∈ ([a, b, c] : List Cond) ++ ws, w ∈ tblG := by
  intro w hw
  rcases List.mem_append.mp hw with e | e
  · simp only [List.mem_cons, List.not_mem_nil, or_false] at e
    rcases e with rfl | rfl | rfl <;> assumption
  · exact h w e
section CALLS
variable {l : Launch} {γ : Gm} {d nL : Nat} {ad : Nat → Nat} {sh : List Shp} {own : String} {cc : ByteArray} {ret : Option FieldType} {K : Option Value → Hp → Prop} {pc : Nat} {lv lv' : List (Nat × Value)} {st : List Value} {σ σ' : Hp}
theorem ww_call {p : Program} {e : Env} {s : State} {m : MethodId} {args : Array Value} {below : List Frame} {meth : Method} {c : Code} {D : va_G} {dA : Nat → ClassId} {A : Nat → Prop} {Q : State → Prop} {H : Heap} {locs : List Loc} {ls : Array Slot} {v : Option Value} {st0 : List Value} {a : Array Value}
    (hD : ∀ σ, va_D A (wsOf dA ad sh σ)) (hA : ∀ q, s.heap.size ≤ q → A q) (hS : va_S A s.heap H locs) (hl : lv_has ls nL lv)
    (hr : va_Run p l e (Lv d) s m args below meth c H locs 0 0 0 0 (F0 m pc ls st0) st (Mpost D dA ad sh H.size σ v σ' a) (va_A (wsOf dA ad sh σ) H.size))
    (k : WW l (p, e, s, m, args, below, meth, c, D, dA, A, Q) d nL ad sh (pc + 3) lv (v.toList ++ st) σ') : W p l e (Lv d) s m args below meth c H locs 0 0 Q (F0 m pc ls st0) := by
  have hF : ∀ q, va_A (wsOf dA ad sh σ) H.size q → A q := by
    intro q hq
    rcases hq with ⟨i, e, h⟩ | h
    · exact (hD σ).2 i _ h
    · exact hA q (Nat.le_trans hS.1 h)
  intro T hT X
  obtain ⟨w, st₀, t, T', L, h0, X', hL, e1, e2, ⟨hoc, hp, hz, hk⟩, st1⟩ := hr T hT X
  cases hoc
  rw [h0] at hz hk
  obtain ⟨t2, a1, b1⟩ := k T'.heap (locs ++ L) ls (by rw [e1]; exact hp)
    ⟨Nat.le_trans hS.1 (by rw [e1]; exact hz), fun q h1 h2 => by rw [e1, hk q (Nat.lt_of_lt_of_le h1 hS.1) (fun z => h2 (hF q z))]; exact hS.2.1 q h1 h2, fun q hq => by
      rcases List.mem_append.mp hq with h | h
      · exact hS.2.2 q h
      · exact hF _ (hL q h)⟩ hl T' rfl X'
  exact ⟨t2, st1 t2 a1, b1⟩
theorem pre_U {s : State} {H : Heap} {D : va_G} {dA : Nat → ClassId} {A : Nat → Prop} {av : List Value} (hK : va_K D vwCl (tysOf dA) s) (hD : ∀ σ, va_D A (wsOf dA ad sh σ)) (hP : va_P D vwCl (wsOf dA ad sh σ) H) (hnw : ∀ w ∈ nestW, va_Nw w s) : ∀ U : State, U.heap = H → s.WarmedH U.vm → Mpre D dA ad sh H.size av σ av.toArray U := by
  intro U hU hW
  exact ⟨rfl, by rw [hU], by rw [hU]; exact hP, va_K.moved hW.alike hK, (hD σ).weaken (fun _ _ _ _ => trivial), fun w hw => nest_warm hW w hw (hnw w hw)⟩
theorem r_callV (hc : Cx l γ d nL ad sh own cc ret K) {idx np n d' k0 ci : Nat} {y : MethodName} {b : ByteArray} {r : Option FieldType} {av : (Nat → Nat) → List Value} {v : (Nat → Nat) → Option Value} {As st0 : List Value} (hk : MV y b n r np) (hlk : Cond.methodLink own idx y ∈ tblG) (hM : Mt l y b n r d' sh av σ v σ')
    (hs : sh[k0]? = some (.inl ci)) (hci : vwCl[ci]? = some (clsN ci, clsT ci, nFld ci)) (hcl : clsN ci = y.cls) (hav : av ad = .ref (ad k0) :: As) (hn : As.length = np) (hd' : d' + 1 ≤ d ∧ n ≤ 29) (hst : st0 = As.reverse ++ .ref (ad k0) :: st) (hW : (st.map fun v => v.category).sum ≤ 8) (hdg : decode cc pc = .ok (.invokevirtual idx, 3))
    (k : WW l γ d nL ad sh (pc + 3) lv ((v ad).toList ++ st) σ') : WW l γ d nL ad sh pc lv st0 σ := by
  obtain ⟨p, e, s, m, args, below, meth, c, D, dA, A, Q⟩ := γ
  obtain ⟨hx, hb, hml, hown, hts, hnw, hK, hD, hA, hlk2, hr, Qc, hQ, hret⟩ := hc
  obtain ⟨k1, k2, k3, k4, k5, k6, k7⟩ := hk
  intro H locs ls hP hS hl
  have hM2 := hM D dA ad H.size
  rw [hav] at hM2
  rw [← hcl] at k2 k3
  refine ww_call (v := v ad) (a := (Value.ref (ad k0) :: As).toArray) hD hA hS hl (va_runV (As := As) (rest := st) ⟨hx, hb, hml, hown, hts⟩ hM2 (cwV (C := clsN ci) np hts (goodG (four_all hlk k1 k2 k3 (code_all k4))) rfl rfl rfl ⟨hcl.symm, k5, k6, k7⟩ ⟨hd'.1, ?_⟩) ⟨Mpre_blind, va_recv hK hP hci (ws_get hs), pre_U hK hD hP hnw⟩ rfl hn hl.1 hst (lv_room hW) hdg ⟨Nat.zero_le _, Nat.zero_le _⟩) k
  show 8 + (n + 11) + 48 * d' ≤ 48 * d
  omega
theorem r_callS (hc : Cx l γ d nL ad sh own cc ret K) {idx np n d' : Nat} {y : MethodName} {b : ByteArray} {r : Option FieldType} {av : (Nat → Nat) → List Value} {v : (Nat → Nat) → Option Value} {As st0 : List Value} (hk : MS y b n r np) (hlk : Cond.methodLink own idx y ∈ tblG) (hM : Mt l y b n r d' sh av σ v σ')
    (hav : av ad = As) (hn : As.length = np) (hd' : d' + 1 ≤ d ∧ n ≤ 29) (hst : st0 = As.reverse ++ st) (hW : (st.map fun v => v.category).sum ≤ 8) (hdg : decode cc pc = .ok (.invokestatic idx, 3))
    (k : WW l γ d nL ad sh (pc + 3) lv ((v ad).toList ++ st) σ') : WW l γ d nL ad sh pc lv st0 σ := by
  obtain ⟨p, e, s, m, args, below, meth, c, D, dA, A, Q⟩ := γ
  obtain ⟨hx, hb, hml, hown, hts, hnw, hK, hD, hA, hlk2, hr, Qc, hQ, hret⟩ := hc
  obtain ⟨k1, k3, k4, k5, k6, k7⟩ := hk
  intro H locs ls hP hS hl
  have hM2 := hM D dA ad H.size
  rw [hav] at hM2
  refine ww_call (v := v ad) (a := As.toArray) hD hA hS hl (va_runS (As := As) (rest := st) ⟨hx, hb, hml, hown, hts⟩ hM2 (va_cwS np hts (goodG (three_all hlk k1 k3 (code_all k4))) rfl rfl rfl ⟨k5, k6, k7⟩ ⟨hd'.1, ?_⟩) ⟨Mpre_blind, pre_U hK hD hP hnw⟩ rfl hn hl.1 hst (lv_room hW) hdg ⟨Nat.zero_le _, Nat.zero_le _⟩) k
  show 8 + (n + 11) + 48 * d' ≤ 48 * d
  omega
theorem r_callSN (hc : Cx l γ d nL ad sh own cc ret K) {idx np n d' : Nat} {host : String} {y : MethodName} {b : ByteArray} {r : Option FieldType} {av : (Nat → Nat) → List Value} {v : (Nat → Nat) → Option Value} {As st0 : List Value} (hk : MS y b n r np) (hlk : Cond.methodLinkNest own idx y host ∈ nestW) (hM : Mt l y b n r d' sh av σ v σ')
    (hav : av ad = As) (hn : As.length = np) (hd' : d' + 1 ≤ d ∧ n ≤ 29) (hst : st0 = As.reverse ++ st) (hW : (st.map fun v => v.category).sum ≤ 8) (hdg : decode cc pc = .ok (.invokestatic idx, 3))
    (k : WW l γ d nL ad sh (pc + 3) lv ((v ad).toList ++ st) σ') : WW l γ d nL ad sh pc lv st0 σ := by
  obtain ⟨p, e, s, m, args, below, meth, c, D, dA, A, Q⟩ := γ
  obtain ⟨hx, hb, hml, hown, hts, hnw, hK, hD, hA, hlk2, hr, Qc, hQ, hret⟩ := hc
  obtain ⟨k1, k3, k4, k5, k6, k7⟩ := hk
  intro H locs ls hP hS hl
  have hM2 := hM D dA ad H.size
  rw [hav] at hM2
  refine ww_call (v := v ad) (a := As.toArray) hD hA hS hl (va_runSN (As := As) (rest := st) ⟨hx, hb, hml, hown, hts⟩ hM2 ⟨va_cnB np hts (goodG (code_all k4)) rfl rfl rfl (hnw _ hlk) (hts _ k3) ⟨k5, k6, k7⟩ ⟨hd'.1, ?_⟩, hts _ k1, trivial⟩ ⟨Mpre_blind, pre_U hK hD hP hnw⟩ rfl hn hl.1 hst (lv_room hW) hdg ⟨Nat.zero_le _, Nat.zero_le _⟩) k
  show 8 + (n + 11) + 48 * d' ≤ 48 * d
  omega
end CALLS
