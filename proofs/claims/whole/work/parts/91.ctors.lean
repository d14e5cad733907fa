/-! constructors: contracts and calls -/
def Npre (D : va_G) (dA : Nat → ClassId) (ad : Nat → Nat) (sh : List Shp) (sz : Nat) (av : List Value) (σ : Hp) : Array Value → State → Prop := va_Pc av (fun U => U.heap.size = sz ∧ va_P D vwCl (wsOf dA ad sh σ) U.heap ∧ va_K D vwCl (tysOf dA) U ∧ va_D (fun _ => True) (wsOf dA ad sh σ) ∧ (∀ w ∈ nestW, va_Nw w U) ∧ AO U)
def Npost (D : va_G) (dA : Nat → ClassId) (ad : Nat → Nat) (sh : List Shp) (sz : Nat) (σ : Hp) (sh' : List Shp) (σ' : Hp) : Array Value → State → Outcome → State → Prop := fun _ st oc t => oc = .returned none ∧ (∃ ad' : Nat → Nat, (∀ k, k < sh.length → ad' k = ad k) ∧ va_P D vwCl (wsOf dA ad' sh' σ') t.heap ∧ va_D (va_A (wsOf dA ad sh σ) sz) (wsOf dA ad' sh' σ')) ∧ va_F (va_A (wsOf dA ad sh σ) sz) st t
def RmN (d mc ms : Nat) : Room := { frames := d, cells := mc, slots := ms, locals := 48 * d }
def MtN (l : Launch) (y : MethodName) (b : ByteArray) (n d mc ms k0 : Nat) (sh : List Shp) (σ : Hp) (sh' : List Shp) (σ' : Hp) : Prop := Cl sh σ → ∀ (D : va_G) (dA : Nat → ClassId) (ad : Nat → Nat) (sz : Nat), Met l y (Cond.code y b n none :: tblG) (RmN d mc ms) (Npre D dA ad sh sz [.ref (ad k0)] σ) (Npost D dA ad sh sz σ sh' σ') mc ms (va_A (wsOf dA ad sh σ) sz)
def EN (γ : Gm) (ad0 : Nat → Nat) (sh0 : List Shp) (σ0 : Hp) (sh' : List Shp) (σ' : Hp) (mc ms : Nat) : Prop := match γ with
  | (_, _, s, _, args, below, meth, _, D, dA, A, Q) => A = va_A (wsOf dA ad0 sh0 σ0) s.heap.size ∧ Q = MQ below (Npost D dA ad0 sh0 s.heap.size σ0 sh' σ') args s mc ms A ∧ meth.sig.returnType = none
theorem AO_moved {u U : State} (hvm : u.vm.Alike U.vm) (h : AO u) : AO U := ⟨va_AO.moved hvm h.1, va_AO.moved hvm h.2⟩
theorem Npre_blind {D : va_G} {dA : Nat → ClassId} {ad : Nat → Nat} {sh : List Shp} {sz : Nat} {av : List Value} {σ : Hp} : FrameBlind (Npre D dA ad sh sz av σ) := by
  intro a U g mk h
  obtain ⟨h1, h2, h3, h4, h5, h6, h7⟩ := h
  exact ⟨h1, h2, h3, va_K.moved (u := U) (U := U.calling g mk a) (Vm.Alike.refl U.vm) h4, h5, fun w hw => va_Nw.same (u := U) (U := U.calling g mk a) (nest_on w hw) rfl (h6 w hw), AO_moved (u := U) (U := U.calling g mk a) (Vm.Alike.refl U.vm) h7⟩
theorem preN_U {s : State} {H : Heap} {D : va_G} {dA : Nat → ClassId} {ad : Nat → Nat} {sh : List Shp} {σ : Hp} {A : Nat → Prop} {av : List Value} (hK : va_K D vwCl (tysOf dA) s) (hD : va_D A (wsOf dA ad sh σ)) (hP : va_P D vwCl (wsOf dA ad sh σ) H) (hnw : ∀ w ∈ nestW, va_Nw w s) (hao : AO s) : ∀ U : State, U.heap = H → s.WarmedH U.vm → Npre D dA ad sh H.size av σ av.toArray U := by
  intro U hU hW
  exact ⟨rfl, by rw [hU], by rw [hU]; exact hP, va_K.moved hW.alike hK, ⟨hD.1, fun _ _ _ => trivial⟩, fun w hw => nest_warm hW w hw (hnw w hw), AO_moved hW.alike hao⟩
theorem mt_n {l : Launch} {y : MethodName} {b : ByteArray} {own : String} {n d mc ms k0 : Nat} {sh sh' : List Shp} {σ σ' : Hp} (hy : plainName y.cls = true) (ho : y.cls = own) (hn0 : y.name = "<init>") (hn : 1 ≤ n) (hk0 : k0 < sh.length) (body : ∀ (γ : Gm) (ad : Nat → Nat), CN l γ n own b → CI γ → EN γ ad sh σ sh' σ' mc ms → WN l γ (RmN d mc ms) n sh.length ad 0 [(0, .inr k0)] [] sh σ 0 0) : MtN l y b n d mc ms k0 sh σ sh' σ' := by
  intro hcl D dA ad sz
  refine Met.ofW (cc := b) (maxL := n) (ret := none) hy rfl ?_
  intro p e s m args below meth c s₁ B hml hv
  obtain ⟨rfl, hsz, hP, hK, hD0, hnw, hao⟩ := hv
  subst hsz
  have hl := lv_entry [Value.ref (ad k0)] (n := n) hn
  rw [lg_entry_eq]
  generalize (lg_sl [Value.ref (ad k0)] ++ List.replicate (n - (lg_sl [Value.ref (ad k0)]).length) Slot.unset).toArray = ls at hl ⊢
  have hts := atoms_spec (ws := Cond.code y b n none :: tblG) B.pre
  have hown : s.vm.findClass y.cls = some m.cls := findClass_of_methodNamed B.named
  have hname : meth.name = "<init>" := (name_of_methodNamed B.named B.method).1.trans hn0
  have key := body (p, e, s, m, [Value.ref (ad k0)].toArray, below, meth, c, D, dA, va_A (wsOf dA ad sh σ) s.heap.size, MQ below (Npost D dA ad sh s.heap.size σ sh' σ') [Value.ref (ad k0)].toArray s mc ms (va_A (wsOf dA ad sh σ) s.heap.size)) ad
    ⟨B.exec, B.bytes, hml, by rw [← ho]; exact hown, fun w hw => hts w (List.mem_cons_of_mem _ hw), hnw, hK, fun q h => Or.inr h, B.notSynchronized, hao⟩ hname ⟨rfl, rfl, B.returns⟩
  exact key ad s.heap [] ls hcl ⟨fun q hq => by rw [List.mem_singleton.mp hq]; exact hk0, fun q hq => by cases hq⟩ (fun _ _ => rfl) (Nat.le_refl _) hP hD0.self va_S.rf hl
section NCALLS
variable {l : Launch} {γ : Gm} {R : Room} {nL L0 : Nat} {ad0 : Nat → Nat} {own : String} {cc : ByteArray} {pc : Nat} {lv : List (Nat × Vn)} {st : List Vn} {sh sh' sh0 : List Shp} {σ σ' σ0 : Hp} {kc ks : Nat}
theorem mv_eq {ad ad' : Nat → Nat} {n : Nat} {v : Vn} (h : okV n v) (hk : ∀ k, k < n → ad' k = ad k) : mv ad' v = mv ad v := by
  cases v with
  | inl x => rfl
  | inr k => show Value.ref (ad' k) = Value.ref (ad k); rw [hk k h]
theorem n_vret (hc : CN l γ nL own cc) (he : EN γ ad0 sh0 σ0 sh σ kc ks) (hL0 : sh0.length = L0) (hd : decode cc pc = .ok (.return_, 1)) : WN l γ R nL L0 ad0 pc lv [] sh σ kc ks := by
  obtain ⟨p, e, s, m, args, below, meth, c, D, dA, A, Q⟩ := γ
  obtain ⟨hx, hb, hml, hown, hts, hnw, hK, hA, hlk, hao⟩ := hc
  obtain ⟨hAe, hQ, hr⟩ := he
  subst hQ
  subst hAe
  intro ad H locs ls hcl hok had hL hP hD hS hl
  exact W.vret hx hb hr (fun t ht hW => ⟨rfl, ⟨ad, fun k hk => had k (by omega), by rw [ht]; exact hP, hD⟩, hS.F ht⟩) hS.2.2 hd hlk
theorem n_run {p : Program} {e : Env} {s : State} {m : MethodId} {args : Array Value} {below : List Frame} {meth : Method} {c : Code} {D : va_G} {dA : Nat → ClassId} {A : Nat → Prop} {Q : State → Prop} {ad : Nat → Nat} {H : Heap} {locs : List Jvm.Loc} {ls : Array Slot} {mc ms : Nat} {st0 : List Value} {a : Array Value}
    (hcl : Cl sh σ) (hok : OkN sh.length lv st) (had : ∀ k, k < L0 → ad k = ad0 k) (hL : L0 ≤ sh.length) (hD : va_D A (wsOf dA ad sh σ)) (hA : ∀ q, s.heap.size ≤ q → A q) (hS : va_S A s.heap H locs) (hl : lv_has ls nL (mlv ad lv)) (hle : sh.length ≤ sh'.length) (hcl' : Cl sh' σ')
    (hr : va_Run p l e R s m args below meth c H locs kc ks mc ms (F0 m pc ls st0) (mst ad st) (Npost D dA ad sh H.size σ sh' σ' a) (va_A (wsOf dA ad sh σ) H.size))
    (kk : WN l (p, e, s, m, args, below, meth, c, D, dA, A, Q) R nL L0 ad0 (pc + 3) lv st sh' σ' (kc + mc) (ks + ms)) : W p l e R s m args below meth c H locs kc ks Q (F0 m pc ls st0) := by
  have hF : ∀ q, va_A (wsOf dA ad sh σ) H.size q → A q := by
    intro q hq
    rcases hq with ⟨i, e, h⟩ | h
    · exact hD.2 i _ h
    · exact hA q (Nat.le_trans hS.1 h)
  intro T hT X
  obtain ⟨w, st₀, t, T', L, h0, X', hL', e1, e2, ⟨hoc, ⟨ad', hk', hp, hdd⟩, hz, hk⟩, st1⟩ := hr T hT X
  cases hoc
  rw [h0] at hz hk
  have elv : mlv ad' lv = mlv ad lv := List.map_congr_left fun x hx => by rw [mv_eq (hok.1 x hx) hk']
  have est : mst ad' st = mst ad st := List.map_congr_left fun x hx => mv_eq (hok.2 x hx) hk'
  have key := kk ad' T'.heap (locs ++ L) ls hcl' (ok_w hok hle) (fun k h => (hk' k (by omega)).trans (had k h)) (by omega) (by rw [e1]; exact hp) ⟨hdd.1, fun k q h => hF _ (hdd.2 k q h)⟩
    ⟨Nat.le_trans hS.1 (by rw [e1]; exact hz), fun q h1 h2 => by rw [e1, hk q (Nat.lt_of_lt_of_le h1 hS.1) (fun z => h2 (hF q z))]; exact hS.2.1 q h1 h2, fun q hq => by
      rcases List.mem_append.mp hq with h | h
      · exact hS.2.2 q h
      · exact hF _ (hL' q h)⟩ (by rw [elv]; exact hl)
  rw [est] at key
  obtain ⟨t2, a1, b1⟩ := key T' rfl X'
  exact ⟨t2, st1 t2 a1, b1⟩
theorem n_callN (hc : CN l γ nL own cc) {idx n d' mc ms k0 : Nat} {host : String} {y : MethodName} {b : ByteArray} (hM : MtN l y b n d' mc ms k0 sh σ sh' σ') (hlk : Cond.methodLinkNest own idx y host ∈ nestW) (him : Cond.instanceMethod y ∈ tblG) (hini : Cond.initialized y.cls ∈ tblG) (hcd : Cond.code y b n none ∈ tblG) (hmh : MhD y 0) (hy1 : y.name = "<init>") (hd' : d' + 1 ≤ R.frames ∧ n ≤ 29 ∧ 48 * (d' + 1) ≤ R.locals) (hcm : kc + mc ≤ R.cells ∧ ks + ms ≤ R.slots) (hle : sh.length ≤ sh'.length) (hcl' : Cl sh σ → Cl sh' σ') (hW : ∀ ad, ((mst ad st).map fun v => v.category).sum ≤ 8) (hd : decode cc pc = .ok (.invokespecial idx, 3)) (kk : WN l γ R nL L0 ad0 (pc + 3) lv st sh' σ' (kc + mc) (ks + ms)) : WN l γ R nL L0 ad0 pc lv (.inr k0 :: st) sh σ kc ks := by
  obtain ⟨p, e, s, m, args, below, meth, c, D, dA, A, Q⟩ := γ
  obtain ⟨hx, hb, hml, hown, hts, hnw, hK, hA, hlk2, hao⟩ := hc
  intro ad H locs ls hcl hok had hL hP hD hS hl
  have hM2 := hM hcl D dA ad H.size
  refine n_run hcl (ok_pop hok) had hL hD hA hS hl hle (hcl' hcl) (va_runIN (As := []) (rest := mst ad st) ⟨hx, hb, hml, hown, hts⟩ hM2 ⟨va_cnB 0 hts (goodG (code_all hcd)) rfl rfl rfl (hnw _ hlk) (hts _ hini) hmh ⟨hd'.1, ?_⟩, hy1, hts _ him⟩ ⟨Npre_blind, preN_U hK hD hP hnw hao⟩ rfl rfl hl.1 rfl (lv_room (hW ad)) hd hcm) kk
  show 8 + (n + 11) + 48 * d' ≤ R.locals
  omega
theorem n_callI (hc : CN l γ nL own cc) {idx n d' mc ms k0 : Nat} {y : MethodName} {b : ByteArray} (hM : MtN l y b n d' mc ms k0 sh σ sh' σ') (hlk : Cond.methodLink own idx y ∈ tblG) (him : Cond.instanceMethod y ∈ tblG) (hini : Cond.initialized y.cls ∈ tblG) (hcd : Cond.code y b n none ∈ tblG) (hmh : MhD y 0) (hy1 : y.name = "<init>") (hd' : d' + 1 ≤ R.frames ∧ n ≤ 29 ∧ 48 * (d' + 1) ≤ R.locals) (hcm : kc + mc ≤ R.cells ∧ ks + ms ≤ R.slots) (hle : sh.length ≤ sh'.length) (hcl' : Cl sh σ → Cl sh' σ') (hW : ∀ ad, ((mst ad st).map fun v => v.category).sum ≤ 8) (hd : decode cc pc = .ok (.invokespecial idx, 3)) (kk : WN l γ R nL L0 ad0 (pc + 3) lv st sh' σ' (kc + mc) (ks + ms)) : WN l γ R nL L0 ad0 pc lv (.inr k0 :: st) sh σ kc ks := by
  obtain ⟨p, e, s, m, args, below, meth, c, D, dA, A, Q⟩ := γ
  obtain ⟨hx, hb, hml, hown, hts, hnw, hK, hA, hlk2, hao⟩ := hc
  intro ad H locs ls hcl hok had hL hP hD hS hl
  have hM2 := hM hcl D dA ad H.size
  refine n_run hcl (ok_pop hok) had hL hD hA hS hl hle (hcl' hcl) (va_runI (As := []) (rest := mst ad st) ⟨hx, hb, hml, hown, hts⟩ hM2 (cwI 0 hts (goodG (code_all hcd)) rfl rfl rfl (hts _ hini) (hts _ hlk) (hts _ him) hy1 hmh ⟨hd'.1, ?_⟩) ⟨Npre_blind, preN_U hK hD hP hnw hao⟩ rfl rfl hl.1 rfl (lv_room (hW ad)) hd hcm) kk
  show 8 + (n + 11) + 48 * d' ≤ R.locals
  omega
end NCALLS
