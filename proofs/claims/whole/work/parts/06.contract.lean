/-! CONTRACTS OVER THE WORLD. fh_Z is what stands outside the world and never changes (statics, mirrors, texts): it stands in a part of its own, ahead of this one, with fh_Z.warm, fh_Z.kept, fh_Z.narrow. -/
def fh_Pre (E : fh_E) (h : fh_H) (sz : Nat) (av : List Value) : Array Value → State → Prop := va_Pc av (fun U => U.heap.size = sz ∧ fh_P E.1 vwCl (fun _ => True) h U.heap ∧ va_K E.1 vwCl (fh_ty E) U ∧ fh_Z E (fh_A h sz) U U.heap)
def fh_Post (E : fh_E) (post : Option Value → fh_H → Prop) (A : Nat → Prop) : Array Value → State → Outcome → State → Prop := fun _ st oc t => (∃ (r : Option Value) (h1 : fh_H), oc = .returned r ∧ post r h1 ∧ fh_P E.1 vwCl A h1 t.heap) ∧ va_F A st t
def fh_Met (l : Launch) (y : MethodName) (ws : List Cond) (rm : Room) (E : fh_E) (av : List Value) (h : fh_H) (post : Option Value → fh_H → Prop) (mc ms : Nat) : Prop :=
  ∀ sz : Nat, Met l y ws rm (fh_Pre E h sz av) (fh_Post E post (fh_A h sz)) mc ms (fh_A h sz)
theorem fh_Met.mono {l : Launch} {y : MethodName} {ws : List Cond} {rm : Room} {E : fh_E} {av : List Value} {h : fh_H} {post post' : Option Value → fh_H → Prop} {mc ms : Nat} (hM : fh_Met l y ws rm E av h post mc ms) (hp : ∀ r h1, post r h1 → post' r h1) : fh_Met l y ws rm E av h post' mc ms := by
  intro sz p e ha hc hk s m args below hf happ hP hK
  obtain ⟨n, o, h1, h2, h3, ⟨⟨r, g, q1, q2, q3⟩, h5⟩, h6⟩ := hM sz p e ha hc hk s m args below hf happ hP hK
  exact ⟨n, o, h1, h2, h3, ⟨⟨r, g, q1, hp r g q2, q3⟩, h5⟩, h6⟩
theorem fh_blind {E : fh_E} {h : fh_H} {sz : Nat} {av : List Value} : FrameBlind (fh_Pre E h sz av) := by
  intro a U g mk q
  obtain ⟨q0, q1, q2, q3, q4⟩ := q
  exact ⟨q0, q1, q2, va_K.moved (u := U) (U := U.calling g mk a) (Vm.Alike.refl U.vm) q3, fh_Z.warm (u := U) (U := U.calling g mk a) (State.WarmedH.refl U) q4⟩
/-- a method's walk, from its entry -/
theorem fh_ofW {l : Launch} {y : MethodName} {ws ws' : List Cond} {rm : Room} {E : fh_E} {av : List Value} {h : fh_H} {post : Option Value → fh_H → Prop} {mc ms : Nat} {cc : ByteArray} {maxL : Nat} {ret : Option FieldType}
    (hy : plainName y.cls = true) (hw : ws = Cond.code y cc maxL ret :: ws') (hlen : (lg_sl av).length ≤ maxL)
    (body : ∀ (p : Program) (e : Env) (s : State) (m : MethodId) (below : List Frame) (meth : Method) (c : Code) (A : Nat → Prop) (ls : Array Slot), p.tables.exec = Jvm.exec → c.code = cc → meth.sig.returnType = ret → c.maxLocals = maxL → s.vm.findClass y.cls = some m.cls → (∀ w ∈ ws, w.before av.toArray s = true) → meth.locks = false → meth.name = y.name → c.exceptionTable.isEmpty = true → l.admits e →
      (∀ q : Nat, s.heap.size ≤ q → A q) → va_K E.1 vwCl (fh_ty E) s → fh_Z E A s s.heap → fh_P E.1 vwCl A h s.heap → va_S A s.heap s.heap [] → lv_has ls maxL (lv_args 0 av) →
      W p l e rm s m av.toArray below meth c s.heap [] 0 0 (MQ below (fh_Post E post A) av.toArray s mc ms A) (F0 m 0 ls [])) : fh_Met l y ws rm E av h post mc ms := by
  intro sz
  refine Met.ofW (cc := cc) (maxL := maxL) (ret := ret) hy hw ?_
  intro p e s m args below meth c s₁ B hml hv
  obtain ⟨rfl, hsz, hP, hK, hZ⟩ := hv
  subst hsz
  have hts := atoms_spec (ws := ws) B.pre
  have hl := lv_entry av (n := maxL) hlen
  rw [lg_entry_eq]
  generalize (lg_sl av ++ List.replicate (maxL - (lg_sl av).length) Slot.unset).toArray = ls at hl ⊢
  have hcode : (Cond.code y cc maxL ret).before av.toArray s = true := hts _ (by rw [hw]; exact List.mem_cons_self)
  exact body p e s m below meth c (fh_A h s.heap.size) ls B.exec B.bytes B.returns hml (findClass_of_methodNamed B.named) hts B.notSynchronized (name_of_methodNamed B.named B.method).1 (BodyLoose.noHandlers B hcode) B.admits (fun q hq => Or.inr hq) hK hZ (hP.self _) va_S.rf hl
section FHC
variable {p : Program} {l : Launch} {e : Env} {R : Room} {s : State} {m : MethodId} {args : Array Value} {below : List Frame} {meth : Method} {c : Code} {H : Heap} {locs : List Loc} {cells slots : Nat} {Q : State → Prop}
variable {cc : ByteArray} {pc : Nat} {ls : Array Slot} {rest : List Value} {E : fh_E} {A : Nat → Prop} {h : fh_H} {post : Option Value → fh_H → Prop} {mc ms : Nat}
theorem fh_sub (hP : fh_P E.1 vwCl A h H) (hS : va_S A s.heap H locs) (hA : ∀ q : Nat, s.heap.size ≤ q → A q) : ∀ q, fh_A h H.size q → A q := by
  intro q hq
  rcases hq with ⟨x, hx⟩ | hq
  · exact (hP.get hx).2
  · exact hA q (Nat.le_trans hS.1 hq)
theorem fh_preS {av : List Value} (hK : va_K E.1 vwCl (fh_ty E) s) (hZ : fh_Z E A s s.heap) (hP : fh_P E.1 vwCl A h H) (hS : va_S A s.heap H locs) (hA : ∀ q : Nat, s.heap.size ≤ q → A q) : PreS s H (fh_Pre E h H.size av) av := by
  refine ⟨fh_blind, fun U hU hW => ⟨rfl, by rw [hU], ?_, va_K.moved hW.alike hK, ?_⟩⟩
  · rw [hU]; exact hP.weaken (fun _ _ _ => trivial)
  · rw [hU]; exact fh_Z.warm hW ((hZ.kept (fun a h1 h2 => hS.2.1 a h1 h2)).narrow (fh_sub hP hS hA))
/-- behind a call -/
theorem fh_call {st0 : List Value} {a : Array Value} (hr : va_Run p l e R s m args below meth c H locs cells slots mc ms (F0 m pc ls st0) rest (fh_Post E post (fh_A h H.size) a) (fh_A h H.size)) (hP : fh_P E.1 vwCl A h H) (hS : va_S A s.heap H locs) (hA : ∀ q : Nat, s.heap.size ≤ q → A q)
    (kk : ∀ (r : Option Value) (h1 : fh_H) (H1 : Heap) (locs1 : List Loc), post r h1 → fh_P E.1 vwCl A h1 H1 → va_S A s.heap H1 locs1 → W p l e R s m args below meth c H1 locs1 (cells + mc) (slots + ms) Q (F0 m (pc + 3) ls (r.toList ++ rest))) : W p l e R s m args below meth c H locs cells slots Q (F0 m pc ls st0) := by
  have hsub := fh_sub hP hS hA
  intro T hT X
  obtain ⟨v, st₀, t, T', L, h0, X', hL, e1, e2, ⟨⟨r, h1, hv, hp, hP1⟩, hz, hk⟩, st⟩ := hr T hT X
  cases hv
  rw [h0] at hz hk
  obtain ⟨t2, a1, b1⟩ := kk v h1 T'.heap (locs ++ L) hp (by rw [e1]; exact hP1.weaken (fun q _ hq => hsub q hq))
    ⟨Nat.le_trans hS.1 (by rw [e1]; exact hz), fun q h1 h2 => by rw [e1, hk q (Nat.lt_of_lt_of_le h1 hS.1) (fun z => h2 (hsub q z))]; exact hS.2.1 q h1 h2, fun q hq => by
      rcases List.mem_append.mp hq with h | h
      · exact hS.2.2 q h
      · exact hsub _ (hL q h)⟩ T' rfl X'
  exact ⟨t2, st t2 a1, b1⟩
theorem fh_iret {v : Int32} (hexec : p.tables.exec = Jvm.exec) (hb : c.code = cc) (hr : meth.sig.returnType = some .int) (hlocks : meth.locks = false) (hc : cells ≤ mc) (hs : slots ≤ ms) (hP : fh_P E.1 vwCl A h H) (hS : va_S A s.heap H locs) (hpost : post (some (.int v)) h) (hdg : decode cc pc = .ok (.ireturn, 1)) : W p l e R s m args below meth c H locs cells slots (MQ below (fh_Post E post A) args s mc ms A) (F0 m pc ls [.int v]) :=
  W.widen hc hs (W.iret hexec hb hr (fun t ht _ => ⟨⟨_, h, rfl, hpost, by rw [ht]; exact hP⟩, hS.F ht⟩) hS.2.2 hdg hlocks)
theorem fh_zret {v : Int32} {ty : FieldType} (hexec : p.tables.exec = Jvm.exec) (hb : c.code = cc) (hr : meth.sig.returnType = some ty) (hn : narrow ty (.int v) = .int v) (hlocks : meth.locks = false) (hc : cells ≤ mc) (hs : slots ≤ ms) (hP : fh_P E.1 vwCl A h H) (hS : va_S A s.heap H locs) (hpost : post (some (.int v)) h) (hdg : decode cc pc = .ok (.ireturn, 1)) : W p l e R s m args below meth c H locs cells slots (MQ below (fh_Post E post A) args s mc ms A) (F0 m pc ls [.int v]) :=
  W.widen hc hs (W.zret hexec hb hr hn (fun t ht _ => ⟨⟨_, h, rfl, hpost, by rw [ht]; exact hP⟩, hS.F ht⟩) hS.2.2 hdg hlocks)
theorem fh_vret (hexec : p.tables.exec = Jvm.exec) (hb : c.code = cc) (hr : meth.sig.returnType = none) (hlocks : meth.locks = false) (hc : cells ≤ mc) (hs : slots ≤ ms) (hP : fh_P E.1 vwCl A h H) (hS : va_S A s.heap H locs) (hpost : post none h) (hdg : decode cc pc = .ok (.return_, 1)) : W p l e R s m args below meth c H locs cells slots (MQ below (fh_Post E post A) args s mc ms A) (F0 m pc ls []) :=
  W.widen hc hs (W.vret hexec hb hr (fun t ht _ => ⟨⟨_, h, rfl, hpost, by rw [ht]; exact hP⟩, hS.F ht⟩) hS.2.2 hdg hlocks)
theorem fh_aret {v : Value} {rt : FieldType} (hexec : p.tables.exec = Jvm.exec) (hb : c.code = cc) (hr : meth.sig.returnType = some rt) (hrt : (∃ n, rt = .object n) ∨ ∃ t, rt = .array t) (hv : v = .null ∨ ∃ a, v = .ref a) (hlocks : meth.locks = false) (hc : cells ≤ mc) (hs : slots ≤ ms) (hP : fh_P E.1 vwCl A h H) (hS : va_S A s.heap H locs) (hpost : post (some v) h) (hdg : decode cc pc = .ok (.areturn, 1)) : W p l e R s m args below meth c H locs cells slots (MQ below (fh_Post E post A) args s mc ms A) (F0 m pc ls [v]) :=
  W.widen hc hs (W.aret hexec hb hr hrt hv (fun t ht _ => ⟨⟨_, h, rfl, hpost, by rw [ht]; exact hP⟩, hS.F ht⟩) hS.2.2 hdg hlocks)
end FHC
section FHK
variable {p : Program} {l : Launch} {e : Env} {R : Room} {s : State} {m : MethodId} {args : Array Value} {below : List Frame} {meth : Method} {c : Code} {H : Heap} {locs : List Loc} {cells slots : Nat} {Q : State → Prop}
variable {pc : Nat} {ls : Array Slot} {rest As : List Value} {E : fh_E} {A : Nat → Prop} {h : fh_H} {post : Option Value → fh_H → Prop}
variable {y : MethodName} {bytes cc : ByteArray} {maxL nL mc ms n index : Nat} {ret : Option FieldType} {ws : List Cond} {rm : Room} {Ts : List Cond} {own C host : String} {b : Nat}
theorem fh_callS (S : CallFix p m c cc nL s args Ts own) (hM : fh_Met l y ws rm E As h post mc ms) (cw : CallB R s args own index y bytes maxL ret ws rm mc ms n ∧ (Cond.static y).before args s = true) (hK : va_K E.1 vwCl (fh_ty E) s) (hZ : fh_Z E A s s.heap) (hP : fh_P E.1 vwCl A h H) (hS : va_S A s.heap H locs) (hA : ∀ q : Nat, s.heap.size ≤ q → A q) (hn : As.length = n) (hsize : ls.size = nL) {st0 : List Value} (hst : st0 = As.reverse ++ rest) (hW : (rest.map fun v => v.category).sum ≤ 8) (hdg : decode cc pc = .ok (.invokestatic index, 3)) (hf : cells + mc ≤ R.cells ∧ slots + ms ≤ R.slots)
    (kk : ∀ (r : Option Value) (h1 : fh_H) (H1 : Heap) (locs1 : List Loc), post r h1 → fh_P E.1 vwCl A h1 H1 → va_S A s.heap H1 locs1 → W p l e R s m args below meth c H1 locs1 (cells + mc) (slots + ms) Q (F0 m (pc + 3) ls (r.toList ++ rest))) : W p l e R s m args below meth c H locs cells slots Q (F0 m pc ls st0) := by
  subst hst
  exact fh_call (va_runS S (hM H.size) cw (fh_preS hK hZ hP hS hA) rfl hn hsize rfl (lv_room hW) hdg hf) hP hS hA kk
theorem fh_callI (S : CallFix p m c cc nL s args Ts own) (hM : fh_Met l y ws rm E (.ref b :: As) h post mc ms) (cw : CallB R s args own index y bytes maxL none ws rm mc ms n ∧ y.name = "<init>" ∧ (Cond.instanceMethod y).before args s = true) (hK : va_K E.1 vwCl (fh_ty E) s) (hZ : fh_Z E A s s.heap) (hP : fh_P E.1 vwCl A h H) (hS : va_S A s.heap H locs) (hA : ∀ q : Nat, s.heap.size ≤ q → A q) (hn : As.length = n) (hsize : ls.size = nL) {st0 : List Value} (hst : st0 = As.reverse ++ .ref b :: rest) (hW : (rest.map fun v => v.category).sum ≤ 8) (hdg : decode cc pc = .ok (.invokespecial index, 3)) (hf : cells + mc ≤ R.cells ∧ slots + ms ≤ R.slots)
    (kk : ∀ (r : Option Value) (h1 : fh_H) (H1 : Heap) (locs1 : List Loc), post r h1 → fh_P E.1 vwCl A h1 H1 → va_S A s.heap H1 locs1 → W p l e R s m args below meth c H1 locs1 (cells + mc) (slots + ms) Q (F0 m (pc + 3) ls (r.toList ++ rest))) : W p l e R s m args below meth c H locs cells slots Q (F0 m pc ls st0) := by
  subst hst
  exact fh_call (va_runI S (hM H.size) cw (fh_preS hK hZ hP hS hA) rfl hn hsize rfl (lv_room hW) hdg hf) hP hS hA kk
theorem fh_callV (S : CallFix p m c cc nL s args Ts own) (hM : fh_Met l y ws rm E (.ref b :: As) h post mc ms) (cw : CallW R s args own C index y bytes maxL ret ws rm mc ms n) {ci : Nat} {T : u_T} {N : Nat} (hci : vwCl[ci]? = some (C, T, N)) {fs : List Value} (hob : h b = some (.inr (ci, fs))) (hK : va_K E.1 vwCl (fh_ty E) s) (hZ : fh_Z E A s s.heap) (hP : fh_P E.1 vwCl A h H) (hS : va_S A s.heap H locs) (hA : ∀ q : Nat, s.heap.size ≤ q → A q) (hn : As.length = n) (hsize : ls.size = nL) {st0 : List Value} (hst : st0 = As.reverse ++ .ref b :: rest) (hW : (rest.map fun v => v.category).sum ≤ 8) (hdg : decode cc pc = .ok (.invokevirtual index, 3)) (hf : cells + mc ≤ R.cells ∧ slots + ms ≤ R.slots)
    (kk : ∀ (r : Option Value) (h1 : fh_H) (H1 : Heap) (locs1 : List Loc), post r h1 → fh_P E.1 vwCl A h1 H1 → va_S A s.heap H1 locs1 → W p l e R s m args below meth c H1 locs1 (cells + mc) (slots + ms) Q (F0 m (pc + 3) ls (r.toList ++ rest))) : W p l e R s m args below meth c H locs cells slots Q (F0 m pc ls st0) := by
  subst hst
  have hp := fh_preS (av := .ref b :: As) hK hZ hP hS hA
  exact fh_call (va_runV S (hM H.size) cw ⟨hp.1, fh_recv hK hP hci hob, hp.2⟩ rfl hn hsize rfl (lv_room hW) hdg hf) hP hS hA kk
theorem fh_callVN (S : CallFix p m c cc nL s args Ts own) (hM : fh_Met l y ws rm E (.ref b :: As) h post mc ms) (cw : va_CN R s args own index y host bytes maxL ret ws rm mc ms n ∧ (Cond.instanceMethod y).before args s = true ∧ (Cond.selects C y y).before args s = true) {ci : Nat} {T : u_T} {N : Nat} (hci : vwCl[ci]? = some (C, T, N)) {fs : List Value} (hob : h b = some (.inr (ci, fs))) (hK : va_K E.1 vwCl (fh_ty E) s) (hZ : fh_Z E A s s.heap) (hP : fh_P E.1 vwCl A h H) (hS : va_S A s.heap H locs) (hA : ∀ q : Nat, s.heap.size ≤ q → A q) (hn : As.length = n) (hsize : ls.size = nL) {st0 : List Value} (hst : st0 = As.reverse ++ .ref b :: rest) (hW : (rest.map fun v => v.category).sum ≤ 8) (hdg : decode cc pc = .ok (.invokevirtual index, 3)) (hf : cells + mc ≤ R.cells ∧ slots + ms ≤ R.slots)
    (kk : ∀ (r : Option Value) (h1 : fh_H) (H1 : Heap) (locs1 : List Loc), post r h1 → fh_P E.1 vwCl A h1 H1 → va_S A s.heap H1 locs1 → W p l e R s m args below meth c H1 locs1 (cells + mc) (slots + ms) Q (F0 m (pc + 3) ls (r.toList ++ rest))) : W p l e R s m args below meth c H locs cells slots Q (F0 m pc ls st0) := by
  subst hst
  have hp := fh_preS (av := .ref b :: As) hK hZ hP hS hA
  exact fh_call (va_runVN S (hM H.size) cw ⟨hp.1, fh_recv hK hP hci hob, hp.2⟩ rfl hn hsize rfl (lv_room hW) hdg hf) hP hS hA kk
end FHK
