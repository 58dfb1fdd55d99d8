/-! THE CALL OF A METHOD THAT THROWS ONE OF THE THREE: the caller throws it, too. A PURE METHOD: it leaves the heap. -/
section TK
variable {p : Program} {l : Launch} {e : Env} {R : Room} {s : State} {m : MethodId} {args : Array Value} {below : List Frame} {meth : Method} {c : Code} {H : Heap} {locs : List Loc} {cells slots : Nat} {Q : State → Prop}
variable {pc : Nat} {ls : Array Slot} {rest As : List Value} {E : fh_E} {A : Nat → Prop} {h : fh_H} {X : String}
variable {y : MethodName} {bytes cc : ByteArray} {maxL nL mc ms n index : Nat} {ret : Option FieldType} {ws : List Cond} {rm : Room} {Ts : List Cond} {own C : String} {b : Nat}
theorem th_pass {st0 : List Value} {a : Array Value} (hr : th_Run p l e R s m args below meth c H locs cells slots mc ms (F0 m pc ls st0) rest (fh_Thr E X h (fh_A h H.size) a) (fh_A h H.size)) (hP : fh_P E.1 vwCl A h H) (hS : va_S A s.heap H locs) (hA : ∀ q : Nat, s.heap.size ≤ q → A q) (hnoh : c.exceptionTable.isEmpty = true) (hlocks : meth.locks = false) {mcT msT : Nat} (hc : cells + mc ≤ mcT) (hs : slots + ms ≤ msT) :
    W p l e R s m args below meth c H locs cells slots (th_Q below (fh_Thr E X h A) args s mcT msT A) (F0 m pc ls st0) := by
  have hsub := fh_sub hP hS hA
  have := th_leave (Qc := fh_Thr E X h A) (free0 := A) hr hnoh (fun x st₀ t t2 h0 hq e1 e2 => by
    obtain ⟨⟨x', hx, ⟨ce, q1, q2, q3⟩, hP1⟩, hz, hk⟩ := hq
    cases hx
    rw [h0] at hz hk
    refine ⟨⟨_, rfl, ⟨ce, by rw [e1]; exact q1, by rw [e2]; exact q2, q3⟩, by rw [e1]; exact hP1.weaken (fun q _ hq => hsub q hq)⟩, Nat.le_trans hS.1 (by rw [e1]; exact hz), fun q g1 g2 => ?_⟩
    rw [e1, hk q (Nat.lt_of_lt_of_le g1 hS.1) (fun z => g2 (hsub q z))]; exact hS.2.1 q g1 g2) hS.2.2 hsub hlocks
  intro T hT X0
  obtain ⟨t, a1, o, b1, b2, b3, L, ⟨b4, b5, b6⟩, b7⟩ := this T hT X0
  exact ⟨t, a1, o, b1, b2, b3, L, ⟨b4, b5, b6.mono hc hs⟩, b7⟩
theorem th_callS (S : CallFix p m c cc nL s args Ts own) (hM : th_M l y ws rm E As h X mc ms) (cw : CallB R s args own index y bytes maxL ret ws rm mc ms n ∧ (Cond.static y).before args s = true) (hK : va_K E.1 vwCl (fh_ty E) s) (hZ : fh_Z E A s s.heap) (hP : fh_P E.1 vwCl A h H) (hS : va_S A s.heap H locs) (hA : ∀ q : Nat, s.heap.size ≤ q → A q) (hn : As.length = n) (hsize : ls.size = nL) {st0 : List Value} (hst : st0 = As.reverse ++ rest) (hW : (rest.map fun v => v.category).sum ≤ 8) (hdg : decode cc pc = .ok (.invokestatic index, 3)) (hf : cells + mc ≤ R.cells ∧ slots + ms ≤ R.slots)
    (hnoh : c.exceptionTable.isEmpty = true) (hlocks : meth.locks = false) {mcT msT : Nat} (hc : cells + mc ≤ mcT) (hs : slots + ms ≤ msT) : W p l e R s m args below meth c H locs cells slots (th_Q below (fh_Thr E X h A) args s mcT msT A) (F0 m pc ls st0) := by
  subst hst
  exact th_pass (th_runS S (hM H.size) cw (fh_preS hK hZ hP hS hA) rfl hn hsize rfl (lv_room hW) hdg hf) hP hS hA hnoh hlocks hc hs
theorem th_callV (S : CallFix p m c cc nL s args Ts own) (hM : th_M l y ws rm E (.ref b :: As) h X mc ms) (cw : CallW R s args own C index y bytes maxL ret ws rm mc ms n) {ci : Nat} {T : u_T} {N : Nat} (hci : vwCl[ci]? = some (C, T, N)) {fs : List Value} (hob : h b = some (.inr (ci, fs))) (hK : va_K E.1 vwCl (fh_ty E) s) (hZ : fh_Z E A s s.heap) (hP : fh_P E.1 vwCl A h H) (hS : va_S A s.heap H locs) (hA : ∀ q : Nat, s.heap.size ≤ q → A q) (hn : As.length = n) (hsize : ls.size = nL) {st0 : List Value} (hst : st0 = As.reverse ++ .ref b :: rest) (hW : (rest.map fun v => v.category).sum ≤ 8) (hdg : decode cc pc = .ok (.invokevirtual index, 3)) (hf : cells + mc ≤ R.cells ∧ slots + ms ≤ R.slots)
    (hnoh : c.exceptionTable.isEmpty = true) (hlocks : meth.locks = false) {mcT msT : Nat} (hc : cells + mc ≤ mcT) (hs : slots + ms ≤ msT) : W p l e R s m args below meth c H locs cells slots (th_Q below (fh_Thr E X h A) args s mcT msT A) (F0 m pc ls st0) := by
  subst hst
  have hp := fh_preS (av := .ref b :: As) hK hZ hP hS hA
  exact th_pass (th_runV S (hM H.size) cw ⟨hp.1, fh_recv hK hP hci hob, hp.2⟩ rfl hn hsize rfl (lv_room hW) hdg hf) hP hS hA hnoh hlocks hc hs
/-- a pure method: its answer; it leaves the heap, and it makes nothing -/
def fh_Pu (post : Option Value → Prop) : Array Value → State → Outcome → State → Prop := fun _ st oc t => ∃ r : Option Value, oc = .returned r ∧ post r ∧ t.heap = st.heap
def fh_MP (l : Launch) (y : MethodName) (ws : List Cond) (rm : Room) (E : fh_E) (av : List Value) (h : fh_H) (post : Option Value → Prop) : Prop := ∀ sz : Nat, Met l y ws rm (fh_Pre E h sz av) (fh_Pu post) 0 0 (fun _ => False)
theorem fh_ofWP {l : Launch} {y : MethodName} {ws ws' : List Cond} {rm : Room} {E : fh_E} {av : List Value} {h : fh_H} {post : Option Value → Prop} {cc : ByteArray} {maxL : Nat} {ret : Option FieldType}
    (hy : plainName y.cls = true) (hw : ws = Cond.code y cc maxL ret :: ws') (hlen : (lg_sl av).length ≤ maxL)
    (body : ∀ (p : Program) (e : Env) (s : State) (m : MethodId) (below : List Frame) (meth : Method) (c : Code) (A : Nat → Prop) (ls : Array Slot), p.tables.exec = Jvm.exec → c.code = cc → meth.sig.returnType = ret → c.maxLocals = maxL → s.vm.findClass y.cls = some m.cls → (∀ w ∈ ws, w.before av.toArray s = true) → meth.locks = false → meth.name = y.name → c.exceptionTable.isEmpty = true → l.admits e →
      (∀ q : Nat, s.heap.size ≤ q → A q) → va_K E.1 vwCl (fh_ty E) s → fh_Z E A s s.heap → fh_P E.1 vwCl A h s.heap → va_S A s.heap s.heap [] → lv_has ls maxL (lv_args 0 av) →
      W p l e rm s m av.toArray below meth c s.heap [] 0 0 (MQ below (fh_Pu post) av.toArray s 0 0 (fun _ => False)) (F0 m 0 ls [])) : fh_MP l y ws rm E av h post := by
  intro sz
  refine Met.ofW (cc := cc) (maxL := maxL) (ret := ret) hy hw ?_
  intro p e s m args below meth c s₁ B hml hv
  obtain ⟨rfl, hsz, hP, hK, hZ⟩ := hv
  subst hsz
  have hts := atoms_spec (ws := ws) B.pre
  have hl := lv_entry av (n := maxL) hlen
  rw [lg_entry_eq]
  generalize (lg_sl av ++ List.replicate (maxL - (lg_sl av).length) Slot.unset).toArray = ls at hl ⊢
  have hcode : (Cond.code y cc maxL ret).before av.toArray s = true := hts _ (by rw [hw]; exact List.mem_cons_self)
  exact body p e s m below meth c (fh_A h s.heap.size) ls B.exec B.bytes B.returns hml (findClass_of_methodNamed B.named) hts B.notSynchronized (name_of_methodNamed B.named B.method).1 (BodyLoose.noHandlers B hcode) B.admits (fun q hq => Or.inr hq) hK hZ (hP.self _) va_S.rf hl
theorem fh_iretP {v : Int32} {post : Option Value → Prop} (hexec : p.tables.exec = Jvm.exec) (hb : c.code = cc) (hr : meth.sig.returnType = some .int) (hlocks : meth.locks = false) (hpost : post (some (.int v))) (hdg : decode cc pc = .ok (.ireturn, 1)) : W p l e R s m args below meth c s.heap [] 0 0 (MQ below (fh_Pu post) args s 0 0 (fun _ => False)) (F0 m pc ls [.int v]) :=
  W.iret hexec hb hr (fun t ht _ => ⟨_, rfl, hpost, ht⟩) (fun q hq => by cases hq) hdg hlocks
theorem fh_callVP {post : Option Value → Prop} (S : CallFix p m c cc nL s args Ts own) (hM : fh_MP l y ws rm E (.ref b :: As) h post) (cw : CallW R s args own C index y bytes maxL ret ws rm 0 0 n) {ci : Nat} {T : u_T} {N : Nat} (hci : vwCl[ci]? = some (C, T, N)) {fs : List Value} (hob : h b = some (.inr (ci, fs))) (hK : va_K E.1 vwCl (fh_ty E) s) (hZ : fh_Z E A s s.heap) (hP : fh_P E.1 vwCl A h s.heap) (hA : ∀ q : Nat, s.heap.size ≤ q → A q) (hn : As.length = n) (hsize : ls.size = nL) {st0 : List Value} (hst : st0 = As.reverse ++ .ref b :: rest) (hW : (rest.map fun v => v.category).sum ≤ 8) (hdg : decode cc pc = .ok (.invokevirtual index, 3)) (hf : cells + 0 ≤ R.cells ∧ slots + 0 ≤ R.slots)
    (kk : ∀ r : Option Value, post r → W p l e R s m args below meth c s.heap [] cells slots Q (F0 m (pc + 3) ls (r.toList ++ rest))) : W p l e R s m args below meth c s.heap [] cells slots Q (F0 m pc ls st0) := by
  subst hst
  have hp := fh_preS (av := .ref b :: As) hK hZ hP (va_S.rf) hA
  have hr : va_Run p l e R s m args below meth c s.heap [] cells slots 0 0 (F0 m pc ls (As.reverse ++ .ref b :: rest)) rest (fh_Pu post (Value.ref b :: As).toArray) (fun _ => False) := va_runV S (hM s.heap.size) cw ⟨hp.1, fh_recv hK hP hci hob, hp.2⟩ rfl hn hsize rfl (lv_room hW) hdg hf
  intro T0 hT X0
  obtain ⟨v, st₀, t, T', L, h0, X', hL, e1, e2, ⟨r, hv, hp2, hh⟩, st⟩ := hr T0 hT X0
  cases hv
  cases L with
  | nil =>
    obtain ⟨t2, a1, b1⟩ := kk v hp2 T' (by rw [e1, hh, h0]) (by simpa using X')
    exact ⟨t2, st t2 a1, b1⟩
  | cons q L => exact (hL q List.mem_cons_self).elim
end TK
