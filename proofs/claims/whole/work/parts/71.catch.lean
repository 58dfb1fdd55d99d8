/-! A THROW IS CAUGHT: the catch's class is resolved then and there (cold or not). A METHOD WITH A TABLE OF HANDLERS: its contract, the call of it. -/
theorem lw_cold {E : CtlPost} {e : Env} {d : Bool} {acts : List Action} {s : State} {f : JFrame} {a : Addr} {Q : Handler → Pre} {x : ExceptionTableEntry} {t : List ExceptionTableEntry} {c : ClassId} {vm' : Vm} (hx : covers x f.pc = true) (h0 : x.catchType ≠ 0)
    (hg : (Jvm.resolveClass f.method.cls x.catchType).Gives e.toSetting s.vm (.ok c) vm') (hr : vm'.classReady f.method.cls x.catchType c) (hsz : vm'.classes.size ≤ s.vm.classes.size) :
    wp (findHandler.go f a (x :: t)) Q E e d acts s ↔ wp (findHandler.go f a (x :: t)) Q E e d acts (s.setVm vm') := by
  obtain ⟨ha, ht⟩ := hg.op (op := VmOp.resolveClass f.method.cls x.catchType) rfl
  obtain ⟨k, hkd, hres⟩ := hr
  simp only [covers] at hx
  simp [findHandler.go, hx, h0, resolveClass_memo (vm := vm') e hkd hres, ha, ht, hsz, VmOp.dirties, VmOp.acts]
  exact Iff.rfl
/-- the search ends so, and leaves the tables vm' -/
def lw_F (e : Env) (s : State) (f : JFrame) (a : Addr) (h : Handler) (s2 : State) : Prop := ∀ (Q : Handler → Pre) (E : CtlPost) (d : Bool) (acts : List Action), wp (findHandler f a) Q E e d acts s ↔ Q h d acts s2
theorem lw_step {e : Env} {s s2 : State} {a : Addr} {f : JFrame} {r : List Frame} {pc : Nat} (hfind : lw_F e s f a (.found pc) s2) :
    (stepThrowing e s a (.java f :: r)).Is (s2.setFrames (.java { f with pc := pc, stack := [.ref a] } :: r)) [] := by
  simp only [stepThrowing, searchFrame, vmDo]
  generalize hr : Sem.go _ e false [] s = res
  obtain ⟨as, rfl, ha⟩ := Sem.eq_ok_of hr (a := Handler.found pc) (s' := s2) (acts' := []) (by simp [hfind _ _ _ _])
  exact ⟨rfl, ha⟩
theorem lw_caught {tb : Tables} {e : Env} {s target : State} {g : JFrame} {c : Code} {below : List Frame} {a : Addr} {vm' : Vm} (h : At s g.method c below) {pc : Nat} (hfind : lw_F e ((s.setTop g).pushFrame (.throwing a)) g a (.found pc) (((s.setTop g).pushFrame (.throwing a)).setVm vm'))
    (hrest : Steps tb e below ((s.setVm vm').setTop { g with pc := pc, stack := [.ref a] }) target) :
    Steps tb e below ((s.setTop g).pushFrame (.throwing a)) target := by
  obtain ⟨hgo, hw⟩ := h.throwing a
  refine Steps.head hgo hw ?_
  rw [stepThread_throwing (frames_entered h.top _), (lw_step (s := (s.setTop g).pushFrame (.throwing a)) hfind).1]
  obtain ⟨g₀, hg⟩ := Option.isSome_iff_exists.mp h.top
  obtain ⟨r, hr⟩ := State.topJava?_eq_some.mp hg
  have hr2 : (s.setVm vm').frames = .java g₀ :: r := hr
  rw [State.setTop_of_frames _ hr2] at hrest
  rw [State.pushFrame, State.setTop_of_frames _ hr]
  rw [show ((s.setFrames (.java g :: r)).setFrames (.throwing a :: (s.setFrames (.java g :: r)).frames)).setVm vm' = ((s.setVm vm').setFrames (.java g :: r)).setFrames (.throwing a :: (s.setFrames (.java g :: r)).frames) from rfl, State.setFrames_setFrames, State.setFrames_setFrames, hr]
  exact hrest
theorem lw_self (vm : Vm) (c : ClassId) : vm.assignable c c = true := by
  show vm.assignableAux (255 + 1) c c = true
  rw [Vm.assignableAux]
  simp
section LWC
variable {p : Program} {l : Launch} {e : Env} {R : Room} {s : State} {m : MethodId} {args : Array Value} {below : List Frame} {meth : Method} {c : Code} {H : Heap} {locs : List Loc} {cells slots : Nat} {Q : State → Prop}
variable {pc : Nat} {ls : Array Slot} {rest As : List Value} {E : fh_E} {A : Nat → Prop} {h : fh_H} {X Y : String} {mc ms : Nat} {own : String}
/-- the first row of the table takes it -/
theorem lw_catch1 {st0 : List Value} {a : Array Value} {hh : List (Nat × Nat × Nat × Nat)} {b0 b1 hp ix : Nat} (hr : th_Run p l e R s m args below meth c H locs cells slots mc ms (F0 m pc ls st0) rest (fh_Thr E X h (fh_A h H.size) a) (fh_A h H.size)) (hP : fh_P E.1 vwCl A h H) (hS : va_S A s.heap H locs) (hA : ∀ q : Nat, s.heap.size ≤ q → A q)
    (htab : c.exceptionTable.toList = tableOf ((b0, b1, hp, ix) :: hh)) (hcov : (decide (b0 ≤ pc) && decide (pc < b1)) = true) (hix : ix ≠ 0) (hown : s.vm.findClass own = some m.cls) (hcl : (Cond.classLink own ix X).before args s = true)
    (kk : ∀ (x : Addr) (H1 : Heap) (locs1 : List Loc), fh_P E.1 vwCl A h H1 → va_S A s.heap H1 locs1 → W p l e R s m args below meth c H1 locs1 (cells + mc) (slots + ms) Q (F0 m hp ls [.ref x])) : W p l e R s m args below meth c H locs cells slots Q (F0 m pc ls st0) := by
  have hsub := fh_sub hP hS hA
  intro T hT X0
  obtain ⟨x, st₀, t, T', L, h0, X', hL, e1, e2, ⟨⟨x', hx', ⟨ce, q1, q2, q3⟩, hP1⟩, hz, hk⟩, hst⟩ := hr T hT X0
  cases hx'
  rw [h0] at hz hk
  have hpl : e.platform.magicAccessors = ({} : Platform).magicAccessors := by rw [X0.admits.platform]
  obtain ⟨c9, hf9, hcl9⟩ := Cond.classLink_spec hown hcl e.platform hpl
  obtain ⟨hg1, hw1, hr1⟩ := State.classEntry (e := e) X'.warmed hcl9
  have X1 := X'.noted hw1
  have hsz : (T'.vm.noted m.cls ix (.cls c9)).classes.size ≤ T'.vm.classes.size := by no_record
  generalize T'.vm.noted m.cls ix (.cls c9) = vm1 at hg1 hw1 hr1 X1 hsz
  have hce : ce.cls = c9 := by
    rw [← e2, X'.warmed.alike.findClass, hf9] at q2
    exact (Option.some.inj q2).symm
  have hf1 : vm1.findClass X = some c9 := by rw [hw1.alike.findClass]; exact hf9
  obtain ⟨k9, hk9⟩ := Vm.classAt_of_findClass hf1
  have hq1 : ((T'.setTop { F0 m pc ls st0 with stack := rest }).pushFrame (.throwing x)).heap[x]? = some ce := by rw [Stand.throwing_heap, e1]; exact q1
  have hfind : lw_F e ((T'.setTop { F0 m pc ls st0 with stack := rest }).pushFrame (.throwing x)) { F0 m pc ls st0 with stack := rest } x (.found hp) (((T'.setTop { F0 m pc ls st0 with stack := rest }).pushFrame (.throwing x)).setVm vm1) := by
    intro Q E d acts
    rw [W.findHandler_eq (meth := meth) (code := c) (by rw [Stand.throwing_vm, X'.warmed.alike.method?]; exact X'.method) X'.code, htab]
    show wp (findHandler.go _ x (⟨b0, b1, hp, ix⟩ :: tableOf hh)) Q E e d acts _ ↔ _
    rw [lw_cold (vm' := vm1) (f := { F0 m pc ls st0 with stack := rest }) (x := ⟨b0, b1, hp, ix⟩) (c := c9) hcov hix (by rw [Stand.throwing_vm]; exact hg1) hr1 (by rw [Stand.throwing_vm]; exact hsz)]
    rw [W.findHandler_go_class (s := ((T'.setTop { F0 m pc ls st0 with stack := rest }).pushFrame (.throwing x)).setVm vm1) (f := { F0 m pc ls st0 with stack := rest }) (x := ⟨b0, b1, hp, ix⟩) (c := c9) (cell := ce) hcov hix hr1 hq1 (fun k z => by rw [q3] at z; cases z) ⟨k9, by rw [hce]; exact hk9⟩ ⟨k9, hk9⟩]
    rw [if_pos (by rw [hce]; exact lw_self vm1 c9)]
  obtain ⟨t2, a1, w1⟩ := kk x T'.heap (locs ++ L) (by rw [e1]; exact hP1.weaken (fun q _ hq => hsub q hq))
    ⟨Nat.le_trans hS.1 (by rw [e1]; exact hz), fun q h1 h2 => by rw [e1, hk q (Nat.lt_of_lt_of_le h1 hS.1) (fun z => h2 (hsub q z))]; exact hS.2.1 q h1 h2, fun q hq => by
      rcases List.mem_append.mp hq with h | h
      · exact hS.2.2 q h
      · exact hsub _ (hL q h)⟩ (T'.setVm vm1) rfl X1
  exact ⟨t2, hst.trans (lw_caught X'.here hfind a1), w1⟩
/-- the first row passes it on, the second takes it -/
theorem lw_catch2 {st0 : List Value} {a : Array Value} {hh : List (Nat × Nat × Nat × Nat)} {b0 b1 hp0 ix0 b2 b3 hp ix : Nat} (hr : th_Run p l e R s m args below meth c H locs cells slots mc ms (F0 m pc ls st0) rest (fh_Thr E X h (fh_A h H.size) a) (fh_A h H.size)) (hP : fh_P E.1 vwCl A h H) (hS : va_S A s.heap H locs) (hA : ∀ q : Nat, s.heap.size ≤ q → A q)
    (htab : c.exceptionTable.toList = tableOf ((b0, b1, hp0, ix0) :: (b2, b3, hp, ix) :: hh)) (hcov0 : (decide (b0 ≤ pc) && decide (pc < b1)) = true) (hix0 : ix0 ≠ 0) (hcov : (decide (b2 ≤ pc) && decide (pc < b3)) = true) (hix : ix ≠ 0) (hown : s.vm.findClass own = some m.cls) (hcl0 : (Cond.classLink own ix0 Y).before args s = true) (hcl : (Cond.classLink own ix X).before args s = true) (hNC : fh_NC X Y s)
    (kk : ∀ (x : Addr) (H1 : Heap) (locs1 : List Loc), fh_P E.1 vwCl A h H1 → va_S A s.heap H1 locs1 → W p l e R s m args below meth c H1 locs1 (cells + mc) (slots + ms) Q (F0 m hp ls [.ref x])) : W p l e R s m args below meth c H locs cells slots Q (F0 m pc ls st0) := by
  have hsub := fh_sub hP hS hA
  intro T hT X0
  obtain ⟨x, st₀, t, T', L, h0, X', hL, e1, e2, ⟨⟨x', hx', ⟨ce, q1, q2, q3⟩, hP1⟩, hz, hk⟩, hst⟩ := hr T hT X0
  cases hx'
  rw [h0] at hz hk
  have hpl : e.platform.magicAccessors = ({} : Platform).magicAccessors := by rw [X0.admits.platform]
  obtain ⟨c8, hf8, hcl8⟩ := Cond.classLink_spec hown hcl0 e.platform hpl
  obtain ⟨hg0, hw0, hr0⟩ := State.classEntry (e := e) X'.warmed hcl8
  have X1 := X'.noted hw0
  have hsz0 : (T'.vm.noted m.cls ix0 (.cls c8)).classes.size ≤ T'.vm.classes.size := by no_record
  generalize T'.vm.noted m.cls ix0 (.cls c8) = vm0 at hg0 hw0 hr0 X1 hsz0
  obtain ⟨c9, hf9, hcl9⟩ := Cond.classLink_spec hown hcl e.platform hpl
  obtain ⟨hg1, hw1, hr1⟩ := State.classEntry (e := e) X1.warmed hcl9
  have X2 := X1.noted hw1
  have hsz : ((T'.setVm vm0).vm.noted m.cls ix (.cls c9)).classes.size ≤ (T'.setVm vm0).vm.classes.size := by no_record
  generalize (T'.setVm vm0).vm.noted m.cls ix (.cls c9) = vm1 at hg1 hw1 hr1 X2 hsz
  have hce : ce.cls = c9 := by
    rw [← e2, X'.warmed.alike.findClass, hf9] at q2
    exact (Option.some.inj q2).symm
  have hf1 : vm1.findClass X = some c9 := by rw [hw1.alike.findClass]; exact hf9
  have hf0 : vm0.findClass X = some c9 := by rw [hw0.alike.findClass]; exact hf9
  have hfY : vm0.findClass Y = some c8 := by rw [hw0.alike.findClass]; exact hf8
  obtain ⟨k9, hk9⟩ := Vm.classAt_of_findClass hf1
  obtain ⟨k0, hk0⟩ := Vm.classAt_of_findClass hf0
  obtain ⟨k8, hk8⟩ := Vm.classAt_of_findClass hfY
  have hno : vm0.assignable ce.cls c8 = false := by
    rw [hw0.alike.assignable, hce]
    exact hNC c9 c8 hf9 hf8
  have hq1 : ((T'.setTop { F0 m pc ls st0 with stack := rest }).pushFrame (.throwing x)).heap[x]? = some ce := by rw [Stand.throwing_heap, e1]; exact q1
  have hfind : lw_F e ((T'.setTop { F0 m pc ls st0 with stack := rest }).pushFrame (.throwing x)) { F0 m pc ls st0 with stack := rest } x (.found hp) (((T'.setTop { F0 m pc ls st0 with stack := rest }).pushFrame (.throwing x)).setVm vm1) := by
    intro Q E d acts
    rw [W.findHandler_eq (meth := meth) (code := c) (by rw [Stand.throwing_vm, X'.warmed.alike.method?]; exact X'.method) X'.code, htab]
    show wp (findHandler.go _ x (⟨b0, b1, hp0, ix0⟩ :: ⟨b2, b3, hp, ix⟩ :: tableOf hh)) Q E e d acts _ ↔ _
    rw [lw_cold (vm' := vm0) (f := { F0 m pc ls st0 with stack := rest }) (x := ⟨b0, b1, hp0, ix0⟩) (c := c8) hcov0 hix0 (by rw [Stand.throwing_vm]; exact hg0) hr0 (by rw [Stand.throwing_vm]; exact hsz0)]
    rw [W.findHandler_go_class (s := ((T'.setTop { F0 m pc ls st0 with stack := rest }).pushFrame (.throwing x)).setVm vm0) (f := { F0 m pc ls st0 with stack := rest }) (x := ⟨b0, b1, hp0, ix0⟩) (c := c8) (cell := ce) hcov0 hix0 hr0 hq1 (fun k z => by rw [q3] at z; cases z) ⟨k0, by rw [hce]; exact hk0⟩ ⟨k8, hk8⟩]
    rw [if_neg (by show ¬ vm0.assignable ce.cls c8 = true; rw [hno]; decide)]
    rw [lw_cold (s := ((T'.setTop { F0 m pc ls st0 with stack := rest }).pushFrame (.throwing x)).setVm vm0) (vm' := vm1) (f := { F0 m pc ls st0 with stack := rest }) (x := ⟨b2, b3, hp, ix⟩) (c := c9) hcov hix hg1 hr1 hsz]
    show wp (findHandler.go { F0 m pc ls st0 with stack := rest } x (⟨b2, b3, hp, ix⟩ :: tableOf hh)) Q E e d acts (((T'.setTop { F0 m pc ls st0 with stack := rest }).pushFrame (.throwing x)).setVm vm1) ↔ _
    rw [W.findHandler_go_class (s := ((T'.setTop { F0 m pc ls st0 with stack := rest }).pushFrame (.throwing x)).setVm vm1) (f := { F0 m pc ls st0 with stack := rest }) (x := ⟨b2, b3, hp, ix⟩) (c := c9) (cell := ce) hcov hix hr1 hq1 (fun k z => by rw [q3] at z; cases z) ⟨k9, by rw [hce]; exact hk9⟩ ⟨k9, hk9⟩]
    rw [if_pos (by rw [hce]; exact lw_self vm1 c9)]
  obtain ⟨t2, a1, w1⟩ := kk x T'.heap (locs ++ L) (by rw [e1]; exact hP1.weaken (fun q _ hq => hsub q hq))
    ⟨Nat.le_trans hS.1 (by rw [e1]; exact hz), fun q h1 h2 => by rw [e1, hk q (Nat.lt_of_lt_of_le h1 hS.1) (fun z => h2 (hsub q z))]; exact hS.2.1 q h1 h2, fun q hq => by
      rcases List.mem_append.mp hq with h | h
      · exact hS.2.2 q h
      · exact hsub _ (hL q h)⟩ (T'.setVm vm1) rfl X2
  exact ⟨t2, hst.trans (lw_caught X'.here hfind a1), w1⟩
end LWC
section LWV
variable {p : Program} {l : Launch} {e : Env} {R : Room} {s : State} {m : MethodId} {args : Array Value} {below : List Frame} {meth : Method} {c : Code} {H : Heap} {locs : List Loc} {cells slots : Nat} {Q : State → Prop}
variable {pc : Nat} {ls : Array Slot} {rest As : List Value} {E : fh_E} {A : Nat → Prop} {h : fh_H} {X Y : String}
variable {y : MethodName} {bytes cc : ByteArray} {maxL nL mc ms n index : Nat} {ret : Option FieldType} {ws : List Cond} {rm : Room} {Ts : List Cond} {own C : String} {b : Nat} {hh : List (Nat × Nat × Nat × Nat)} {b0 b1 hp0 ix0 b2 b3 hp ix : Nat}
theorem lw_callV1 (S : CallFix p m c cc nL s args Ts own) (hM : th_M l y ws rm E (.ref b :: As) h X mc ms) (cw : CallW R s args own C index y bytes maxL ret ws rm mc ms n) {ci : Nat} {T : u_T} {N : Nat} (hci : vwCl[ci]? = some (C, T, N)) {fs : List Value} (hob : h b = some (.inr (ci, fs))) (hK : va_K E.1 vwCl (fh_ty E) s) (hZ : fh_Z E A s s.heap) (hP : fh_P E.1 vwCl A h H) (hS : va_S A s.heap H locs) (hA : ∀ q : Nat, s.heap.size ≤ q → A q) (hn : As.length = n) (hsize : ls.size = nL) {st0 : List Value} (hst : st0 = As.reverse ++ .ref b :: rest) (hW : (rest.map fun v => v.category).sum ≤ 8) (hdg : decode cc pc = .ok (.invokevirtual index, 3)) (hf : cells + mc ≤ R.cells ∧ slots + ms ≤ R.slots)
    (htab : c.exceptionTable.toList = tableOf ((b0, b1, hp, ix) :: hh)) (hcov : (decide (b0 ≤ pc) && decide (pc < b1)) = true) (hix : ix ≠ 0) (hcl : (Cond.classLink own ix X).before args s = true)
    (kk : ∀ (x : Addr) (H1 : Heap) (locs1 : List Loc), fh_P E.1 vwCl A h H1 → va_S A s.heap H1 locs1 → W p l e R s m args below meth c H1 locs1 (cells + mc) (slots + ms) Q (F0 m hp ls [.ref x])) : W p l e R s m args below meth c H locs cells slots Q (F0 m pc ls st0) := by
  subst hst
  have hp := fh_preS (av := .ref b :: As) hK hZ hP hS hA
  exact lw_catch1 (rest := rest) (th_runV S (hM H.size) cw ⟨hp.1, fh_recv hK hP hci hob, hp.2⟩ rfl hn hsize rfl (lv_room hW) hdg hf) hP hS hA htab hcov hix S.2.2.2.1 hcl kk
theorem lw_callV2 (S : CallFix p m c cc nL s args Ts own) (hM : th_M l y ws rm E (.ref b :: As) h X mc ms) (cw : CallW R s args own C index y bytes maxL ret ws rm mc ms n) {ci : Nat} {T : u_T} {N : Nat} (hci : vwCl[ci]? = some (C, T, N)) {fs : List Value} (hob : h b = some (.inr (ci, fs))) (hK : va_K E.1 vwCl (fh_ty E) s) (hZ : fh_Z E A s s.heap) (hP : fh_P E.1 vwCl A h H) (hS : va_S A s.heap H locs) (hA : ∀ q : Nat, s.heap.size ≤ q → A q) (hn : As.length = n) (hsize : ls.size = nL) {st0 : List Value} (hst : st0 = As.reverse ++ .ref b :: rest) (hW : (rest.map fun v => v.category).sum ≤ 8) (hdg : decode cc pc = .ok (.invokevirtual index, 3)) (hf : cells + mc ≤ R.cells ∧ slots + ms ≤ R.slots)
    (htab : c.exceptionTable.toList = tableOf ((b0, b1, hp0, ix0) :: (b2, b3, hp, ix) :: hh)) (hcov0 : (decide (b0 ≤ pc) && decide (pc < b1)) = true) (hix0 : ix0 ≠ 0) (hcov : (decide (b2 ≤ pc) && decide (pc < b3)) = true) (hix : ix ≠ 0) (hcl0 : (Cond.classLink own ix0 Y).before args s = true) (hcl : (Cond.classLink own ix X).before args s = true) (hNC : fh_NC X Y s)
    (kk : ∀ (x : Addr) (H1 : Heap) (locs1 : List Loc), fh_P E.1 vwCl A h H1 → va_S A s.heap H1 locs1 → W p l e R s m args below meth c H1 locs1 (cells + mc) (slots + ms) Q (F0 m hp ls [.ref x])) : W p l e R s m args below meth c H locs cells slots Q (F0 m pc ls st0) := by
  subst hst
  have hp := fh_preS (av := .ref b :: As) hK hZ hP hS hA
  exact lw_catch2 (rest := rest) (th_runV S (hM H.size) cw ⟨hp.1, fh_recv hK hP hci hob, hp.2⟩ rfl hn hsize rfl (lv_room hW) hdg hf) hP hS hA htab hcov0 hix0 hcov hix S.2.2.2.1 hcl0 hcl hNC kk
end LWV
/-- the walk of a method that has a table of handlers -/
theorem lw_ofW {l : Launch} {y : MethodName} {ws ws' : List Cond} {rm : Room} {E : fh_E} {av : List Value} {h : fh_H} {post : Option Value → fh_H → Prop} {mc ms : Nat} {cc : ByteArray} {maxL : Nat} {ret : Option FieldType} {hh : List (Nat × Nat × Nat × Nat)}
    (hy : plainName y.cls = true) (hw : ws = Cond.codeWith y cc maxL ret hh :: ws') (hlen : (lg_sl av).length ≤ maxL)
    (body : ∀ (p : Program) (e : Env) (s : State) (m : MethodId) (below : List Frame) (meth : Method) (c : Code) (A : Nat → Prop) (ls : Array Slot), p.tables.exec = Jvm.exec → c.code = cc → meth.sig.returnType = ret → c.maxLocals = maxL → s.vm.findClass y.cls = some m.cls → (∀ w ∈ ws, w.before av.toArray s = true) → meth.locks = false → meth.name = y.name → c.exceptionTable.toList = tableOf hh → l.admits e →
      (∀ q : Nat, s.heap.size ≤ q → A q) → va_K E.1 vwCl (fh_ty E) s → fh_Z E A s s.heap → fh_P E.1 vwCl A h s.heap → va_S A s.heap s.heap [] → lv_has ls maxL (lv_args 0 av) →
      W p l e rm s m av.toArray below meth c s.heap [] 0 0 (MQ below (fh_Post E post A) av.toArray s mc ms A) (F0 m 0 ls [])) : fh_Met l y ws rm E av h post mc ms := by
  intro sz
  refine va_MetW (cc := cc) (maxL := maxL) (ret := ret) (hh := hh) hy hw ?_
  intro p e s m args below meth c s₁ B hml hv
  obtain ⟨rfl, hsz, hP, hK, hZ⟩ := hv
  subst hsz
  have hts := atoms_spec (ws := ws) B.pre
  have hl := lv_entry av (n := maxL) hlen
  rw [lg_entry_eq]
  generalize (lg_sl av ++ List.replicate (maxL - (lg_sl av).length) Slot.unset).toArray = ls at hl ⊢
  have hcode : (Cond.codeWith y cc maxL ret hh).before av.toArray s = true := hts _ (by rw [hw]; exact List.mem_cons_self)
  have htab : c.exceptionTable.toList = tableOf hh := by
    obtain ⟨m9, meth9, c9, hn9, h1, h2, -, -, h5, -⟩ := Cond.codeWith_spec hcode
    cases B.named.symm.trans hn9
    cases B.method.symm.trans h1
    have : c9 = c := by
      have z := B.here.code
      rw [State.code?_eq] at z
      have e1 : s₁.vm = s.vm := by rw [B.state]; rfl
      rw [e1, B.method] at z
      exact Option.some.inj (h2.symm.trans (by simpa using z))
    subst this
    rw [← h5, table_eq]
  exact body p e s m below meth c (fh_A h s.heap.size) ls B.exec B.bytes B.returns hml (findClass_of_methodNamed B.named) hts B.notSynchronized (name_of_methodNamed B.named B.method).1 htab B.admits (fun q hq => Or.inr hq) hK hZ (hP.self _) va_S.rf hl
section LWS
variable {p : Program} {l : Launch} {e : Env} {R : Room} {s : State} {m : MethodId} {args : Array Value} {below : List Frame} {meth : Method} {c : Code} {H : Heap} {locs : List Loc} {cells slots : Nat} {Q : State → Prop}
variable {pc : Nat} {ls : Array Slot} {rest As : List Value} {E : fh_E} {A : Nat → Prop} {h : fh_H} {post : Option Value → fh_H → Prop} {g : JFrame}
variable {y : MethodName} {bytes cc : ByteArray} {maxL nL mc ms n index : Nat} {ret : Option FieldType} {ws ws' : List Cond} {rm : Room} {Ts : List Cond} {own : String} {hh : List (Nat × Nat × Nat × Nat)}
/-- the call of a static method that has a table of handlers -/
theorem lw_callS (S : CallFix p m c cc nL s args Ts own) (hM : fh_Met l y ws rm E As h post mc ms) (hw : ws = Cond.codeWith y bytes maxL ret hh :: ws') (hrc : rm.cells = mc) (hrs : rm.slots = ms) (hfr : rm.frames + 1 ≤ R.frames) (hlo : 8 + (maxL + 11) + rm.locals ≤ R.locals)
    (hws : ∀ w ∈ ws, ∀ (a' : Array Value) (U : State), s.WarmedH U.vm → w.before a' U = true) (hini : (Cond.initialized y.cls).before args s = true) (hlink : (Cond.methodLink own index y).before args s = true) (hstat : (Cond.static y).before args s = true) (hy : y.cls ≠ "java/lang/invoke/MethodHandle" ∧ y.cls ≠ "java/lang/invoke/VarHandle" ∧ (parseMethodDescriptor y.desc).map (fun d => d.parameters.length) = some n)
    (hK : va_K E.1 vwCl (fh_ty E) s) (hZ : fh_Z E A s s.heap) (hP : fh_P E.1 vwCl A h H) (hS : va_S A s.heap H locs) (hA : ∀ q : Nat, s.heap.size ≤ q → A q) (hn : As.length = n) (hsize : ls.size = nL) {st0 : List Value} (hst : st0 = As.reverse ++ rest) (hW : (rest.map fun v => v.category).sum ≤ 8) (hdg : decode cc pc = .ok (.invokestatic index, 3)) (hf : cells + mc ≤ R.cells ∧ slots + ms ≤ R.slots)
    (kk : ∀ (r : Option Value) (h1 : fh_H) (H1 : Heap) (locs1 : List Loc), post r h1 → fh_P E.1 vwCl A h1 H1 → va_S A s.heap H1 locs1 → W p l e R s m args below meth c H1 locs1 (cells + mc) (slots + ms) Q (F0 m (pc + 3) ls (r.toList ++ rest))) : W p l e R s m args below meth c H locs cells slots Q (F0 m pc ls st0) := by
  subst hst
  have hp := fh_preS (av := As) hK hZ hP hS hA
  refine fh_call (rest := rest) (a := As.toArray) ?_ hP hS hA kk
  have hcw : Cond.codeWith y bytes maxL ret hh ∈ ws := by rw [hw]; exact List.mem_cons_self
  have hB : Back l R p e below s args y 3 8 (PreOf R mc ms (fh_Pre E h H.size As)) (PostOf (fh_Post E post (fh_A h H.size)) mc ms (fh_A h H.size)) := va_backW (hh := hh) (bytes := bytes) (maxL := maxL) (ret := ret) (hM H.size) hp.1 hrc hrs hfr hlo hws hcw (fun a' U hW => word_at hW (Or.inl (by first | rfl | simp [Cond.onTables, Cond.keeps, Cond.steady])) hini)
  obtain ⟨hexec, hb, hml, hown, -⟩ := S
  intro T hT X
  obtain ⟨mk, methM, cM, hnamed, hmethM, -, -, -, -, -, -, hsigM⟩ := Cond.codeWith_spec (hws _ hcw args s (State.WarmedH.refl s))
  have hstatic : methM.isStatic = true := Cond.static_spec hnamed hmethM hstat
  obtain ⟨kP, hkP, -⟩ := className_of_methodNamed hnamed
  have hinitP : kP.init = .initialized := Cond.initialized_spec (findClass_of_methodNamed hnamed) hkP hini
  have hlen : As.length = methM.sig.parameters.length := by
    have h2 := hy.2.2
    rw [hsigM] at h2
    exact hn.trans (Option.some.inj h2).symm
  obtain ⟨vm₁, X₁, hstep₁⟩ := X.invokestatic hexec hown hlink hnamed hmethM hstatic hkP hinitP ⟨hy.1, hy.2.1⟩ (g := F0 m pc ls (As.reverse ++ rest)) rfl (argsL := As) (rest := rest) hlen rfl (by rw [hb]; exact hdg)
  obtain ⟨v, ⟨U', l2, c2, s2⟩, X', ⟨g', mk', t, L, e1, e2, hq, h1, hL, h2, h3⟩, hsteps⟩ := hB m meth c ⟨T.setVm vm₁, locs, cells, slots⟩ { F0 m pc ls (As.reverse ++ rest) with stack := rest } (.invokestatic index) mk As.toArray X₁ rfl (hsize.trans hml.symm) (by rw [hb]; exact hdg) (lv_room hW) (X₁.named hnamed) ⟨hf.1, hf.2, hp.2 (T.setVm vm₁) hT X₁.warmed⟩
  dsimp only [Pt.U, Pt.locs, Pt.cells, Pt.slots] at X' e1 e2 h1 h2 h3 hsteps
  subst h1; subst h2; subst h3
  exact ⟨v, (T.setVm vm₁).calling g' mk' As.toArray, t, U', L, hT, X', hL, e1, e2, hq, fun target hh9 => hstep₁ _ fun acts => by rw [doInvoke_state]; exact hsteps.trans hh9⟩
end LWS
/-- what the layer's world needs is kept, where none but arrays of numbers and the reference changes -/
theorem ALy.keep {E : fh_E} {h h1 : fh_H} {bl med : Nat} {S : mS} (hA : ALy E h bl med S) (e0 : h (fh_ed E) = none) (e1 : h1 (fh_ed E) = none) (hk : ∀ b e, h b = some e → (b = med ∨ ¬ oth e) → h1 b = some e) : ALy E h1 bl med S := by
  obtain ⟨dk, rqs, sv, bcs, bal, barr, qu, qal, qarr, cs, cal, carr, bps, cps, hS, q1, q2, q3, q4⟩ := hA
  refine ⟨dk, rqs, sv, bcs, bal, barr, qu, qal, qarr, cs, cal, carr, bps, cps, ?_, q1, q2, q3, q4⟩
  obtain ⟨hb0, hBC, hDK, a1, a2, a3, a4, a5, a6⟩ := hS
  have F : Fr h h1 (fun b => ∃ e, h b = some e ∧ b ≠ med ∧ oth e) := fun b e hb n => hk b e hb (by
    by_cases z : b = med
    · exact Or.inl z
    · exact Or.inr (fun w => n ⟨e, hb, z, w⟩))
  have no : ∀ {b e}, h b = some e → ¬ oth e → ¬ ∃ e, h b = some e ∧ b ≠ med ∧ oth e := fun {b e} hb w ⟨e', hb', _, w'⟩ => by
    rw [hb] at hb'; cases hb'; exact w w'
  have ob : ∀ {b i fs}, h b = some (.inr (i, fs)) → i ≠ 7 → ¬ ∃ e, h b = some e ∧ b ≠ med ∧ oth e := fun {b i fs} hb w => no hb w
  have hDK0 := hDK
  obtain ⟨hd0, hQ, hm, hC, hsv, hnd, hqc, hqa⟩ := hDK
  obtain ⟨m1, kq⟩ := hQ.2.1.al
  obtain ⟨m2, kc⟩ := hC.2.1.al
  obtain ⟨m3, kb⟩ := hBC.2.1.al
  refine ⟨F _ _ hb0 (ob hb0 (by decide)), hBC.keep F (ob hBC.1 (by decide)) (ob kb (by decide)) (fun e he => no he (hBC.2.1.noth e0 he)) (fun r hr => ob (hBC.2.2 r hr) (by decide)), hDK0.keep e1 F (ob hd0 (by decide)) (ob hQ.1 (by decide)) (ob kq (by decide)) (fun e he => no he (hQ.2.1.noth e0 he)) (fun r hr => ob (hQ.2.2 r hr) (by decide)) (fun ⟨_, _, z, _⟩ => z rfl) (ob hC.1 (by decide)) (ob kc (by decide)) (fun e he => no he (hC.2.1.noth e0 he)) (fun r hr => ob (hC.2.2 r hr) (by decide)) (fun r z => ob (hsv r z).1 (by decide)), a1, a2, a3, fun x hx => ?_, a5, a6⟩
  obtain ⟨y, hy⟩ := hBC.2.1.back e1 hx
  exact a4 _ hy
