/-! A THROW OF ONE OF THE THREE: the words that it needs, its row, its contract. -/
def thUp : List String := ["java/lang/RuntimeException", "java/lang/Exception"]
abbrev xIOB : String := "java/lang/IndexOutOfBoundsException"
abbrev xUOE : String := "java/lang/UnsupportedOperationException"
abbrev xIAE : String := "java/lang/IllegalArgumentException"
def thRest (X : String) : List Cond := [.castable X X, .isRef (.static "java/lang/Throwable" "UNASSIGNED_STACK" "[Ljava/lang/StackTraceElement;"), .isRef (.static "java/lang/Throwable" "SUPPRESSED_SENTINEL" "Ljava/util/List;"), .laysStatic "java/lang/Throwable" "UNASSIGNED_STACK" "[Ljava/lang/StackTraceElement;", .laysStatic "java/lang/Throwable" "SUPPRESSED_SENTINEL" "Ljava/util/List;", .declares ⟨"java/lang/RuntimeException", "<init>", "(Ljava/lang/String;)V"⟩, .declares ⟨"java/lang/Exception", "<init>", "(Ljava/lang/String;)V"⟩, .declares ⟨"java/lang/Throwable", "<init>", "(Ljava/lang/String;)V"⟩]
def thIn (ic : Nat) (X : String) : Bool := (Bundle.ownAtoms "BlockLayer" ic X thUp).all (fun w => G.contains w || (thRest X).contains w)
theorem thIn_iob : thIn 175 xIOB = true := by decide +kernel
theorem thIn_uoe : thIn 180 xUOE = true := by decide +kernel
theorem thIn_iae : thIn 88 xIAE = true := by decide +kernel
theorem th_own {args : Array Value} {s : State} {E : fh_E} {A : Nat → Prop} {ic : Nat} {X : String} (hin : thIn ic X = true) (hX : Cond.castable X X ∈ fhCast) (hZ : fh_Z E A s s.heap) (hG : ∀ w ∈ G, w.before args s = true) : ∀ w ∈ Bundle.ownAtoms "BlockLayer" ic X thUp, w.before args s = true := by
  intro w hw
  have := List.all_eq_true.mp hin w hw
  rcases Bool.or_eq_true _ _ ▸ this with h | h
  · exact hG w (List.contains_iff_mem.mp h)
  · have hm := List.contains_iff_mem.mp h
    obtain ⟨-, -, -, -, -, -, h7, h8, h9, -, -, h12, h13, h14⟩ := hZ
    simp only [thRest, List.mem_cons, List.not_mem_nil, or_false] at hm
    rcases hm with rfl | rfl | rfl | rfl | rfl | rfl | rfl | rfl
    · exact va_Nw.use rfl (h7 _ hX)
    · exact fh_Zq_use h8
    · exact fh_Zq_use h9
    · exact h12.use
    · exact h13.use
    · exact va_Nw.use rfl (h14 _ (by simp [fhDecl]))
    · exact va_Nw.use rfl (h14 _ (by simp [fhDecl]))
    · exact va_Nw.use rfl (h14 _ (by simp [fhDecl]))
/-- it threw an X; the world is as it was -/
def fh_Thr (E : fh_E) (X : String) (h : fh_H) (A : Nat → Prop) : Array Value → State → Outcome → State → Prop := fun _ st oc t => (∃ x : Addr, oc = .threw x ∧ (∃ ce : Cell, t.heap[x]? = some ce ∧ t.vm.findClass X = some ce.cls ∧ ce.vm = .none) ∧ fh_P E.1 vwCl A h t.heap) ∧ va_F A st t
def th_M (l : Launch) (y : MethodName) (ws : List Cond) (rm : Room) (E : fh_E) (av : List Value) (h : fh_H) (X : String) (mc ms : Nat) : Prop := ∀ sz : Nat, th_Met l y ws rm (fh_Pre E h sz av) (fh_Thr E X h (fh_A h sz)) mc ms (fh_A h sz)
theorem th_ofWh {l : Launch} {y : MethodName} {ws ws' : List Cond} {rm : Room} {E : fh_E} {av : List Value} {h : fh_H} {X : String} {mc ms : Nat} {cc : ByteArray} {maxL : Nat} {ret : Option FieldType}
    (hy : plainName y.cls = true) (hw : ws = Cond.code y cc maxL ret :: ws') (hlen : (lg_sl av).length ≤ maxL)
    (body : ∀ (p : Program) (e : Env) (s : State) (m : MethodId) (below : List Frame) (meth : Method) (c : Code) (A : Nat → Prop) (ls : Array Slot), p.tables.exec = Jvm.exec → c.code = cc → meth.sig.returnType = ret → c.maxLocals = maxL → s.vm.findClass y.cls = some m.cls → (∀ w ∈ ws, w.before av.toArray s = true) → meth.locks = false → meth.name = y.name → c.exceptionTable.isEmpty = true → l.admits e →
      (∀ q : Nat, s.heap.size ≤ q → A q) → va_K E.1 vwCl (fh_ty E) s → fh_Z E A s s.heap → fh_P E.1 vwCl A h s.heap → va_S A s.heap s.heap [] → lv_has ls maxL (lv_args 0 av) →
      W p l e rm s m av.toArray below meth c s.heap [] 0 0 (th_Q below (fh_Thr E X h A) av.toArray s mc ms A) (F0 m 0 ls [])) : th_M l y ws rm E av h X mc ms := by
  intro sz
  refine th_ofW (cc := cc) (maxL := maxL) (ret := ret) hy hw ?_
  intro p e s m args below meth c s₁ B hml hv
  obtain ⟨rfl, hsz, hP, hK, hZ⟩ := hv
  subst hsz
  have hts := atoms_spec (ws := ws) B.pre
  have hl := lv_entry av (n := maxL) hlen
  rw [lg_entry_eq]
  generalize (lg_sl av ++ List.replicate (maxL - (lg_sl av).length) Slot.unset).toArray = ls at hl ⊢
  have hcode : (Cond.code y cc maxL ret).before av.toArray s = true := hts _ (by rw [hw]; exact List.mem_cons_self)
  exact body p e s m below meth c (fh_A h s.heap.size) ls B.exec B.bytes B.returns hml (findClass_of_methodNamed B.named) hts B.notSynchronized (name_of_methodNamed B.named B.method).1 (BodyLoose.noHandlers B hcode) B.admits (fun q hq => Or.inr hq) hK hZ (hP.self _) va_S.rf hl
section TG
variable {p : Program} {l : Launch} {e : Env} {R : Room} {s : State} {m : MethodId} {args : Array Value} {below : List Frame} {meth : Method} {c : Code} {H : Heap} {locs : List Loc} {cells slots : Nat} {Q : State → Prop}
variable {cc : ByteArray} {pc : Nat} {ls : Array Slot} {rest : List Value} {E : fh_E} {A : Nat → Prop} {h : fh_H}
/-- new X("text"), and its throw: nothing was written before -/
theorem th_go (hexec : p.tables.exec = Jvm.exec) (hb : c.code = cc) (hml : c.maxLocals = ls.size) (hown : s.vm.findClass "BlockLayer" = some m.cls) {icl it ic : Nat} {X tx : String} (hfl : l.flags = pinnedFlags ++ [noTraceFlag]) (hadm : l.admits e)
    (hin : thIn ic X = true) (hX : Cond.castable X X ∈ fhCast) (hfit : Bundle.fit X = true) (hcl : Cond.classLink "BlockLayer" icl X ∈ G) (hi : Cond.initialized X ∈ G) (htx : (it, tx) ∈ fhTxt) (hnoh : c.exceptionTable.isEmpty = true) (hlocks : meth.locks = false)
    (hZ : fh_Z E A s s.heap) (hG : ∀ w ∈ G, w.before args s = true) (hP : fh_P E.1 vwCl A h s.heap) (hA : ∀ q : Nat, s.heap.size ≤ q → A q) (hR : 5 < R.frames ∧ 82 ≤ R.locals ∧ cells + 1 ≤ R.cells ∧ slots + 6 ≤ R.slots)
    (d0 : decode cc pc = .ok (.new icl, 3)) (d1 : decode cc (pc + 3) = .ok (.dup, 1)) (d2 : decode cc (pc + 4) = .ok (.ldc it, 2)) (d3 : decode cc (pc + 6) = .ok (.invokespecial ic, 3)) (d4 : decode cc (pc + 9) = .ok (.athrow, 1)) {mc ms : Nat} (hmc : cells + 1 ≤ mc) (hms : slots + 6 ≤ ms) :
    W p l e R s m args below meth c s.heap [] cells slots (th_Q below (fh_Thr E X h A) args s mc ms A) (F0 m pc ls []) := by
  intro T hT X0
  have hpre := th_own hin hX hZ hG
  obtain ⟨sa, hsa⟩ := hZ.2.2.2.2.2.2.2.2.2.1 _ htx
  obtain ⟨vm₁, cX, kX, hfX, hkX, -, -, X₁, st1⟩ := X0.newCold hexec (own := "BlockLayer") (C := X) (index := icl) (n := 6) hown (hG _ hcl) (hpre (.instantiable X 6) (by simp [Bundle.ownAtoms])) (hG _ hi)
    (g := F0 m pc ls []) rfl (by rw [hb]; exact d0) hR.2.2.1 hR.2.2.2
  generalize hTT : (T.setVm vm₁).pushCell { cls := cX, slots := kX.instanceTypes.map defaultValue, vm := .none } = T1 at X₁ st1
  have hcellA : T1.heap[T.heap.size]? = some (freshCell cX kX) := by rw [← hTT]; exact State.heap_pushCell_size _ _
  obtain ⟨U, hsteps, hrun, hend, hW, hsame, ce, hce, K⟩ := X₁.ctorThrowS hexec (Launch.traces_off hfl hadm) (own := "BlockLayer") (cls := X) (names := thUp) (ic := ic) hown hfit (by decide +kernel)
    hpre (fun y hy => by cases hy) hfX hkX hcellA (by rw [hT]; exact Nat.le_refl _) (msg := .ref sa) rfl
    (g := F0 m (pc + 6) ls [.ref sa, .ref T.heap.size, .ref T.heap.size]) rfl hml.symm rfl rfl (rest := []) rfl
    (by rw [hb]; exact d3) (by rw [hb]; exact d4) (covers_of_empty hnoh _) (by simp [thUp]; exact hR.1) (by
      show 2 * 0 + 1 + (13 * (2 + 1) + 42) ≤ R.locals
      exact hR.2.1) hlocks
  have hold : ∀ q : Nat, q < s.heap.size → U.heap[q]? = s.heap[q]? := by
    intro q hq
    have h1 : s.heap[q]? = some s.heap[q] := Array.getElem?_eq_getElem hq
    have := State.sameButNew.old_cell hsame h1
    rw [h1]; exact this
  refine ⟨U, ?_, .threw T.heap.size, hrun, hend, ⟨⟨_, rfl, ⟨ce, hce, ?_, K.vm⟩, hP.kept (fun q hq => ?_)⟩, hsame.2.1, fun q h1 _ => hold q h1⟩, [], ⟨⟨_, rfl⟩, hW, hsame.mono hmc hms⟩, fun q hq => by cases hq⟩
  · refine st1 _ ?_
    show Steps p.tables e below (T1.setTop (F0 m (pc + 3) ls [.ref T.heap.size])) _
    jvm_step X₁.here [X₁.here.top, hexec, hb, d1, Value.category]
    exact X₁.ldcString hexec (own := "BlockLayer") (text := tx) (index := it) (a := sa) hown hsa.1 hsa.2 (g := F0 m (pc + 4) ls [.ref T.heap.size, .ref T.heap.size]) rfl (by rw [hb]; exact d2) _ hsteps
  · rw [hW.alike.findClass]; exact K.cls
  · obtain ⟨x, hx⟩ := hq
    exact hold q (hP.lt hx)
end TG
