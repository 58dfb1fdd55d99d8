/-! WHAT STANDS OUTSIDE THE WORLD AND STAYS: the JDK's empty array and its static, the class object of Object[], words that the list G can't hold. -/
abbrev fh_E : Type := va_G × (ClassId × ClassId × ClassId × ClassId) × (Nat × Nat)
abbrev fh_cI (E : fh_E) : ClassId := E.2.1.1
abbrev fh_cJ (E : fh_E) : ClassId := E.2.1.2.1
abbrev fh_cO (E : fh_E) : ClassId := E.2.1.2.2.1
abbrev fh_cZ (E : fh_E) : ClassId := E.2.1.2.2.2
abbrev fh_ed (E : fh_E) : Nat := E.2.2.1
abbrev fh_mi (E : fh_E) : Nat := E.2.2.2
abbrev fh_ty (E : fh_E) : List (ClassId × FieldType) := [(fh_cI E, .int), (fh_cJ E, .long), (fh_cO E, .object "java/lang/Object"), (fh_cZ E, .boolean)]
abbrev fh_es : String := "[Ljava/lang/Object;"
def fhNest : List Cond := [.methodLinkNest "BlockLayer" 9 y_CS_init "BlockLayer", .methodLinkNest "BlockLayer" 18 y_DK_init "BlockLayer", .methodLinkNest "BlockLayer$Disk" 11 y_QU_init "BlockLayer", .methodLinkNest "BlockLayer$Disk" 24 y_CS_init "BlockLayer", .methodLinkNest "BlockLayer$Disk" 106 y_BL_trackOf "BlockLayer"]
def fhCast : List Cond := [.castable "BlockLayer$Request" "BlockLayer$Request", .castable "BlockLayer$Copy" "BlockLayer$Copy", .castable "BlockLayer$Request" "java/lang/Object", .castable "BlockLayer$Copy" "java/lang/Object", .castable "java/lang/IndexOutOfBoundsException" "java/lang/IndexOutOfBoundsException", .castable "java/lang/UnsupportedOperationException" "java/lang/UnsupportedOperationException", .castable "java/lang/IllegalArgumentException" "java/lang/IllegalArgumentException"]
/-- one class can't be cast to the other -/
def fh_NC (X Y : String) (U : State) : Prop := ∀ c t : ClassId, U.vm.findClass X = some c → U.vm.findClass Y = some t → U.vm.assignable c t = false
theorem fh_NC.moved {X Y : String} {u U : State} (h : u.vm.Alike U.vm) (z : fh_NC X Y u) : fh_NC X Y U := by
  intro c t h1 h2
  rw [h.assignable]
  rw [h.findClass] at h1 h2
  exact z c t h1 h2
theorem fh_NC.of {X Y : String} {args : Array Value} {U : State} (h : (Cond.not (.castable X Y)).before args U = true) : fh_NC X Y U := by
  intro c t h1 h2
  cases hv : U.vm.assignable c t with
  | false => rfl
  | true => exfalso; revert h; simp [Cond.before, Cond.holds, Cond.value, h1, h2, hv]
def fhTxt : List (Nat × String) := [(173, "there is no such block"), (178, "the queue might have more than 40 requests"), (86, "a step has 1 to 1000 units"), (101, "a policy is 0 to 4")]
/-- a static field's place, outside the world -/
def fh_LS (C n d : String) (A : Nat → Prop) (U : State) (H : Heap) : Prop := ∃ (c : ClassId) (k : Class) (i : Nat) (f : Field) (a : Nat) (cell : Cell), U.vm.findClass C = some c ∧ U.fieldFound? C n d = some (c, k, i, f) ∧ f.isStatic = true ∧ k.statics = some a ∧ H[a]? = some cell ∧ cell.vm.isStatics = true ∧ cell.cls = c ∧ f.slot < cell.slots.size ∧ k.staticTypes[f.slot]? = some f.type ∧ ¬ A a
theorem fh_LS.moved {C n d : String} {A : Nat → Prop} {u U : State} {H : Heap} (hvm : u.vm.Alike U.vm) (h : fh_LS C n d A u H) : fh_LS C n d A U H := by
  obtain ⟨c, k, i, f, a, cell, h0, h1, h2, h3, h4, h5, h6, h7, h8, h9⟩ := h
  obtain ⟨k', hi', he⟩ := State.fieldFound?_setVm hvm h1
  exact ⟨c, k', i, f, a, cell, by rw [hvm.findClass]; exact h0, hi', h2, by rw [he]; exact h3, h4, h5, h6, h7, by rw [he]; exact h8, h9⟩
theorem fh_LS.kept {C n d : String} {A : Nat → Prop} {U : State} {H H1 : Heap} (h : fh_LS C n d A U H) (hq : ∀ a : Nat, a < H.size → ¬ A a → H1[a]? = H[a]?) : fh_LS C n d A U H1 := by
  obtain ⟨c, k, i, f, a, cell, h0, h1, h2, h3, h4, h5, h6, h7, h8, h9⟩ := h
  exact ⟨c, k, i, f, a, cell, h0, h1, h2, h3, by rw [hq a (Array.getElem?_eq_some_iff.mp h4).1 h9]; exact h4, h5, h6, h7, h8, h9⟩
theorem fh_LS.narrow {C n d : String} {A B : Nat → Prop} {U : State} {H : Heap} (h : fh_LS C n d A U H) (hAB : ∀ q, B q → A q) : fh_LS C n d B U H := by
  obtain ⟨c, k, i, f, a, cell, h0, h1, h2, h3, h4, h5, h6, h7, h8, h9⟩ := h
  exact ⟨c, k, i, f, a, cell, h0, h1, h2, h3, h4, h5, h6, h7, h8, fun z => h9 (hAB a z)⟩
theorem fh_LS.of {C n d : String} {A : Nat → Prop} {args : Array Value} {U : State} (h : (Cond.laysStatic C n d).before args U = true) (hA : ∀ a : Nat, a < U.heap.size → ¬ A a) : fh_LS C n d A U U.heap := by
  obtain ⟨c, k, i, f, a, cell, h0, h1, h2, h3, h4, h5, h6, h7, h8⟩ := Cond.laysStatic_spec h
  exact ⟨c, k, i, f, a, cell, h0, h1, h2, h3, h4, h5, h6, h7, h8, hA a (Array.getElem?_eq_some_iff.mp h4).1⟩
theorem fh_LS.use {C n d : String} {A : Nat → Prop} {args : Array Value} {U : State} (h : fh_LS C n d A U U.heap) : (Cond.laysStatic C n d).before args U = true := by
  obtain ⟨c, k, i, f, a, cell, h0, h1, h2, h3, h4, h5, h6, h7, h8, h9⟩ := h
  simp [Cond.before, Cond.holds, Cond.value, h0, h1, h2, h3, h4, h5, h6, h7, h8]
theorem fh_Zq_use {C n d : String} {A : Nat → Prop} {args : Array Value} {U : State} (h : va_Zq C n d A U U.heap) : (Cond.isRef (.static C n d)).before args U = true := by
  rcases h with h | ⟨t, h⟩
  · obtain ⟨cf, kf, fi, f, a, cell, h1, h2, h3, h4, h5, h6, h7, h8⟩ := h
    simp [Cond.before, Cond.holds, Cond.value, Term.eval, State.fieldNamed?, h1, h2, h4, h5, h6, h7]
  · obtain ⟨cf, kf, fi, f, a, cell, h1, h2, h3, h4, h5, h6, h7, h8⟩ := h
    simp [Cond.before, Cond.holds, Cond.value, Term.eval, State.fieldNamed?, h1, h2, h4, h5, h6, h7]
def fhDecl : List MethodName := [⟨"java/lang/RuntimeException", "<init>", "(Ljava/lang/String;)V"⟩, ⟨"java/lang/Exception", "<init>", "(Ljava/lang/String;)V"⟩, ⟨"java/lang/Throwable", "<init>", "(Ljava/lang/String;)V"⟩]
/-- what a throw needs: the two statics of Throwable, the four texts -/
def fh_X (A : Nat → Prop) (U : State) (H : Heap) : Prop := va_Zq "java/lang/Throwable" "UNASSIGNED_STACK" "[Ljava/lang/StackTraceElement;" A U H ∧ va_Zq "java/lang/Throwable" "SUPPRESSED_SENTINEL" "Ljava/util/List;" A U H ∧ (∀ q ∈ fhTxt, ∃ a : Nat, vk_R "BlockLayer" q.1 q.2 a U) ∧ fh_NC "java/lang/UnsupportedOperationException" "java/lang/IndexOutOfBoundsException" U ∧ fh_LS "java/lang/Throwable" "UNASSIGNED_STACK" "[Ljava/lang/StackTraceElement;" A U H ∧ fh_LS "java/lang/Throwable" "SUPPRESSED_SENTINEL" "Ljava/util/List;" A U H ∧ ∀ q ∈ fhDecl, va_Nw (.declares q) U
def fh_Z (E : fh_E) (A : Nat → Prop) (U : State) (H : Heap) : Prop :=
  va_Z "java/util/ArrayList" "DEFAULTCAPACITY_EMPTY_ELEMENTDATA" fh_es (.ref (fh_ed E)) A U H ∧ va_T (.object "java/lang/Object") (fh_ed E) 0 (fun _ => .null) A U H ∧ va_Mi fh_es (fh_mi E) U ∧ va_AO "java/lang/Object" U ∧ va_Dc U ∧ (∀ w ∈ fhNest, va_Nw w U) ∧ (∀ w ∈ fhCast, va_Nw w U) ∧ fh_X A U H
theorem fh_Z.warm {E : fh_E} {A : Nat → Prop} {u U : State} {H : Heap} (hW : u.WarmedH U.vm) (h : fh_Z E A u H) : fh_Z E A U H := by
  obtain ⟨h1, h2, h3, h4, h5, h6, h7, h8, h9, h10, h11, h12, h13, h14⟩ := h
  refine ⟨h1.moved hW.alike, h2.moved hW.alike, h3.moved hW.alike, h4.moved hW.alike, h5.moved hW.alike, fun w hw => ?_, fun w hw => ?_, va_Zq.moved hW.alike h8, va_Zq.moved hW.alike h9, fun q hq => ?_, h11.moved hW.alike, h12.moved hW.alike, h13.moved hW.alike, fun q hq => va_Nw.warmD hW (h14 q hq)⟩
  · have := h6 w hw
    simp only [fhNest, List.mem_cons, List.not_mem_nil, or_false] at hw
    rcases hw with rfl | rfl | rfl | rfl | rfl <;> exact va_Nw.warmM hW this
  · have := h7 w hw
    simp only [fhCast, List.mem_cons, List.not_mem_nil, or_false] at hw
    rcases hw with rfl | rfl | rfl | rfl | rfl | rfl | rfl <;> exact va_Nw.warmC hW this
  · obtain ⟨a, ha⟩ := h10 q hq
    exact ⟨a, ha.warm hW⟩
theorem fh_Z.kept {E : fh_E} {A : Nat → Prop} {U : State} {H H1 : Heap} (h : fh_Z E A U H) (hq : ∀ a : Nat, a < H.size → ¬ A a → H1[a]? = H[a]?) : fh_Z E A U H1 := by
  obtain ⟨h1, h2, h3, h4, h5, h6, h7, h8, h9, h10, h11, h12, h13, h14⟩ := h
  exact ⟨h1.kept hq, h2.kept hq, h3, h4, h5, h6, h7, va_Zq.kept h8 hq, va_Zq.kept h9 hq, h10, h11, h12.kept hq, h13.kept hq, h14⟩
theorem fh_Z.narrow {E : fh_E} {A B : Nat → Prop} {U : State} {H : Heap} (h : fh_Z E A U H) (hAB : ∀ q, B q → A q) : fh_Z E B U H := by
  obtain ⟨h1, h2, h3, h4, h5, h6, h7, h8, h9, h10, h11, h12, h13, h14⟩ := h
  exact ⟨h1.narrow hAB, h2.narrow hAB, h3, h4, h5, h6, h7, va_Zq.narrow h8 hAB, va_Zq.narrow h9 hAB, h10, h11, h12.narrow hAB, h13.narrow hAB, h14⟩
