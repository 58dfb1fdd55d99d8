/-! WHAT STANDS OUTSIDE THE WORLD AND STAYS: the JDK's empty array and its static, the class object of Object[], words that the list G can't hold. -/
abbrev fh_E : Type := va_G × (ClassId × ClassId × ClassId × ClassId) × (Nat × Nat)
abbrev fh_cI (E : fh_E) : ClassId := E.2.1.1
abbrev fh_cJ (E : fh_E) : ClassId := E.2.1.2.1
abbrev fh_cO (E : fh_E) : ClassId := E.2.1.2.2.1
abbrev fh_cZ (E : fh_E) : ClassId := E.2.1.2.2.2
abbrev fh_ed (E : fh_E) : Nat := E.2.2.1
abbrev fh_mi (E : fh_E) : Nat := E.2.2.2
abbrev fh_ty (E : fh_E) : List (ClassId × FieldType) := [(fh_cI E, .int), (fh_cJ E, .long), (fh_cO E, .object "java/lang/Object"), (fh_cZ E, .boolean)]
abbrev fh_es : String := "[Ljava/lang/Object;"
def fhNest : List Cond := [.methodLinkNest "BlockLayer" 9 y_CS_init "BlockLayer", .methodLinkNest "BlockLayer" 18 y_DK_init "BlockLayer", .methodLinkNest "BlockLayer$Disk" 11 y_QU_init "BlockLayer", .methodLinkNest "BlockLayer$Disk" 24 y_CS_init "BlockLayer", .methodLinkNest "BlockLayer$Disk" 106 y_BL_trackOf "BlockLayer"]
def fhCast : List Cond := [.castable "BlockLayer$Request" "BlockLayer$Request", .castable "BlockLayer$Copy" "BlockLayer$Copy", .castable "BlockLayer$Request" "java/lang/Object", .castable "BlockLayer$Copy" "java/lang/Object"]
def fh_Z (E : fh_E) (A : Nat → Prop) (U : State) (H : Heap) : Prop :=
  va_Z "java/util/ArrayList" "DEFAULTCAPACITY_EMPTY_ELEMENTDATA" fh_es (.ref (fh_ed E)) A U H ∧ va_T (.object "java/lang/Object") (fh_ed E) 0 (fun _ => .null) A U H ∧ va_Mi fh_es (fh_mi E) U ∧ va_AO "java/lang/Object" U ∧ va_Dc U ∧ (∀ w ∈ fhNest, va_Nw w U) ∧ (∀ w ∈ fhCast, va_Nw w U)
theorem fh_Z.warm {E : fh_E} {A : Nat → Prop} {u U : State} {H : Heap} (hW : u.WarmedH U.vm) (h : fh_Z E A u H) : fh_Z E A U H := by
  obtain ⟨h1, h2, h3, h4, h5, h6, h7⟩ := h
  refine ⟨h1.moved hW.alike, h2.moved hW.alike, h3.moved hW.alike, h4.moved hW.alike, h5.moved hW.alike, fun w hw => ?_, fun w hw => ?_⟩
  · have := h6 w hw
    simp only [fhNest, List.mem_cons, List.not_mem_nil, or_false] at hw
    rcases hw with rfl | rfl | rfl | rfl | rfl <;> exact va_Nw.warmM hW this
  · have := h7 w hw
    simp only [fhCast, List.mem_cons, List.not_mem_nil, or_false] at hw
    rcases hw with rfl | rfl | rfl | rfl <;> exact va_Nw.warmC hW this
theorem fh_Z.kept {E : fh_E} {A : Nat → Prop} {U : State} {H H1 : Heap} (h : fh_Z E A U H) (hq : ∀ a : Nat, a < H.size → ¬ A a → H1[a]? = H[a]?) : fh_Z E A U H1 := by
  obtain ⟨h1, h2, h3, h4, h5, h6, h7⟩ := h
  exact ⟨h1.kept hq, h2.kept hq, h3, h4, h5, h6, h7⟩
theorem fh_Z.narrow {E : fh_E} {A B : Nat → Prop} {U : State} {H : Heap} (h : fh_Z E A U H) (hAB : ∀ q, B q → A q) : fh_Z E B U H := by
  obtain ⟨h1, h2, h3, h4, h5, h6, h7⟩ := h
  exact ⟨h1.narrow hAB, h2.narrow hAB, h3, h4, h5, h6, h7⟩
