section
-- ===== PART A: goes FIRST, ahead of the names: the tables' words, and 'selects' of the private methods out of them =====
/-- a private method of a class that the tables say can be made, by its rows of tables_1 -/
def lw_okq (q : MethodName × Nat) : Prop := (q.1.cls ≠ "java/lang/invoke/MethodHandle" ∧ q.1.cls ≠ "java/lang/invoke/VarHandle") ∧ Cond.instantiable q.1.cls q.2 ∈ tables_1 ∧ Cond.privateMethod q.1 ∈ tables_1 ∧ Cond.instanceMethod q.1 ∈ tables_1
theorem lw_p0 : lw_okq (⟨"BlockLayer$Disk", "beginIfIdle", "()V"⟩, 11) := ⟨⟨by decide +kernel, by decide +kernel⟩, List.mem_of_getElem? (i := 68) (by decide +kernel), List.mem_of_getElem? (i := 173) (by decide +kernel), List.mem_of_getElem? (i := 174) (by decide +kernel)⟩
theorem lw_p1 : lw_okq (⟨"BlockLayer$Disk", "chosenPlace", "()I"⟩, 11) := ⟨⟨by decide +kernel, by decide +kernel⟩, List.mem_of_getElem? (i := 68) (by decide +kernel), List.mem_of_getElem? (i := 177) (by decide +kernel), List.mem_of_getElem? (i := 178) (by decide +kernel)⟩
theorem lw_p2 : lw_okq (⟨"BlockLayer$Disk", "isOldUnderPolicy", "(LBlockLayer$Request;)Z"⟩, 11) := ⟨⟨by decide +kernel, by decide +kernel⟩, List.mem_of_getElem? (i := 68) (by decide +kernel), List.mem_of_getElem? (i := 200) (by decide +kernel), List.mem_of_getElem? (i := 201) (by decide +kernel)⟩
theorem lw_p3 : lw_okq (⟨"BlockLayer$Disk", "sideOfPolicy", "()I"⟩, 11) := ⟨⟨by decide +kernel, by decide +kernel⟩, List.mem_of_getElem? (i := 68) (by decide +kernel), List.mem_of_getElem? (i := 204) (by decide +kernel), List.mem_of_getElem? (i := 205) (by decide +kernel)⟩
theorem lw_p4 : lw_okq (⟨"BlockLayer$Disk", "nearestPlace", "(I)I"⟩, 11) := ⟨⟨by decide +kernel, by decide +kernel⟩, List.mem_of_getElem? (i := 68) (by decide +kernel), List.mem_of_getElem? (i := 208) (by decide +kernel), List.mem_of_getElem? (i := 209) (by decide +kernel)⟩
theorem lw_p5 : lw_okq (⟨"BlockLayer$Disk", "tracksAway", "(II)I"⟩, 11) := ⟨⟨by decide +kernel, by decide +kernel⟩, List.mem_of_getElem? (i := 68) (by decide +kernel), List.mem_of_getElem? (i := 219) (by decide +kernel), List.mem_of_getElem? (i := 220) (by decide +kernel)⟩
theorem lw_p6 : lw_okq (⟨"java/util/ArrayList", "fastRemove", "([Ljava/lang/Object;I)V"⟩, 3) := ⟨⟨by decide +kernel, by decide +kernel⟩, List.mem_of_getElem? (i := 38) (by decide +kernel), List.mem_of_getElem? (i := 234) (by decide +kernel), List.mem_of_getElem? (i := 235) (by decide +kernel)⟩
theorem lw_p7 : lw_okq (⟨"BlockLayer$Disk", "passUntilEnd", "(I)I"⟩, 11) := ⟨⟨by decide +kernel, by decide +kernel⟩, List.mem_of_getElem? (i := 68) (by decide +kernel), List.mem_of_getElem? (i := 246) (by decide +kernel), List.mem_of_getElem? (i := 247) (by decide +kernel)⟩
theorem lw_p8 : lw_okq (⟨"BlockLayer$Disk", "end", "(LBlockLayer$Request;)V"⟩, 11) := ⟨⟨by decide +kernel, by decide +kernel⟩, List.mem_of_getElem? (i := 68) (by decide +kernel), List.mem_of_getElem? (i := 253) (by decide +kernel), List.mem_of_getElem? (i := 254) (by decide +kernel)⟩
theorem lw_p9 : lw_okq (⟨"BlockLayer$Disk", "valueInside", "(I)I"⟩, 11) := ⟨⟨by decide +kernel, by decide +kernel⟩, List.mem_of_getElem? (i := 68) (by decide +kernel), List.mem_of_getElem? (i := 257) (by decide +kernel), List.mem_of_getElem? (i := 258) (by decide +kernel)⟩
theorem lw_p10 : lw_okq (⟨"java/util/ArrayList", "add", "(Ljava/lang/Object;[Ljava/lang/Object;I)V"⟩, 3) := ⟨⟨by decide +kernel, by decide +kernel⟩, List.mem_of_getElem? (i := 38) (by decide +kernel), List.mem_of_getElem? (i := 298) (by decide +kernel), List.mem_of_getElem? (i := 299) (by decide +kernel)⟩
theorem lw_p11 : lw_okq (⟨"java/util/ArrayList", "grow", "()[Ljava/lang/Object;"⟩, 3) := ⟨⟨by decide +kernel, by decide +kernel⟩, List.mem_of_getElem? (i := 38) (by decide +kernel), List.mem_of_getElem? (i := 302) (by decide +kernel), List.mem_of_getElem? (i := 303) (by decide +kernel)⟩
theorem lw_p12 : lw_okq (⟨"java/util/ArrayList", "grow", "(I)[Ljava/lang/Object;"⟩, 3) := ⟨⟨by decide +kernel, by decide +kernel⟩, List.mem_of_getElem? (i := 38) (by decide +kernel), List.mem_of_getElem? (i := 306) (by decide +kernel), List.mem_of_getElem? (i := 307) (by decide +kernel)⟩
theorem lw_p13 : lw_okq (⟨"BlockLayer$Disk", "moveToMedia", "(I)V"⟩, 11) := ⟨⟨by decide +kernel, by decide +kernel⟩, List.mem_of_getElem? (i := 68) (by decide +kernel), List.mem_of_getElem? (i := 348) (by decide +kernel), List.mem_of_getElem? (i := 349) (by decide +kernel)⟩
theorem lw_p14 : lw_okq (⟨"BlockLayer", "newestOf", "(I)I"⟩, 7) := ⟨⟨by decide +kernel, by decide +kernel⟩, List.mem_of_getElem? (i := 24) (by decide +kernel), List.mem_of_getElem? (i := 364) (by decide +kernel), List.mem_of_getElem? (i := 365) (by decide +kernel)⟩
theorem lw_p15 : lw_okq (⟨"BlockLayer", "liveRequest", "(I)LBlockLayer$Request;"⟩, 7) := ⟨⟨by decide +kernel, by decide +kernel⟩, List.mem_of_getElem? (i := 24) (by decide +kernel), List.mem_of_getElem? (i := 416) (by decide +kernel), List.mem_of_getElem? (i := 417) (by decide +kernel)⟩
def lw_privs_1 : List (MethodName × Nat) := [(⟨"BlockLayer$Disk", "beginIfIdle", "()V"⟩, 11), (⟨"BlockLayer$Disk", "chosenPlace", "()I"⟩, 11), (⟨"BlockLayer$Disk", "isOldUnderPolicy", "(LBlockLayer$Request;)Z"⟩, 11), (⟨"BlockLayer$Disk", "sideOfPolicy", "()I"⟩, 11), (⟨"BlockLayer$Disk", "nearestPlace", "(I)I"⟩, 11), (⟨"BlockLayer$Disk", "tracksAway", "(II)I"⟩, 11), (⟨"java/util/ArrayList", "fastRemove", "([Ljava/lang/Object;I)V"⟩, 3), (⟨"BlockLayer$Disk", "passUntilEnd", "(I)I"⟩, 11), (⟨"BlockLayer$Disk", "end", "(LBlockLayer$Request;)V"⟩, 11), (⟨"BlockLayer$Disk", "valueInside", "(I)I"⟩, 11), (⟨"java/util/ArrayList", "add", "(Ljava/lang/Object;[Ljava/lang/Object;I)V"⟩, 3), (⟨"java/util/ArrayList", "grow", "()[Ljava/lang/Object;"⟩, 3), (⟨"java/util/ArrayList", "grow", "(I)[Ljava/lang/Object;"⟩, 3), (⟨"BlockLayer$Disk", "moveToMedia", "(I)V"⟩, 11), (⟨"BlockLayer", "newestOf", "(I)I"⟩, 7), (⟨"BlockLayer", "liveRequest", "(I)LBlockLayer$Request;"⟩, 7)]
theorem lw_r1 : ∀ q ∈ lw_privs_1, lw_okq q := List.forall_mem_cons.mpr ⟨lw_p0, List.forall_mem_cons.mpr ⟨lw_p1, List.forall_mem_cons.mpr ⟨lw_p2, List.forall_mem_cons.mpr ⟨lw_p3, List.forall_mem_cons.mpr ⟨lw_p4, List.forall_mem_cons.mpr ⟨lw_p5, List.forall_mem_cons.mpr ⟨lw_p6, List.forall_mem_cons.mpr ⟨lw_p7, List.forall_mem_cons.mpr ⟨lw_p8, List.forall_mem_cons.mpr ⟨lw_p9, List.forall_mem_cons.mpr ⟨lw_p10, List.forall_mem_cons.mpr ⟨lw_p11, List.forall_mem_cons.mpr ⟨lw_p12, List.forall_mem_cons.mpr ⟨lw_p13, List.forall_mem_cons.mpr ⟨lw_p14, List.forall_mem_cons.mpr ⟨lw_p15, fun _ h => absurd h List.not_mem_nil⟩⟩⟩⟩⟩⟩⟩⟩⟩⟩⟩⟩⟩⟩⟩⟩
theorem lw_p16 : lw_okq (⟨"java/lang/Throwable", "fillInStackTrace", "(I)Ljava/lang/Throwable;"⟩, 6) := ⟨⟨by decide +kernel, by decide +kernel⟩, List.mem_of_getElem? (i := 480) (by decide +kernel), List.mem_of_getElem? (i := 478) (by decide +kernel), List.mem_of_getElem? (i := 479) (by decide +kernel)⟩
theorem lw_p17 : lw_okq (⟨"BlockLayer", "requireQueueRoom", "(I)V"⟩, 7) := ⟨⟨by decide +kernel, by decide +kernel⟩, List.mem_of_getElem? (i := 24) (by decide +kernel), List.mem_of_getElem? (i := 510) (by decide +kernel), List.mem_of_getElem? (i := 511) (by decide +kernel)⟩
theorem lw_p18 : lw_okq (⟨"BlockLayer", "makeBufferRoom", "()V"⟩, 7) := ⟨⟨by decide +kernel, by decide +kernel⟩, List.mem_of_getElem? (i := 24) (by decide +kernel), List.mem_of_getElem? (i := 530) (by decide +kernel), List.mem_of_getElem? (i := 531) (by decide +kernel)⟩
theorem lw_p19 : lw_okq (⟨"BlockLayer", "writeBack", "(LBlockLayer$Copy;)V"⟩, 7) := ⟨⟨by decide +kernel, by decide +kernel⟩, List.mem_of_getElem? (i := 24) (by decide +kernel), List.mem_of_getElem? (i := 535) (by decide +kernel), List.mem_of_getElem? (i := 536) (by decide +kernel)⟩
theorem lw_p20 : lw_okq (⟨"BlockLayer", "makeRequest", "(III)LBlockLayer$Request;"⟩, 7) := ⟨⟨by decide +kernel, by decide +kernel⟩, List.mem_of_getElem? (i := 24) (by decide +kernel), List.mem_of_getElem? (i := 543) (by decide +kernel), List.mem_of_getElem? (i := 544) (by decide +kernel)⟩
theorem lw_p21 : lw_okq (⟨"BlockLayerModel", "bufferOf", "(I)I"⟩, 29) := ⟨⟨by decide +kernel, by decide +kernel⟩, List.mem_of_getElem? (i := 668) (by decide +kernel), List.mem_of_getElem? (i := 774) (by decide +kernel), List.mem_of_getElem? (i := 775) (by decide +kernel)⟩
theorem lw_p22 : lw_okq (⟨"BlockLayerModel", "closeUp", "(I)V"⟩, 29) := ⟨⟨by decide +kernel, by decide +kernel⟩, List.mem_of_getElem? (i := 668) (by decide +kernel), List.mem_of_getElem? (i := 778) (by decide +kernel), List.mem_of_getElem? (i := 779) (by decide +kernel)⟩
theorem lw_p23 : lw_okq (⟨"BlockLayerModel", "putLast", "(IIZ)V"⟩, 29) := ⟨⟨by decide +kernel, by decide +kernel⟩, List.mem_of_getElem? (i := 668) (by decide +kernel), List.mem_of_getElem? (i := 782) (by decide +kernel), List.mem_of_getElem? (i := 783) (by decide +kernel)⟩
theorem lw_p24 : lw_okq (⟨"BlockLayerModel", "makeRoom", "()V"⟩, 29) := ⟨⟨by decide +kernel, by decide +kernel⟩, List.mem_of_getElem? (i := 668) (by decide +kernel), List.mem_of_getElem? (i := 786) (by decide +kernel), List.mem_of_getElem? (i := 787) (by decide +kernel)⟩
theorem lw_p25 : lw_okq (⟨"BlockLayerModel", "ask", "(III)V"⟩, 29) := ⟨⟨by decide +kernel, by decide +kernel⟩, List.mem_of_getElem? (i := 668) (by decide +kernel), List.mem_of_getElem? (i := 790) (by decide +kernel), List.mem_of_getElem? (i := 791) (by decide +kernel)⟩
theorem lw_p26 : lw_okq (⟨"BlockLayerModel", "beginOne", "()V"⟩, 29) := ⟨⟨by decide +kernel, by decide +kernel⟩, List.mem_of_getElem? (i := 668) (by decide +kernel), List.mem_of_getElem? (i := 794) (by decide +kernel), List.mem_of_getElem? (i := 795) (by decide +kernel)⟩
theorem lw_p27 : lw_okq (⟨"BlockLayerModel", "chosen", "()I"⟩, 29) := ⟨⟨by decide +kernel, by decide +kernel⟩, List.mem_of_getElem? (i := 668) (by decide +kernel), List.mem_of_getElem? (i := 798) (by decide +kernel), List.mem_of_getElem? (i := 799) (by decide +kernel)⟩
theorem lw_p28 : lw_okq (⟨"BlockLayerModel", "nearest", "(I)I"⟩, 29) := ⟨⟨by decide +kernel, by decide +kernel⟩, List.mem_of_getElem? (i := 668) (by decide +kernel), List.mem_of_getElem? (i := 802) (by decide +kernel), List.mem_of_getElem? (i := 803) (by decide +kernel)⟩
theorem lw_p29 : lw_okq (⟨"BlockLayerModel", "isReady", "(I)Z"⟩, 29) := ⟨⟨by decide +kernel, by decide +kernel⟩, List.mem_of_getElem? (i := 668) (by decide +kernel), List.mem_of_getElem? (i := 806) (by decide +kernel), List.mem_of_getElem? (i := 807) (by decide +kernel)⟩
theorem lw_p30 : lw_okq (⟨"BlockLayerModel", "distance", "(II)I"⟩, 29) := ⟨⟨by decide +kernel, by decide +kernel⟩, List.mem_of_getElem? (i := 668) (by decide +kernel), List.mem_of_getElem? (i := 810) (by decide +kernel), List.mem_of_getElem? (i := 811) (by decide +kernel)⟩
theorem lw_p31 : lw_okq (⟨"BlockLayerModel", "track", "(I)I"⟩, 29) := ⟨⟨by decide +kernel, by decide +kernel⟩, List.mem_of_getElem? (i := 668) (by decide +kernel), List.mem_of_getElem? (i := 814) (by decide +kernel), List.mem_of_getElem? (i := 815) (by decide +kernel)⟩
def lw_privs_2 : List (MethodName × Nat) := [(⟨"java/lang/Throwable", "fillInStackTrace", "(I)Ljava/lang/Throwable;"⟩, 6), (⟨"BlockLayer", "requireQueueRoom", "(I)V"⟩, 7), (⟨"BlockLayer", "makeBufferRoom", "()V"⟩, 7), (⟨"BlockLayer", "writeBack", "(LBlockLayer$Copy;)V"⟩, 7), (⟨"BlockLayer", "makeRequest", "(III)LBlockLayer$Request;"⟩, 7), (⟨"BlockLayerModel", "bufferOf", "(I)I"⟩, 29), (⟨"BlockLayerModel", "closeUp", "(I)V"⟩, 29), (⟨"BlockLayerModel", "putLast", "(IIZ)V"⟩, 29), (⟨"BlockLayerModel", "makeRoom", "()V"⟩, 29), (⟨"BlockLayerModel", "ask", "(III)V"⟩, 29), (⟨"BlockLayerModel", "beginOne", "()V"⟩, 29), (⟨"BlockLayerModel", "chosen", "()I"⟩, 29), (⟨"BlockLayerModel", "nearest", "(I)I"⟩, 29), (⟨"BlockLayerModel", "isReady", "(I)Z"⟩, 29), (⟨"BlockLayerModel", "distance", "(II)I"⟩, 29), (⟨"BlockLayerModel", "track", "(I)I"⟩, 29)]
theorem lw_r2 : ∀ q ∈ lw_privs_2, lw_okq q := List.forall_mem_cons.mpr ⟨lw_p16, List.forall_mem_cons.mpr ⟨lw_p17, List.forall_mem_cons.mpr ⟨lw_p18, List.forall_mem_cons.mpr ⟨lw_p19, List.forall_mem_cons.mpr ⟨lw_p20, List.forall_mem_cons.mpr ⟨lw_p21, List.forall_mem_cons.mpr ⟨lw_p22, List.forall_mem_cons.mpr ⟨lw_p23, List.forall_mem_cons.mpr ⟨lw_p24, List.forall_mem_cons.mpr ⟨lw_p25, List.forall_mem_cons.mpr ⟨lw_p26, List.forall_mem_cons.mpr ⟨lw_p27, List.forall_mem_cons.mpr ⟨lw_p28, List.forall_mem_cons.mpr ⟨lw_p29, List.forall_mem_cons.mpr ⟨lw_p30, List.forall_mem_cons.mpr ⟨lw_p31, fun _ h => absurd h List.not_mem_nil⟩⟩⟩⟩⟩⟩⟩⟩⟩⟩⟩⟩⟩⟩⟩⟩
theorem lw_p32 : lw_okq (⟨"BlockLayerModel", "lowest", "()I"⟩, 29) := ⟨⟨by decide +kernel, by decide +kernel⟩, List.mem_of_getElem? (i := 668) (by decide +kernel), List.mem_of_getElem? (i := 818) (by decide +kernel), List.mem_of_getElem? (i := 819) (by decide +kernel)⟩
theorem lw_p33 : lw_okq (⟨"BlockLayerModel", "copyRequest", "(II)V"⟩, 29) := ⟨⟨by decide +kernel, by decide +kernel⟩, List.mem_of_getElem? (i := 668) (by decide +kernel), List.mem_of_getElem? (i := 822) (by decide +kernel), List.mem_of_getElem? (i := 823) (by decide +kernel)⟩
theorem lw_p34 : lw_okq (⟨"BlockLayerModel", "endOne", "()V"⟩, 29) := ⟨⟨by decide +kernel, by decide +kernel⟩, List.mem_of_getElem? (i := 668) (by decide +kernel), List.mem_of_getElem? (i := 826) (by decide +kernel), List.mem_of_getElem? (i := 827) (by decide +kernel)⟩
theorem lw_p35 : lw_okq (⟨"BlockLayerModel", "valueAt", "(I)I"⟩, 29) := ⟨⟨by decide +kernel, by decide +kernel⟩, List.mem_of_getElem? (i := 668) (by decide +kernel), List.mem_of_getElem? (i := 830) (by decide +kernel), List.mem_of_getElem? (i := 831) (by decide +kernel)⟩
theorem lw_p36 : lw_okq (⟨"BlockLayerModel", "cache", "(II)V"⟩, 29) := ⟨⟨by decide +kernel, by decide +kernel⟩, List.mem_of_getElem? (i := 668) (by decide +kernel), List.mem_of_getElem? (i := 834) (by decide +kernel), List.mem_of_getElem? (i := 835) (by decide +kernel)⟩
theorem lw_p37 : lw_okq (⟨"BlockLayerModel", "newestOf", "(I)I"⟩, 29) := ⟨⟨by decide +kernel, by decide +kernel⟩, List.mem_of_getElem? (i := 668) (by decide +kernel), List.mem_of_getElem? (i := 862) (by decide +kernel), List.mem_of_getElem? (i := 863) (by decide +kernel)⟩
def lw_privs_3 : List (MethodName × Nat) := [(⟨"BlockLayerModel", "lowest", "()I"⟩, 29), (⟨"BlockLayerModel", "copyRequest", "(II)V"⟩, 29), (⟨"BlockLayerModel", "endOne", "()V"⟩, 29), (⟨"BlockLayerModel", "valueAt", "(I)I"⟩, 29), (⟨"BlockLayerModel", "cache", "(II)V"⟩, 29), (⟨"BlockLayerModel", "newestOf", "(I)I"⟩, 29)]
theorem lw_r3 : ∀ q ∈ lw_privs_3, lw_okq q := List.forall_mem_cons.mpr ⟨lw_p32, List.forall_mem_cons.mpr ⟨lw_p33, List.forall_mem_cons.mpr ⟨lw_p34, List.forall_mem_cons.mpr ⟨lw_p35, List.forall_mem_cons.mpr ⟨lw_p36, List.forall_mem_cons.mpr ⟨lw_p37, fun _ h => absurd h List.not_mem_nil⟩⟩⟩⟩⟩⟩
def lw_privs : List (MethodName × Nat) := lw_privs_1 ++ (lw_privs_2 ++ (lw_privs_3))
def lw_tbl : List Cond := k2_sels lw_privs ++ tables_1
theorem lw_privs_ok : ∀ q ∈ lw_privs, lw_okq q := by
  show ∀ q ∈ lw_privs_1 ++ (lw_privs_2 ++ (lw_privs_3)), lw_okq q
  exact List.forall_mem_append.mpr ⟨lw_r1, List.forall_mem_append.mpr ⟨lw_r2, lw_r3⟩⟩
end
section
abbrev R_BL : String := "BlockLayer"
abbrev R_CS : String := "BlockLayer$Copies"
abbrev R_CP : String := "BlockLayer$Copy"
abbrev R_DK : String := "BlockLayer$Disk"
abbrev R_QU : String := "BlockLayer$Queue"
abbrev R_RQ : String := "BlockLayer$Request"
abbrev R_MD : String := "BlockLayerModel"
abbrev R_LW : String := "BlockLayerLaw"
abbrev R_AL : String := "java/util/ArrayList"
abbrev R_AB : String := "java/util/AbstractList"
abbrev R_AC : String := "java/util/AbstractCollection"
abbrev R_OB : String := "java/util/Objects"
abbrev R_PR : String := "jdk/internal/util/Preconditions"
abbrev R_AS : String := "jdk/internal/util/ArraysSupport"
abbrev R_AR : String := "java/util/Arrays"
abbrev R_MA : String := "java/lang/Math"
abbrev R_JO : String := "java/lang/Object"
def T_AL : u_T := fun k => match k with
  | 0 => ("java/util/ArrayList", "elementData", "[Ljava/lang/Object;", false)
  | 1 => ("java/util/ArrayList", "size", "I", false)
  | _ => ("java/util/AbstractList", "modCount", "I", false)
def ty_AL : Nat → FieldType := fun k => match k with
  | 0 => .array (.object "java/lang/Object")
  | 1 => .int
  | _ => .int
def T_CP : u_T := fun k => match k with
  | 0 => ("BlockLayer$Copy", "block", "I", true)
  | 1 => ("BlockLayer$Copy", "value", "I", false)
  | _ => ("BlockLayer$Copy", "dirty", "Z", false)
def ty_CP : Nat → FieldType := fun k => match k with
  | 0 => .int
  | 1 => .int
  | _ => .boolean
def T_CS : u_T := fun k => match k with
  | _ => ("BlockLayer$Copies", "inOrder", "Ljava/util/ArrayList;", true)
def ty_CS : Nat → FieldType := fun k => match k with
  | _ => .object "java/util/ArrayList"
def T_RQ : u_T := fun k => match k with
  | 0 => ("BlockLayer$Request", "number", "I", true)
  | 1 => ("BlockLayer$Request", "kind", "I", true)
  | 2 => ("BlockLayer$Request", "block", "I", true)
  | 3 => ("BlockLayer$Request", "made", "I", true)
  | 4 => ("BlockLayer$Request", "value", "I", false)
  | _ => ("BlockLayer$Request", "ended", "Z", false)
def ty_RQ : Nat → FieldType := fun k => match k with
  | 0 => .int
  | 1 => .int
  | 2 => .int
  | 3 => .int
  | 4 => .int
  | _ => .boolean
def T_QU : u_T := fun k => match k with
  | _ => ("BlockLayer$Queue", "waiting", "Ljava/util/ArrayList;", true)
def ty_QU : Nat → FieldType := fun k => match k with
  | _ => .object "java/util/ArrayList"
def T_DK : u_T := fun k => match k with
  | 0 => ("BlockLayer$Disk", "queue", "LBlockLayer$Queue;", true)
  | 1 => ("BlockLayer$Disk", "onMedia", "[I", true)
  | 2 => ("BlockLayer$Disk", "cache", "LBlockLayer$Copies;", true)
  | 3 => ("BlockLayer$Disk", "serving", "LBlockLayer$Request;", false)
  | 4 => ("BlockLayer$Disk", "unitsLeft", "I", false)
  | 5 => ("BlockLayer$Disk", "time", "I", false)
  | 6 => ("BlockLayer$Disk", "head", "I", false)
  | 7 => ("BlockLayer$Disk", "goesUp", "Z", false)
  | 8 => ("BlockLayer$Disk", "way", "I", false)
  | 9 => ("BlockLayer$Disk", "served", "I", false)
  | _ => ("BlockLayer$Disk", "idleUnits", "I", false)
def ty_DK : Nat → FieldType := fun k => match k with
  | 0 => .object "BlockLayer$Queue"
  | 1 => .array .int
  | 2 => .object "BlockLayer$Copies"
  | 3 => .object "BlockLayer$Request"
  | 4 => .int
  | 5 => .int
  | 6 => .int
  | 7 => .boolean
  | 8 => .int
  | 9 => .int
  | _ => .int
def T_BL : u_T := fun k => match k with
  | 0 => ("BlockLayer", "buffers", "LBlockLayer$Copies;", true)
  | 1 => ("BlockLayer", "disk", "LBlockLayer$Disk;", true)
  | 2 => ("BlockLayer", "nextNumber", "I", false)
  | 3 => ("BlockLayer", "hits", "I", false)
  | 4 => ("BlockLayer", "misses", "I", false)
  | 5 => ("BlockLayer", "evictions", "I", false)
  | _ => ("BlockLayer", "absorbed", "I", false)
def ty_BL : Nat → FieldType := fun k => match k with
  | 0 => .object "BlockLayer$Copies"
  | 1 => .object "BlockLayer$Disk"
  | 2 => .int
  | 3 => .int
  | 4 => .int
  | 5 => .int
  | _ => .int
def T_MD : u_T := fun k => match k with
  | 0 => ("BlockLayerModel", "code", "I", false)
  | 1 => ("BlockLayerModel", "now", "I", false)
  | 2 => ("BlockLayerModel", "idle", "I", false)
  | 3 => ("BlockLayerModel", "hits", "I", false)
  | 4 => ("BlockLayerModel", "misses", "I", false)
  | 5 => ("BlockLayerModel", "evictions", "I", false)
  | 6 => ("BlockLayerModel", "absorbed", "I", false)
  | 7 => ("BlockLayerModel", "served", "I", false)
  | 8 => ("BlockLayerModel", "policy", "I", false)
  | 9 => ("BlockLayerModel", "media", "[I", true)
  | 10 => ("BlockLayerModel", "buffers", "I", false)
  | 11 => ("BlockLayerModel", "bufferBlock", "[I", true)
  | 12 => ("BlockLayerModel", "bufferValue", "[I", true)
  | 13 => ("BlockLayerModel", "dirty", "[Z", true)
  | 14 => ("BlockLayerModel", "numbers", "I", false)
  | 15 => ("BlockLayerModel", "queue", "I", false)
  | 16 => ("BlockLayerModel", "number", "[I", true)
  | 17 => ("BlockLayerModel", "kind", "[I", true)
  | 18 => ("BlockLayerModel", "block", "[I", true)
  | 19 => ("BlockLayerModel", "value", "[I", true)
  | 20 => ("BlockLayerModel", "made", "[I", true)
  | 21 => ("BlockLayerModel", "cached", "I", false)
  | 22 => ("BlockLayerModel", "cacheBlock", "[I", true)
  | 23 => ("BlockLayerModel", "cacheValue", "[I", true)
  | 24 => ("BlockLayerModel", "head", "I", false)
  | 25 => ("BlockLayerModel", "up", "Z", false)
  | 26 => ("BlockLayerModel", "serves", "Z", false)
  | 27 => ("BlockLayerModel", "until", "I", false)
  | _ => ("BlockLayerModel", "lastRead", "I", false)
def ty_MD : Nat → FieldType := fun k => match k with
  | 0 => .int
  | 1 => .int
  | 2 => .int
  | 3 => .int
  | 4 => .int
  | 5 => .int
  | 6 => .int
  | 7 => .int
  | 8 => .int
  | 9 => .array .int
  | 10 => .int
  | 11 => .array .int
  | 12 => .array .int
  | 13 => .array .boolean
  | 14 => .int
  | 15 => .int
  | 16 => .array .int
  | 17 => .array .int
  | 18 => .array .int
  | 19 => .array .int
  | 20 => .array .int
  | 21 => .int
  | 22 => .array .int
  | 23 => .array .int
  | 24 => .int
  | 25 => .boolean
  | 26 => .boolean
  | 27 => .int
  | _ => .int
abbrev vwCl : List vw_C := [(R_AL, T_AL, 3), (R_CP, T_CP, 3), (R_CS, T_CS, 1), (R_RQ, T_RQ, 6), (R_QU, T_QU, 1), (R_DK, T_DK, 11), (R_BL, T_BL, 7), (R_MD, T_MD, 29)]
def G : List Cond := lw_tbl.filter goodWord
theorem gmk {w : Cond} (i : Nat) (h : lw_tbl[i]? = some w) (hg : goodWord w = true) : w ∈ G := List.mem_filter.mpr ⟨List.mem_of_getElem? h, hg⟩
theorem G_good : ∀ w ∈ G, goodWord w = true := fun w h => (List.mem_filter.mp h).2
theorem G_tbl : ∀ w ∈ G, w ∈ lw_tbl := fun w h => (List.mem_filter.mp h).1
abbrev b_AB_init : ByteArray := prog_22_method_1_code
def y_AB_init : MethodName := ⟨R_AB, "<init>", "()V"⟩
abbrev w_AB_init : List Cond := .code y_AB_init b_AB_init 1 none :: G
abbrev b_AC_init : ByteArray := prog_21_method_1_code
def y_AC_init : MethodName := ⟨R_AC, "<init>", "()V"⟩
abbrev w_AC_init : List Cond := .code y_AC_init b_AC_init 1 none :: G
abbrev b_AL_add0 : ByteArray := prog_23_method_25_code
def y_AL_add0 : MethodName := ⟨R_AL, "add", "(Ljava/lang/Object;)Z"⟩
abbrev w_AL_add0 : List Cond := .code y_AL_add0 b_AL_add0 2 (some .boolean) :: G
abbrev b_AL_add1 : ByteArray := prog_23_method_24_code
def y_AL_add1 : MethodName := ⟨R_AL, "add", "(Ljava/lang/Object;[Ljava/lang/Object;I)V"⟩
abbrev w_AL_add1 : List Cond := .code y_AL_add1 b_AL_add1 4 none :: G
abbrev b_AL_clear : ByteArray := prog_23_method_40_code
def y_AL_clear : MethodName := ⟨R_AL, "clear", "()V"⟩
abbrev w_AL_clear : List Cond := .code y_AL_clear b_AL_clear 4 none :: G
abbrev b_AL_elementData : ByteArray := prog_23_method_18_code
def y_AL_elementData : MethodName := ⟨R_AL, "elementData", "(I)Ljava/lang/Object;"⟩
abbrev w_AL_elementData : List Cond := .code y_AL_elementData b_AL_elementData 2 (some (.object "java/lang/Object")) :: G
abbrev b_AL_fastRemove : ByteArray := prog_23_method_39_code
def y_AL_fastRemove : MethodName := ⟨R_AL, "fastRemove", "([Ljava/lang/Object;I)V"⟩
abbrev w_AL_fastRemove : List Cond := .code y_AL_fastRemove b_AL_fastRemove 4 none :: G
abbrev b_AL_get : ByteArray := prog_23_method_20_code
def y_AL_get : MethodName := ⟨R_AL, "get", "(I)Ljava/lang/Object;"⟩
abbrev w_AL_get : List Cond := .code y_AL_get b_AL_get 2 (some (.object "java/lang/Object")) :: G
abbrev b_AL_grow0 : ByteArray := prog_23_method_7_code
def y_AL_grow0 : MethodName := ⟨R_AL, "grow", "()[Ljava/lang/Object;"⟩
abbrev w_AL_grow0 : List Cond := .code y_AL_grow0 b_AL_grow0 1 (some (.array (.object "java/lang/Object"))) :: G
abbrev b_AL_grow1 : ByteArray := prog_23_method_6_code
def y_AL_grow1 : MethodName := ⟨R_AL, "grow", "(I)[Ljava/lang/Object;"⟩
abbrev w_AL_grow1 : List Cond := .code y_AL_grow1 b_AL_grow1 4 (some (.array (.object "java/lang/Object"))) :: G
abbrev b_AL_init : ByteArray := prog_23_method_2_code
def y_AL_init : MethodName := ⟨R_AL, "<init>", "()V"⟩
abbrev w_AL_init : List Cond := .code y_AL_init b_AL_init 1 none :: G
abbrev b_AL_isEmpty : ByteArray := prog_23_method_9_code
def y_AL_isEmpty : MethodName := ⟨R_AL, "isEmpty", "()Z"⟩
abbrev w_AL_isEmpty : List Cond := .code y_AL_isEmpty b_AL_isEmpty 1 (some .boolean) :: G
abbrev b_AL_remove : ByteArray := prog_23_method_29_code
def y_AL_remove : MethodName := ⟨R_AL, "remove", "(I)Ljava/lang/Object;"⟩
abbrev w_AL_remove : List Cond := .code y_AL_remove b_AL_remove 4 (some (.object "java/lang/Object")) :: G
abbrev b_AL_size : ByteArray := prog_23_method_8_code
def y_AL_size : MethodName := ⟨R_AL, "size", "()I"⟩
abbrev w_AL_size : List Cond := .code y_AL_size b_AL_size 1 (some .int) :: G
abbrev b_AR_copyOf0 : ByteArray := prog_24_method_119_code
def y_AR_copyOf0 : MethodName := ⟨R_AR, "copyOf", "([Ljava/lang/Object;I)[Ljava/lang/Object;"⟩
abbrev w_AR_copyOf0 : List Cond := .code y_AR_copyOf0 b_AR_copyOf0 2 (some (.array (.object "java/lang/Object"))) :: G
abbrev b_AR_copyOf1 : ByteArray := prog_24_method_120_code
def y_AR_copyOf1 : MethodName := ⟨R_AR, "copyOf", "([Ljava/lang/Object;ILjava/lang/Class;)[Ljava/lang/Object;"⟩
abbrev w_AR_copyOf1 : List Cond := .code y_AR_copyOf1 b_AR_copyOf1 4 (some (.array (.object "java/lang/Object"))) :: G
abbrev b_AS_hugeLength : ByteArray := prog_30_method_28_code
def y_AS_hugeLength : MethodName := ⟨R_AS, "hugeLength", "(II)I"⟩
abbrev w_AS_hugeLength : List Cond := .code y_AS_hugeLength b_AS_hugeLength 3 (some .int) :: G
abbrev b_AS_newLength : ByteArray := prog_30_method_27_code
def y_AS_newLength : MethodName := ⟨R_AS, "newLength", "(III)I"⟩
abbrev w_AS_newLength : List Cond := .code y_AS_newLength b_AS_newLength 4 (some .int) :: G
abbrev b_BL_buffer : ByteArray := prog_1_method_11_code
def y_BL_buffer : MethodName := ⟨R_BL, "buffer", "(I)I"⟩
abbrev w_BL_buffer : List Cond := .code y_BL_buffer b_BL_buffer 3 (some .int) :: G
abbrev b_BL_crash : ByteArray := prog_1_method_8_code
def y_BL_crash : MethodName := ⟨R_BL, "crash", "()I"⟩
abbrev w_BL_crash : List Cond := .code y_BL_crash b_BL_crash 3 (some .int) :: G
abbrev b_BL_drain : ByteArray := prog_1_method_6_code
def y_BL_drain : MethodName := ⟨R_BL, "drain", "()I"⟩
abbrev w_BL_drain : List Cond := .code y_BL_drain b_BL_drain 3 (some .int) :: G
abbrev b_BL_init : ByteArray := prog_1_method_1_code
def y_BL_init : MethodName := ⟨R_BL, "<init>", "()V"⟩
abbrev w_BL_init : List Cond := .code y_BL_init b_BL_init 1 none :: G
abbrev b_BL_liveRequest : ByteArray := prog_1_method_21_code
def y_BL_liveRequest : MethodName := ⟨R_BL, "liveRequest", "(I)LBlockLayer$Request;"⟩
abbrev w_BL_liveRequest : List Cond := .code y_BL_liveRequest b_BL_liveRequest 3 (some (.object "BlockLayer$Request")) :: G
abbrev b_BL_load : ByteArray := prog_1_method_2_code
def y_BL_load : MethodName := ⟨R_BL, "load", "(I)I"⟩
abbrev w_BL_load : List Cond := .code y_BL_load b_BL_load 5 (some .int) :: G
abbrev b_BL_makeBufferRoom : ByteArray := prog_1_method_18_code
def y_BL_makeBufferRoom : MethodName := ⟨R_BL, "makeBufferRoom", "()V"⟩
abbrev w_BL_makeBufferRoom : List Cond := .code y_BL_makeBufferRoom b_BL_makeBufferRoom 2 none :: G
abbrev b_BL_makeRequest : ByteArray := prog_1_method_20_code
def y_BL_makeRequest : MethodName := ⟨R_BL, "makeRequest", "(III)LBlockLayer$Request;"⟩
abbrev w_BL_makeRequest : List Cond := .code y_BL_makeRequest b_BL_makeRequest 5 (some (.object "BlockLayer$Request")) :: G
abbrev b_BL_media : ByteArray := prog_1_method_10_code
def y_BL_media : MethodName := ⟨R_BL, "media", "(I)I"⟩
abbrev w_BL_media : List Cond := .code y_BL_media b_BL_media 2 (some .int) :: G
abbrev b_BL_newest : ByteArray := prog_1_method_9_code
def y_BL_newest : MethodName := ⟨R_BL, "newest", "(I)I"⟩
abbrev w_BL_newest : List Cond := .code y_BL_newest b_BL_newest 2 (some .int) :: G
abbrev b_BL_newestOf : ByteArray := prog_1_method_22_code
def y_BL_newestOf : MethodName := ⟨R_BL, "newestOf", "(I)I"⟩
abbrev w_BL_newestOf : List Cond := .code y_BL_newestOf b_BL_newestOf 4 (some .int) :: G
abbrev b_BL_policy : ByteArray := prog_1_method_7_code
def y_BL_policy : MethodName := ⟨R_BL, "policy", "(I)I"⟩
abbrev w_BL_policy : List Cond := .code y_BL_policy b_BL_policy 3 (some .int) :: G
abbrev b_BL_queued : ByteArray := prog_1_method_13_code
def y_BL_queued : MethodName := ⟨R_BL, "queued", "(I)I"⟩
abbrev w_BL_queued : List Cond := .code y_BL_queued b_BL_queued 3 (some .int) :: G
abbrev b_BL_request : ByteArray := prog_1_method_14_code
def y_BL_request : MethodName := ⟨R_BL, "request", "(II)I"⟩
abbrev w_BL_request : List Cond := .code y_BL_request b_BL_request 4 (some .int) :: G
abbrev b_BL_requireBlock : ByteArray := prog_1_method_16_code
def y_BL_requireBlock : MethodName := ⟨R_BL, "requireBlock", "(I)V"⟩
abbrev w_BL_requireBlock : List Cond := .code y_BL_requireBlock b_BL_requireBlock 1 none :: G
abbrev b_BL_requireQueueRoom : ByteArray := prog_1_method_17_code
def y_BL_requireQueueRoom : MethodName := ⟨R_BL, "requireQueueRoom", "(I)V"⟩
abbrev w_BL_requireQueueRoom : List Cond := .code y_BL_requireQueueRoom b_BL_requireQueueRoom 2 none :: G
abbrev b_BL_save : ByteArray := prog_1_method_3_code
def y_BL_save : MethodName := ⟨R_BL, "save", "(II)I"⟩
abbrev w_BL_save : List Cond := .code y_BL_save b_BL_save 5 (some .int) :: G
abbrev b_BL_step : ByteArray := prog_1_method_5_code
def y_BL_step : MethodName := ⟨R_BL, "step", "(I)I"⟩
abbrev w_BL_step : List Cond := .code y_BL_step b_BL_step 2 (some .int) :: G
abbrev b_BL_sync : ByteArray := prog_1_method_4_code
def y_BL_sync : MethodName := ⟨R_BL, "sync", "()I"⟩
abbrev w_BL_sync : List Cond := .code y_BL_sync b_BL_sync 4 (some .int) :: G
abbrev b_BL_told : ByteArray := prog_1_method_15_code
def y_BL_told : MethodName := ⟨R_BL, "told", "(I)I"⟩
abbrev w_BL_told : List Cond := .code y_BL_told b_BL_told 2 (some .int) :: G
abbrev b_BL_trackOf : ByteArray := prog_1_method_23_code
def y_BL_trackOf : MethodName := ⟨R_BL, "trackOf", "(I)I"⟩
abbrev w_BL_trackOf : List Cond := .code y_BL_trackOf b_BL_trackOf 1 (some .int) :: G
abbrev b_BL_used : ByteArray := prog_1_method_12_code
def y_BL_used : MethodName := ⟨R_BL, "used", "(I)I"⟩
abbrev w_BL_used : List Cond := .code y_BL_used b_BL_used 3 (some .int) :: G
abbrev b_BL_writeBack : ByteArray := prog_1_method_19_code
def y_BL_writeBack : MethodName := ⟨R_BL, "writeBack", "(LBlockLayer$Copy;)V"⟩
abbrev w_BL_writeBack : List Cond := .code y_BL_writeBack b_BL_writeBack 3 none :: G
abbrev b_CP_init : ByteArray := prog_3_method_1_code
def y_CP_init : MethodName := ⟨R_CP, "<init>", "(II)V"⟩
abbrev w_CP_init : List Cond := .code y_CP_init b_CP_init 3 none :: G
abbrev b_CS_at : ByteArray := prog_2_method_3_code
def y_CS_at : MethodName := ⟨R_CS, "at", "(I)LBlockLayer$Copy;"⟩
abbrev w_CS_at : List Cond := .code y_CS_at b_CS_at 2 (some (.object "BlockLayer$Copy")) :: G
abbrev b_CS_clear : ByteArray := prog_2_method_8_code
def y_CS_clear : MethodName := ⟨R_CS, "clear", "()V"⟩
abbrev w_CS_clear : List Cond := .code y_CS_clear b_CS_clear 1 none :: G
abbrev b_CS_copyOf : ByteArray := prog_2_method_4_code
def y_CS_copyOf : MethodName := ⟨R_CS, "copyOf", "(I)LBlockLayer$Copy;"⟩
abbrev w_CS_copyOf : List Cond := .code y_CS_copyOf b_CS_copyOf 3 (some (.object "BlockLayer$Copy")) :: G
abbrev b_CS_dirtyOfLeastBlock : ByteArray := prog_2_method_7_code
def y_CS_dirtyOfLeastBlock : MethodName := ⟨R_CS, "dirtyOfLeastBlock", "()LBlockLayer$Copy;"⟩
abbrev w_CS_dirtyOfLeastBlock : List Cond := .code y_CS_dirtyOfLeastBlock b_CS_dirtyOfLeastBlock 4 (some (.object "BlockLayer$Copy")) :: G
abbrev b_CS_init : ByteArray := prog_2_method_1_code
def y_CS_init : MethodName := ⟨R_CS, "<init>", "()V"⟩
abbrev w_CS_init : List Cond := .code y_CS_init b_CS_init 1 none :: G
abbrev b_CS_putLast : ByteArray := prog_2_method_5_code
def y_CS_putLast : MethodName := ⟨R_CS, "putLast", "(LBlockLayer$Copy;)V"⟩
abbrev w_CS_putLast : List Cond := .code y_CS_putLast b_CS_putLast 3 none :: G
abbrev b_CS_size : ByteArray := prog_2_method_2_code
def y_CS_size : MethodName := ⟨R_CS, "size", "()I"⟩
abbrev w_CS_size : List Cond := .code y_CS_size b_CS_size 1 (some .int) :: G
abbrev b_CS_takeFirst : ByteArray := prog_2_method_6_code
def y_CS_takeFirst : MethodName := ⟨R_CS, "takeFirst", "()LBlockLayer$Copy;"⟩
abbrev w_CS_takeFirst : List Cond := .code y_CS_takeFirst b_CS_takeFirst 1 (some (.object "BlockLayer$Copy")) :: G
abbrev b_DK_beginIfIdle : ByteArray := prog_4_method_10_code
def y_DK_beginIfIdle : MethodName := ⟨R_DK, "beginIfIdle", "()V"⟩
abbrev w_DK_beginIfIdle : List Cond := .code y_DK_beginIfIdle b_DK_beginIfIdle 3 none :: G
abbrev b_DK_chosenPlace : ByteArray := prog_4_method_13_code
def y_DK_chosenPlace : MethodName := ⟨R_DK, "chosenPlace", "()I"⟩
abbrev w_DK_chosenPlace : List Cond := .code y_DK_chosenPlace b_DK_chosenPlace 3 (some .int) :: G
abbrev b_DK_end : ByteArray := prog_4_method_11_code
def y_DK_end : MethodName := ⟨R_DK, "end", "(LBlockLayer$Request;)V"⟩
abbrev w_DK_end : List Cond := .code y_DK_end b_DK_end 2 none :: G
abbrev b_DK_hasWork : ByteArray := prog_4_method_2_code
def y_DK_hasWork : MethodName := ⟨R_DK, "hasWork", "()Z"⟩
abbrev w_DK_hasWork : List Cond := .code y_DK_hasWork b_DK_hasWork 1 (some .boolean) :: G
abbrev b_DK_init : ByteArray := prog_4_method_1_code
def y_DK_init : MethodName := ⟨R_DK, "<init>", "()V"⟩
abbrev w_DK_init : List Cond := .code y_DK_init b_DK_init 1 none :: G
abbrev b_DK_isOldUnderPolicy : ByteArray := prog_4_method_14_code
def y_DK_isOldUnderPolicy : MethodName := ⟨R_DK, "isOldUnderPolicy", "(LBlockLayer$Request;)Z"⟩
abbrev w_DK_isOldUnderPolicy : List Cond := .code y_DK_isOldUnderPolicy b_DK_isOldUnderPolicy 2 (some .boolean) :: G
abbrev b_DK_loseAllButMedia : ByteArray := prog_4_method_7_code
def y_DK_loseAllButMedia : MethodName := ⟨R_DK, "loseAllButMedia", "()V"⟩
abbrev w_DK_loseAllButMedia : List Cond := .code y_DK_loseAllButMedia b_DK_loseAllButMedia 1 none :: G
abbrev b_DK_moveToMedia : ByteArray := prog_4_method_12_code
def y_DK_moveToMedia : MethodName := ⟨R_DK, "moveToMedia", "(I)V"⟩
abbrev w_DK_moveToMedia : List Cond := .code y_DK_moveToMedia b_DK_moveToMedia 4 none :: G
abbrev b_DK_nearestPlace : ByteArray := prog_4_method_16_code
def y_DK_nearestPlace : MethodName := ⟨R_DK, "nearestPlace", "(I)I"⟩
abbrev w_DK_nearestPlace : List Cond := .code y_DK_nearestPlace b_DK_nearestPlace 7 (some .int) :: G
abbrev b_DK_pass : ByteArray := prog_4_method_3_code
def y_DK_pass : MethodName := ⟨R_DK, "pass", "(I)V"⟩
abbrev w_DK_pass : List Cond := .code y_DK_pass b_DK_pass 4 none :: G
abbrev b_DK_passToNextEnd : ByteArray := prog_4_method_4_code
def y_DK_passToNextEnd : MethodName := ⟨R_DK, "passToNextEnd", "()V"⟩
abbrev w_DK_passToNextEnd : List Cond := .code y_DK_passToNextEnd b_DK_passToNextEnd 1 none :: G
abbrev b_DK_passUntilEnd : ByteArray := prog_4_method_9_code
def y_DK_passUntilEnd : MethodName := ⟨R_DK, "passUntilEnd", "(I)I"⟩
abbrev w_DK_passUntilEnd : List Cond := .code y_DK_passUntilEnd b_DK_passUntilEnd 3 (some .int) :: G
abbrev b_DK_sideOfPolicy : ByteArray := prog_4_method_15_code
def y_DK_sideOfPolicy : MethodName := ⟨R_DK, "sideOfPolicy", "()I"⟩
abbrev w_DK_sideOfPolicy : List Cond := .code y_DK_sideOfPolicy b_DK_sideOfPolicy 1 (some .int) :: G
abbrev b_DK_tracksAway : ByteArray := prog_4_method_17_code
def y_DK_tracksAway : MethodName := ⟨R_DK, "tracksAway", "(II)I"⟩
abbrev w_DK_tracksAway : List Cond := .code y_DK_tracksAway b_DK_tracksAway 3 (some .int) :: G
abbrev b_DK_valueAfterServing : ByteArray := prog_4_method_6_code
def y_DK_valueAfterServing : MethodName := ⟨R_DK, "valueAfterServing", "(I)I"⟩
abbrev w_DK_valueAfterServing : List Cond := .code y_DK_valueAfterServing b_DK_valueAfterServing 2 (some .int) :: G
abbrev b_DK_valueInside : ByteArray := prog_4_method_8_code
def y_DK_valueInside : MethodName := ⟨R_DK, "valueInside", "(I)I"⟩
abbrev w_DK_valueInside : List Cond := .code y_DK_valueInside b_DK_valueInside 3 (some .int) :: G
abbrev b_DK_valueOnMedia : ByteArray := prog_4_method_5_code
def y_DK_valueOnMedia : MethodName := ⟨R_DK, "valueOnMedia", "(I)I"⟩
abbrev w_DK_valueOnMedia : List Cond := .code y_DK_valueOnMedia b_DK_valueOnMedia 2 (some .int) :: G
abbrev b_JO_init : ByteArray := object_method_1_code
def y_JO_init : MethodName := ⟨R_JO, "<init>", "()V"⟩
abbrev w_JO_init : List Cond := .code y_JO_init b_JO_init 1 none :: G
abbrev b_LW_buffer : ByteArray := method_10_code
def y_LW_buffer : MethodName := ⟨R_LW, "buffer", "(LBlockLayer;I[J)I"⟩
abbrev b_LW_law : ByteArray := code
def y_LW_law : MethodName := ⟨R_LW, "law", "([I)Z"⟩
abbrev b_LW_load : ByteArray := method_3_code
def y_LW_load : MethodName := ⟨R_LW, "load", "(LBlockLayer;I[J)I"⟩
abbrev b_LW_media : ByteArray := method_9_code
def y_LW_media : MethodName := ⟨R_LW, "media", "(LBlockLayer;I[J)I"⟩
abbrev b_LW_newest : ByteArray := method_8_code
def y_LW_newest : MethodName := ⟨R_LW, "newest", "(LBlockLayer;I[J)I"⟩
abbrev b_LW_policy : ByteArray := method_7_code
def y_LW_policy : MethodName := ⟨R_LW, "policy", "(LBlockLayer;I[J)I"⟩
abbrev b_LW_save : ByteArray := method_4_code
def y_LW_save : MethodName := ⟨R_LW, "save", "(LBlockLayer;II[J)I"⟩
abbrev b_LW_step : ByteArray := method_6_code
def y_LW_step : MethodName := ⟨R_LW, "step", "(LBlockLayer;I[J)I"⟩
abbrev b_LW_sync : ByteArray := method_5_code
def y_LW_sync : MethodName := ⟨R_LW, "sync", "(LBlockLayer;[J)I"⟩
abbrev b_MA_abs : ByteArray := prog_15_method_59_code
def y_MA_abs : MethodName := ⟨R_MA, "abs", "(I)I"⟩
abbrev w_MA_abs : List Cond := .code y_MA_abs b_MA_abs 1 (some .int) :: G
abbrev b_MA_max : ByteArray := prog_15_method_65_code
def y_MA_max : MethodName := ⟨R_MA, "max", "(II)I"⟩
abbrev w_MA_max : List Cond := .code y_MA_max b_MA_max 2 (some .int) :: G
abbrev b_MA_min : ByteArray := prog_15_method_69_code
def y_MA_min : MethodName := ⟨R_MA, "min", "(II)I"⟩
abbrev w_MA_min : List Cond := .code y_MA_min b_MA_min 2 (some .int) :: G
abbrev b_MD_ask : ByteArray := prog_8_method_8_code
def y_MD_ask : MethodName := ⟨R_MD, "ask", "(III)V"⟩
abbrev w_MD_ask : List Cond := .code y_MD_ask b_MD_ask 6 none :: G
abbrev b_MD_beginOne : ByteArray := prog_8_method_16_code
def y_MD_beginOne : MethodName := ⟨R_MD, "beginOne", "()V"⟩
abbrev w_MD_beginOne : List Cond := .code y_MD_beginOne b_MD_beginOne 3 none :: G
abbrev b_MD_buffer : ByteArray := prog_8_method_30_code
def y_MD_buffer : MethodName := ⟨R_MD, "buffer", "(I)I"⟩
abbrev w_MD_buffer : List Cond := .code y_MD_buffer b_MD_buffer 3 (some .int) :: G
abbrev b_MD_bufferOf : ByteArray := prog_8_method_4_code
def y_MD_bufferOf : MethodName := ⟨R_MD, "bufferOf", "(I)I"⟩
abbrev w_MD_bufferOf : List Cond := .code y_MD_bufferOf b_MD_bufferOf 4 (some .int) :: G
abbrev b_MD_cache : ByteArray := prog_8_method_18_code
def y_MD_cache : MethodName := ⟨R_MD, "cache", "(II)V"⟩
abbrev w_MD_cache : List Cond := .code y_MD_cache b_MD_cache 5 none :: G
abbrev b_MD_chosen : ByteArray := prog_8_method_14_code
def y_MD_chosen : MethodName := ⟨R_MD, "chosen", "()I"⟩
abbrev w_MD_chosen : List Cond := .code y_MD_chosen b_MD_chosen 2 (some .int) :: G
abbrev b_MD_closeUp : ByteArray := prog_8_method_5_code
def y_MD_closeUp : MethodName := ⟨R_MD, "closeUp", "(I)V"⟩
abbrev w_MD_closeUp : List Cond := .code y_MD_closeUp b_MD_closeUp 3 none :: G
abbrev b_MD_copyRequest : ByteArray := prog_8_method_15_code
def y_MD_copyRequest : MethodName := ⟨R_MD, "copyRequest", "(II)V"⟩
abbrev w_MD_copyRequest : List Cond := .code y_MD_copyRequest b_MD_copyRequest 3 none :: G
abbrev b_MD_crash : ByteArray := prog_8_method_27_code
def y_MD_crash : MethodName := ⟨R_MD, "crash", "()I"⟩
abbrev w_MD_crash : List Cond := .code y_MD_crash b_MD_crash 3 (some .int) :: G
abbrev b_MD_distance : ByteArray := prog_8_method_11_code
def y_MD_distance : MethodName := ⟨R_MD, "distance", "(II)I"⟩
abbrev w_MD_distance : List Cond := .code y_MD_distance b_MD_distance 4 (some .int) :: G
abbrev b_MD_drain : ByteArray := prog_8_method_24_code
def y_MD_drain : MethodName := ⟨R_MD, "drain", "()I"⟩
abbrev w_MD_drain : List Cond := .code y_MD_drain b_MD_drain 2 (some .int) :: G
abbrev b_MD_endOne : ByteArray := prog_8_method_19_code
def y_MD_endOne : MethodName := ⟨R_MD, "endOne", "()V"⟩
abbrev w_MD_endOne : List Cond := .code y_MD_endOne b_MD_endOne 2 none :: G
abbrev b_MD_init : ByteArray := prog_8_method_1_code
def y_MD_init : MethodName := ⟨R_MD, "<init>", "()V"⟩
abbrev w_MD_init : List Cond := .code y_MD_init b_MD_init 1 none :: G
abbrev b_MD_isBlock : ByteArray := prog_8_method_3_code
def y_MD_isBlock : MethodName := ⟨R_MD, "isBlock", "(I)Z"⟩
abbrev w_MD_isBlock : List Cond := .code y_MD_isBlock b_MD_isBlock 1 (some .boolean) :: G
abbrev b_MD_isReady : ByteArray := prog_8_method_9_code
def y_MD_isReady : MethodName := ⟨R_MD, "isReady", "(I)Z"⟩
abbrev w_MD_isReady : List Cond := .code y_MD_isReady b_MD_isReady 4 (some .boolean) :: G
abbrev b_MD_load : ByteArray := prog_8_method_20_code
def y_MD_load : MethodName := ⟨R_MD, "load", "(I)I"⟩
abbrev w_MD_load : List Cond := .code y_MD_load b_MD_load 5 (some .int) :: G
abbrev b_MD_lowest : ByteArray := prog_8_method_13_code
def y_MD_lowest : MethodName := ⟨R_MD, "lowest", "()I"⟩
abbrev w_MD_lowest : List Cond := .code y_MD_lowest b_MD_lowest 3 (some .int) :: G
abbrev b_MD_makeRoom : ByteArray := prog_8_method_7_code
def y_MD_makeRoom : MethodName := ⟨R_MD, "makeRoom", "()V"⟩
abbrev w_MD_makeRoom : List Cond := .code y_MD_makeRoom b_MD_makeRoom 4 none :: G
abbrev b_MD_media : ByteArray := prog_8_method_29_code
def y_MD_media : MethodName := ⟨R_MD, "media", "(I)I"⟩
abbrev w_MD_media : List Cond := .code y_MD_media b_MD_media 2 (some .int) :: G
abbrev b_MD_nearest : ByteArray := prog_8_method_12_code
def y_MD_nearest : MethodName := ⟨R_MD, "nearest", "(I)I"⟩
abbrev w_MD_nearest : List Cond := .code y_MD_nearest b_MD_nearest 5 (some .int) :: G
abbrev b_MD_newest : ByteArray := prog_8_method_28_code
def y_MD_newest : MethodName := ⟨R_MD, "newest", "(I)I"⟩
abbrev w_MD_newest : List Cond := .code y_MD_newest b_MD_newest 2 (some .int) :: G
abbrev b_MD_newestOf : ByteArray := prog_8_method_26_code
def y_MD_newestOf : MethodName := ⟨R_MD, "newestOf", "(I)I"⟩
abbrev w_MD_newestOf : List Cond := .code y_MD_newestOf b_MD_newestOf 4 (some .int) :: G
abbrev b_MD_policy : ByteArray := prog_8_method_25_code
def y_MD_policy : MethodName := ⟨R_MD, "policy", "(I)I"⟩
abbrev w_MD_policy : List Cond := .code y_MD_policy b_MD_policy 3 (some .int) :: G
abbrev b_MD_putLast : ByteArray := prog_8_method_6_code
def y_MD_putLast : MethodName := ⟨R_MD, "putLast", "(IIZ)V"⟩
abbrev w_MD_putLast : List Cond := .code y_MD_putLast b_MD_putLast 4 none :: G
abbrev b_MD_queued : ByteArray := prog_8_method_32_code
def y_MD_queued : MethodName := ⟨R_MD, "queued", "(I)I"⟩
abbrev w_MD_queued : List Cond := .code y_MD_queued b_MD_queued 2 (some .int) :: G
abbrev b_MD_request : ByteArray := prog_8_method_33_code
def y_MD_request : MethodName := ⟨R_MD, "request", "(II)I"⟩
abbrev w_MD_request : List Cond := .code y_MD_request b_MD_request 5 (some .int) :: G
abbrev b_MD_save : ByteArray := prog_8_method_21_code
def y_MD_save : MethodName := ⟨R_MD, "save", "(II)I"⟩
abbrev w_MD_save : List Cond := .code y_MD_save b_MD_save 5 (some .int) :: G
abbrev b_MD_step : ByteArray := prog_8_method_23_code
def y_MD_step : MethodName := ⟨R_MD, "step", "(I)I"⟩
abbrev w_MD_step : List Cond := .code y_MD_step b_MD_step 3 (some .int) :: G
abbrev b_MD_sync : ByteArray := prog_8_method_22_code
def y_MD_sync : MethodName := ⟨R_MD, "sync", "()I"⟩
abbrev w_MD_sync : List Cond := .code y_MD_sync b_MD_sync 4 (some .int) :: G
abbrev b_MD_thrown : ByteArray := prog_8_method_2_code
def y_MD_thrown : MethodName := ⟨R_MD, "thrown", "()I"⟩
abbrev w_MD_thrown : List Cond := .code y_MD_thrown b_MD_thrown 1 (some .int) :: G
abbrev b_MD_told : ByteArray := prog_8_method_34_code
def y_MD_told : MethodName := ⟨R_MD, "told", "(I)I"⟩
abbrev w_MD_told : List Cond := .code y_MD_told b_MD_told 2 (some .int) :: G
abbrev b_MD_track : ByteArray := prog_8_method_10_code
def y_MD_track : MethodName := ⟨R_MD, "track", "(I)I"⟩
abbrev w_MD_track : List Cond := .code y_MD_track b_MD_track 2 (some .int) :: G
abbrev b_MD_used : ByteArray := prog_8_method_31_code
def y_MD_used : MethodName := ⟨R_MD, "used", "(I)I"⟩
abbrev w_MD_used : List Cond := .code y_MD_used b_MD_used 2 (some .int) :: G
abbrev b_MD_valueAt : ByteArray := prog_8_method_17_code
def y_MD_valueAt : MethodName := ⟨R_MD, "valueAt", "(I)I"⟩
abbrev w_MD_valueAt : List Cond := .code y_MD_valueAt b_MD_valueAt 4 (some .int) :: G
abbrev b_OB_checkIndex : ByteArray := prog_27_method_17_code
def y_OB_checkIndex : MethodName := ⟨R_OB, "checkIndex", "(II)I"⟩
abbrev w_OB_checkIndex : List Cond := .code y_OB_checkIndex b_OB_checkIndex 2 (some .int) :: G
abbrev b_PR_checkIndex : ByteArray := prog_31_method_11_code
def y_PR_checkIndex : MethodName := ⟨R_PR, "checkIndex", "(IILjava/util/function/BiFunction;)I"⟩
abbrev w_PR_checkIndex : List Cond := .code y_PR_checkIndex b_PR_checkIndex 3 (some .int) :: G
abbrev b_QU_absorberOf : ByteArray := prog_5_method_8_code
def y_QU_absorberOf : MethodName := ⟨R_QU, "absorberOf", "(I)LBlockLayer$Request;"⟩
abbrev w_QU_absorberOf : List Cond := .code y_QU_absorberOf b_QU_absorberOf 4 (some (.object "BlockLayer$Request")) :: G
abbrev b_QU_add : ByteArray := prog_5_method_4_code
def y_QU_add : MethodName := ⟨R_QU, "add", "(LBlockLayer$Request;)V"⟩
abbrev w_QU_add : List Cond := .code y_QU_add b_QU_add 2 none :: G
abbrev b_QU_at : ByteArray := prog_5_method_3_code
def y_QU_at : MethodName := ⟨R_QU, "at", "(I)LBlockLayer$Request;"⟩
abbrev w_QU_at : List Cond := .code y_QU_at b_QU_at 2 (some (.object "BlockLayer$Request")) :: G
abbrev b_QU_clear : ByteArray := prog_5_method_6_code
def y_QU_clear : MethodName := ⟨R_QU, "clear", "()V"⟩
abbrev w_QU_clear : List Cond := .code y_QU_clear b_QU_clear 1 none :: G
abbrev b_QU_init : ByteArray := prog_5_method_1_code
def y_QU_init : MethodName := ⟨R_QU, "<init>", "()V"⟩
abbrev w_QU_init : List Cond := .code y_QU_init b_QU_init 1 none :: G
abbrev b_QU_isReady : ByteArray := prog_5_method_10_code
def y_QU_isReady : MethodName := ⟨R_QU, "isReady", "(I)Z"⟩
abbrev w_QU_isReady : List Cond := .code y_QU_isReady b_QU_isReady 5 (some .boolean) :: G
abbrev b_QU_lastWriteOf : ByteArray := prog_5_method_9_code
def y_QU_lastWriteOf : MethodName := ⟨R_QU, "lastWriteOf", "(I)LBlockLayer$Request;"⟩
abbrev w_QU_lastWriteOf : List Cond := .code y_QU_lastWriteOf b_QU_lastWriteOf 4 (some (.object "BlockLayer$Request")) :: G
abbrev b_QU_ofNumber : ByteArray := prog_5_method_7_code
def y_QU_ofNumber : MethodName := ⟨R_QU, "ofNumber", "(I)LBlockLayer$Request;"⟩
abbrev w_QU_ofNumber : List Cond := .code y_QU_ofNumber b_QU_ofNumber 3 (some (.object "BlockLayer$Request")) :: G
abbrev b_QU_size : ByteArray := prog_5_method_2_code
def y_QU_size : MethodName := ⟨R_QU, "size", "()I"⟩
abbrev w_QU_size : List Cond := .code y_QU_size b_QU_size 1 (some .int) :: G
abbrev b_QU_take : ByteArray := prog_5_method_5_code
def y_QU_take : MethodName := ⟨R_QU, "take", "(I)LBlockLayer$Request;"⟩
abbrev w_QU_take : List Cond := .code y_QU_take b_QU_take 2 (some (.object "BlockLayer$Request")) :: G
abbrev b_RQ_init : ByteArray := prog_6_method_1_code
def y_RQ_init : MethodName := ⟨R_RQ, "<init>", "(IIIII)V"⟩
abbrev w_RQ_init : List Cond := .code y_RQ_init b_RQ_init 6 none :: G
end
section
theorem gm0 : (.initialized "BlockLayerLaw" : Cond) ∈ G := gmk 38 (by decide +kernel) (by decide +kernel)
theorem gm1 : (.initialized "BlockLayer" : Cond) ∈ G := gmk 39 (by decide +kernel) (by decide +kernel)
theorem gm2 : (.initialized "BlockLayer$Copies" : Cond) ∈ G := gmk 40 (by decide +kernel) (by decide +kernel)
theorem gm3 : (.initialized "java/util/AbstractCollection" : Cond) ∈ G := gmk 41 (by decide +kernel) (by decide +kernel)
theorem gm4 : (.initialized "java/util/AbstractList" : Cond) ∈ G := gmk 42 (by decide +kernel) (by decide +kernel)
theorem gm5 : (.initialized "java/util/ArrayList" : Cond) ∈ G := gmk 43 (by decide +kernel) (by decide +kernel)
theorem gm6 : (.initialized "BlockLayer$Disk" : Cond) ∈ G := gmk 44 (by decide +kernel) (by decide +kernel)
theorem gm7 : (.initialized "BlockLayer$Queue" : Cond) ∈ G := gmk 45 (by decide +kernel) (by decide +kernel)
theorem gm8 : (.initialized "BlockLayerModel" : Cond) ∈ G := gmk 46 (by decide +kernel) (by decide +kernel)
theorem gm9 : (.initialized "java/lang/Throwable" : Cond) ∈ G := gmk 47 (by decide +kernel) (by decide +kernel)
theorem gm10 : (.initialized "java/lang/Exception" : Cond) ∈ G := gmk 48 (by decide +kernel) (by decide +kernel)
theorem gm11 : (.initialized "java/lang/RuntimeException" : Cond) ∈ G := gmk 49 (by decide +kernel) (by decide +kernel)
theorem gm12 : (.initialized "java/lang/IndexOutOfBoundsException" : Cond) ∈ G := gmk 50 (by decide +kernel) (by decide +kernel)
theorem gm13 : (.initialized "java/lang/UnsupportedOperationException" : Cond) ∈ G := gmk 51 (by decide +kernel) (by decide +kernel)
theorem gm14 : (.initialized "java/util/Objects" : Cond) ∈ G := gmk 52 (by decide +kernel) (by decide +kernel)
theorem gm15 : (.initialized "jdk/internal/util/Preconditions" : Cond) ∈ G := gmk 53 (by decide +kernel) (by decide +kernel)
theorem gm16 : (.initialized "java/lang/System" : Cond) ∈ G := gmk 54 (by decide +kernel) (by decide +kernel)
theorem gm17 : (.initialized "BlockLayer$Request" : Cond) ∈ G := gmk 55 (by decide +kernel) (by decide +kernel)
theorem gm18 : (.initialized "jdk/internal/util/ArraysSupport" : Cond) ∈ G := gmk 56 (by decide +kernel) (by decide +kernel)
theorem gm19 : (.initialized "java/lang/Math" : Cond) ∈ G := gmk 57 (by decide +kernel) (by decide +kernel)
theorem gm20 : (.initialized "java/util/Arrays" : Cond) ∈ G := gmk 58 (by decide +kernel) (by decide +kernel)
theorem gm21 : (.initialized "BlockLayer$Copy" : Cond) ∈ G := gmk 59 (by decide +kernel) (by decide +kernel)
theorem gm22 : (.initialized "java/lang/IllegalArgumentException" : Cond) ∈ G := gmk 60 (by decide +kernel) (by decide +kernel)
theorem gm23 : (.classLink "BlockLayerLaw" 8 "BlockLayer" : Cond) ∈ G := gmk 61 (by decide +kernel) (by decide +kernel)
theorem gm24 : (.instantiable "BlockLayer" 7 : Cond) ∈ G := gmk 62 (by decide +kernel) (by decide +kernel)
theorem gm25 : (.methodLink "BlockLayerLaw" 42 y_BL_init : Cond) ∈ G := gmk 63 (by decide +kernel) (by decide +kernel)
theorem gm26 : (.instanceMethod y_BL_init : Cond) ∈ G := gmk 64 (by decide +kernel) (by decide +kernel)
theorem gm27 : (.code y_BL_init prog_1_method_1_code 1 none : Cond) ∈ G := gmk 65 (by decide +kernel) (by decide +kernel)
theorem gm28 : (.methodLink "BlockLayer" 1 y_JO_init : Cond) ∈ G := gmk 66 (by decide +kernel) (by decide +kernel)
theorem gm29 : (.instanceMethod y_JO_init : Cond) ∈ G := gmk 67 (by decide +kernel) (by decide +kernel)
theorem gm30 : (.code y_JO_init object_method_1_code 1 none : Cond) ∈ G := gmk 68 (by decide +kernel) (by decide +kernel)
theorem gm31 : (.classLink "BlockLayer" 7 "BlockLayer$Copies" : Cond) ∈ G := gmk 69 (by decide +kernel) (by decide +kernel)
theorem gm32 : (.instantiable "BlockLayer$Copies" 1 : Cond) ∈ G := gmk 70 (by decide +kernel) (by decide +kernel)
theorem gm34 : (.instanceMethod y_CS_init : Cond) ∈ G := gmk 72 (by decide +kernel) (by decide +kernel)
theorem gm35 : (.code y_CS_init prog_2_method_1_code 1 none : Cond) ∈ G := gmk 73 (by decide +kernel) (by decide +kernel)
theorem gm36 : (.methodLink "BlockLayer$Copies" 1 y_JO_init : Cond) ∈ G := gmk 74 (by decide +kernel) (by decide +kernel)
theorem gm37 : (.classLink "BlockLayer$Copies" 7 "java/util/ArrayList" : Cond) ∈ G := gmk 75 (by decide +kernel) (by decide +kernel)
theorem gm38 : (.instantiable "java/util/ArrayList" 3 : Cond) ∈ G := gmk 76 (by decide +kernel) (by decide +kernel)
theorem gm39 : (.methodLink "BlockLayer$Copies" 9 y_AL_init : Cond) ∈ G := gmk 77 (by decide +kernel) (by decide +kernel)
theorem gm40 : (.instanceMethod y_AL_init : Cond) ∈ G := gmk 78 (by decide +kernel) (by decide +kernel)
theorem gm41 : (.code y_AL_init prog_23_method_2_code 1 none : Cond) ∈ G := gmk 79 (by decide +kernel) (by decide +kernel)
theorem gm42 : (.methodLink "java/util/ArrayList" 1 y_AB_init : Cond) ∈ G := gmk 80 (by decide +kernel) (by decide +kernel)
theorem gm43 : (.instanceMethod y_AB_init : Cond) ∈ G := gmk 81 (by decide +kernel) (by decide +kernel)
theorem gm44 : (.code y_AB_init prog_22_method_1_code 1 none : Cond) ∈ G := gmk 82 (by decide +kernel) (by decide +kernel)
theorem gm45 : (.methodLink "java/util/AbstractList" 1 y_AC_init : Cond) ∈ G := gmk 83 (by decide +kernel) (by decide +kernel)
theorem gm46 : (.instanceMethod y_AC_init : Cond) ∈ G := gmk 84 (by decide +kernel) (by decide +kernel)
theorem gm47 : (.code y_AC_init prog_21_method_1_code 1 none : Cond) ∈ G := gmk 85 (by decide +kernel) (by decide +kernel)
theorem gm48 : (.methodLink "java/util/AbstractCollection" 1 y_JO_init : Cond) ∈ G := gmk 86 (by decide +kernel) (by decide +kernel)
theorem gm49 : (.fieldLink "java/util/ArrayList" 39 "java/util/ArrayList" "DEFAULTCAPACITY_EMPTY_ELEMENTDATA" "[Ljava/lang/Object;" : Cond) ∈ G := gmk 87 (by decide +kernel) (by decide +kernel)
theorem gm51 : (.fieldLink "java/util/ArrayList" 9 "java/util/ArrayList" "elementData" "[Ljava/lang/Object;" : Cond) ∈ G := gmk 89 (by decide +kernel) (by decide +kernel)
theorem gm52 : (.fieldLink "java/util/ArrayList" 48 "java/util/ArrayList" "size" "I" : Cond) ∈ G := gmk 90 (by decide +kernel) (by decide +kernel)
theorem gm53 : (.fieldLink "java/util/AbstractList" 7 "java/util/AbstractList" "modCount" "I" : Cond) ∈ G := gmk 91 (by decide +kernel) (by decide +kernel)
theorem gm54 : (.fieldLink "java/util/ArrayList" 63 "java/util/ArrayList" "modCount" "I" : Cond) ∈ G := gmk 92 (by decide +kernel) (by decide +kernel)
theorem gm55 : (.sameField "java/util/ArrayList" "java/util/AbstractList" "modCount" "I" : Cond) ∈ G := gmk 93 (by decide +kernel) (by decide +kernel)
theorem gm56 : (.lays "java/util/ArrayList" "java/util/ArrayList" "elementData" "[Ljava/lang/Object;" : Cond) ∈ G := gmk 94 (by decide +kernel) (by decide +kernel)
theorem gm58 : (.lays "java/util/ArrayList" "java/util/ArrayList" "size" "I" : Cond) ∈ G := gmk 96 (by decide +kernel) (by decide +kernel)
theorem gm60 : (.lays "java/util/ArrayList" "java/util/AbstractList" "modCount" "I" : Cond) ∈ G := gmk 98 (by decide +kernel) (by decide +kernel)
theorem gm62 : (.superclass "java/util/ArrayList" "java/util/AbstractList" : Cond) ∈ G := gmk 100 (by decide +kernel) (by decide +kernel)
theorem gm63 : (.fieldLink "BlockLayer$Copies" 10 "BlockLayer$Copies" "inOrder" "Ljava/util/ArrayList;" : Cond) ∈ G := gmk 101 (by decide +kernel) (by decide +kernel)
theorem gm64 : (.laysFinal "BlockLayer$Copies" "BlockLayer$Copies" "inOrder" "Ljava/util/ArrayList;" : Cond) ∈ G := gmk 102 (by decide +kernel) (by decide +kernel)
theorem gm66 : (.superclass "BlockLayer$Copies" "java/lang/Object" : Cond) ∈ G := gmk 104 (by decide +kernel) (by decide +kernel)
theorem gm67 : (.classLink "BlockLayer" 16 "BlockLayer$Disk" : Cond) ∈ G := gmk 105 (by decide +kernel) (by decide +kernel)
theorem gm68 : (.instantiable "BlockLayer$Disk" 11 : Cond) ∈ G := gmk 106 (by decide +kernel) (by decide +kernel)
theorem gm70 : (.instanceMethod y_DK_init : Cond) ∈ G := gmk 108 (by decide +kernel) (by decide +kernel)
theorem gm71 : (.code y_DK_init prog_4_method_1_code 1 none : Cond) ∈ G := gmk 109 (by decide +kernel) (by decide +kernel)
theorem gm72 : (.methodLink "BlockLayer$Disk" 3 y_JO_init : Cond) ∈ G := gmk 110 (by decide +kernel) (by decide +kernel)
theorem gm73 : (.classLink "BlockLayer$Disk" 9 "BlockLayer$Queue" : Cond) ∈ G := gmk 111 (by decide +kernel) (by decide +kernel)
theorem gm74 : (.instantiable "BlockLayer$Queue" 1 : Cond) ∈ G := gmk 112 (by decide +kernel) (by decide +kernel)
theorem gm76 : (.instanceMethod y_QU_init : Cond) ∈ G := gmk 114 (by decide +kernel) (by decide +kernel)
theorem gm77 : (.code y_QU_init prog_5_method_1_code 1 none : Cond) ∈ G := gmk 115 (by decide +kernel) (by decide +kernel)
theorem gm78 : (.methodLink "BlockLayer$Queue" 3 y_JO_init : Cond) ∈ G := gmk 116 (by decide +kernel) (by decide +kernel)
theorem gm79 : (.classLink "BlockLayer$Queue" 9 "java/util/ArrayList" : Cond) ∈ G := gmk 117 (by decide +kernel) (by decide +kernel)
theorem gm80 : (.methodLink "BlockLayer$Queue" 11 y_AL_init : Cond) ∈ G := gmk 118 (by decide +kernel) (by decide +kernel)
theorem gm81 : (.fieldLink "BlockLayer$Queue" 12 "BlockLayer$Queue" "waiting" "Ljava/util/ArrayList;" : Cond) ∈ G := gmk 119 (by decide +kernel) (by decide +kernel)
theorem gm82 : (.laysFinal "BlockLayer$Queue" "BlockLayer$Queue" "waiting" "Ljava/util/ArrayList;" : Cond) ∈ G := gmk 120 (by decide +kernel) (by decide +kernel)
theorem gm84 : (.superclass "BlockLayer$Queue" "java/lang/Object" : Cond) ∈ G := gmk 122 (by decide +kernel) (by decide +kernel)
theorem gm85 : (.classLink "BlockLayer$Disk" 22 "BlockLayer$Copies" : Cond) ∈ G := gmk 123 (by decide +kernel) (by decide +kernel)
theorem gm87 : (.fieldLink "BlockLayer$Disk" 12 "BlockLayer$Disk" "queue" "LBlockLayer$Queue;" : Cond) ∈ G := gmk 125 (by decide +kernel) (by decide +kernel)
theorem gm88 : (.fieldLink "BlockLayer" 116 "BlockLayer$Disk" "queue" "LBlockLayer$Queue;" : Cond) ∈ G := gmk 126 (by decide +kernel) (by decide +kernel)
theorem gm89 : (.fieldLink "BlockLayer$Disk" 18 "BlockLayer$Disk" "onMedia" "[I" : Cond) ∈ G := gmk 127 (by decide +kernel) (by decide +kernel)
theorem gm90 : (.fieldLink "BlockLayer$Disk" 25 "BlockLayer$Disk" "cache" "LBlockLayer$Copies;" : Cond) ∈ G := gmk 128 (by decide +kernel) (by decide +kernel)
theorem gm91 : (.fieldLink "BlockLayer" 156 "BlockLayer$Disk" "cache" "LBlockLayer$Copies;" : Cond) ∈ G := gmk 129 (by decide +kernel) (by decide +kernel)
theorem gm92 : (.fieldLink "BlockLayer$Disk" 37 "BlockLayer$Disk" "serving" "LBlockLayer$Request;" : Cond) ∈ G := gmk 130 (by decide +kernel) (by decide +kernel)
theorem gm93 : (.fieldLink "BlockLayer" 151 "BlockLayer$Disk" "serving" "LBlockLayer$Request;" : Cond) ∈ G := gmk 131 (by decide +kernel) (by decide +kernel)
theorem gm94 : (.fieldLink "BlockLayer$Disk" 52 "BlockLayer$Disk" "unitsLeft" "I" : Cond) ∈ G := gmk 132 (by decide +kernel) (by decide +kernel)
theorem gm95 : (.fieldLink "BlockLayer" 94 "BlockLayer$Disk" "time" "I" : Cond) ∈ G := gmk 133 (by decide +kernel) (by decide +kernel)
theorem gm96 : (.fieldLink "BlockLayer$Disk" 82 "BlockLayer$Disk" "time" "I" : Cond) ∈ G := gmk 134 (by decide +kernel) (by decide +kernel)
theorem gm97 : (.fieldLink "BlockLayer$Disk" 72 "BlockLayer$Disk" "head" "I" : Cond) ∈ G := gmk 135 (by decide +kernel) (by decide +kernel)
theorem gm98 : (.fieldLink "BlockLayer" 148 "BlockLayer$Disk" "head" "I" : Cond) ∈ G := gmk 136 (by decide +kernel) (by decide +kernel)
theorem gm99 : (.fieldLink "BlockLayer$Disk" 29 "BlockLayer$Disk" "goesUp" "Z" : Cond) ∈ G := gmk 137 (by decide +kernel) (by decide +kernel)
theorem gm100 : (.fieldLink "BlockLayer$Disk" 33 "BlockLayer$Disk" "way" "I" : Cond) ∈ G := gmk 138 (by decide +kernel) (by decide +kernel)
theorem gm101 : (.fieldLink "BlockLayer" 103 "BlockLayer$Disk" "way" "I" : Cond) ∈ G := gmk 139 (by decide +kernel) (by decide +kernel)
theorem gm102 : (.fieldLink "BlockLayer$Disk" 112 "BlockLayer$Disk" "served" "I" : Cond) ∈ G := gmk 140 (by decide +kernel) (by decide +kernel)
theorem gm103 : (.fieldLink "BlockLayer" 165 "BlockLayer$Disk" "served" "I" : Cond) ∈ G := gmk 141 (by decide +kernel) (by decide +kernel)
theorem gm104 : (.fieldLink "BlockLayer$Disk" 85 "BlockLayer$Disk" "idleUnits" "I" : Cond) ∈ G := gmk 142 (by decide +kernel) (by decide +kernel)
theorem gm105 : (.fieldLink "BlockLayer" 168 "BlockLayer$Disk" "idleUnits" "I" : Cond) ∈ G := gmk 143 (by decide +kernel) (by decide +kernel)
theorem gm106 : (.laysFinal "BlockLayer$Disk" "BlockLayer$Disk" "queue" "LBlockLayer$Queue;" : Cond) ∈ G := gmk 144 (by decide +kernel) (by decide +kernel)
theorem gm108 : (.laysFinal "BlockLayer$Disk" "BlockLayer$Disk" "onMedia" "[I" : Cond) ∈ G := gmk 146 (by decide +kernel) (by decide +kernel)
theorem gm110 : (.laysFinal "BlockLayer$Disk" "BlockLayer$Disk" "cache" "LBlockLayer$Copies;" : Cond) ∈ G := gmk 148 (by decide +kernel) (by decide +kernel)
theorem gm112 : (.lays "BlockLayer$Disk" "BlockLayer$Disk" "serving" "LBlockLayer$Request;" : Cond) ∈ G := gmk 150 (by decide +kernel) (by decide +kernel)
theorem gm114 : (.lays "BlockLayer$Disk" "BlockLayer$Disk" "unitsLeft" "I" : Cond) ∈ G := gmk 152 (by decide +kernel) (by decide +kernel)
theorem gm116 : (.lays "BlockLayer$Disk" "BlockLayer$Disk" "time" "I" : Cond) ∈ G := gmk 154 (by decide +kernel) (by decide +kernel)
theorem gm118 : (.lays "BlockLayer$Disk" "BlockLayer$Disk" "head" "I" : Cond) ∈ G := gmk 156 (by decide +kernel) (by decide +kernel)
theorem gm120 : (.lays "BlockLayer$Disk" "BlockLayer$Disk" "goesUp" "Z" : Cond) ∈ G := gmk 158 (by decide +kernel) (by decide +kernel)
theorem gm122 : (.lays "BlockLayer$Disk" "BlockLayer$Disk" "way" "I" : Cond) ∈ G := gmk 160 (by decide +kernel) (by decide +kernel)
theorem gm124 : (.lays "BlockLayer$Disk" "BlockLayer$Disk" "served" "I" : Cond) ∈ G := gmk 162 (by decide +kernel) (by decide +kernel)
theorem gm126 : (.lays "BlockLayer$Disk" "BlockLayer$Disk" "idleUnits" "I" : Cond) ∈ G := gmk 164 (by decide +kernel) (by decide +kernel)
theorem gm128 : (.superclass "BlockLayer$Disk" "java/lang/Object" : Cond) ∈ G := gmk 166 (by decide +kernel) (by decide +kernel)
theorem gm129 : (.arrayClass FieldType.int : Cond) ∈ G := gmk 167 (by decide +kernel) (by decide +kernel)
theorem gm130 : (.fieldLink "BlockLayer" 10 "BlockLayer" "buffers" "LBlockLayer$Copies;" : Cond) ∈ G := gmk 168 (by decide +kernel) (by decide +kernel)
theorem gm131 : (.fieldLink "BlockLayer" 19 "BlockLayer" "disk" "LBlockLayer$Disk;" : Cond) ∈ G := gmk 169 (by decide +kernel) (by decide +kernel)
theorem gm132 : (.fieldLink "BlockLayer" 187 "BlockLayer" "nextNumber" "I" : Cond) ∈ G := gmk 170 (by decide +kernel) (by decide +kernel)
theorem gm133 : (.fieldLink "BlockLayer" 62 "BlockLayer" "hits" "I" : Cond) ∈ G := gmk 171 (by decide +kernel) (by decide +kernel)
theorem gm134 : (.fieldLink "BlockLayer" 34 "BlockLayer" "misses" "I" : Cond) ∈ G := gmk 172 (by decide +kernel) (by decide +kernel)
theorem gm135 : (.fieldLink "BlockLayer" 159 "BlockLayer" "evictions" "I" : Cond) ∈ G := gmk 173 (by decide +kernel) (by decide +kernel)
theorem gm136 : (.fieldLink "BlockLayer" 162 "BlockLayer" "absorbed" "I" : Cond) ∈ G := gmk 174 (by decide +kernel) (by decide +kernel)
theorem gm137 : (.laysFinal "BlockLayer" "BlockLayer" "buffers" "LBlockLayer$Copies;" : Cond) ∈ G := gmk 175 (by decide +kernel) (by decide +kernel)
theorem gm139 : (.laysFinal "BlockLayer" "BlockLayer" "disk" "LBlockLayer$Disk;" : Cond) ∈ G := gmk 177 (by decide +kernel) (by decide +kernel)
theorem gm141 : (.lays "BlockLayer" "BlockLayer" "nextNumber" "I" : Cond) ∈ G := gmk 179 (by decide +kernel) (by decide +kernel)
theorem gm143 : (.lays "BlockLayer" "BlockLayer" "hits" "I" : Cond) ∈ G := gmk 181 (by decide +kernel) (by decide +kernel)
theorem gm145 : (.lays "BlockLayer" "BlockLayer" "misses" "I" : Cond) ∈ G := gmk 183 (by decide +kernel) (by decide +kernel)
theorem gm147 : (.lays "BlockLayer" "BlockLayer" "evictions" "I" : Cond) ∈ G := gmk 185 (by decide +kernel) (by decide +kernel)
theorem gm149 : (.lays "BlockLayer" "BlockLayer" "absorbed" "I" : Cond) ∈ G := gmk 187 (by decide +kernel) (by decide +kernel)
theorem gm151 : (.superclass "BlockLayer" "java/lang/Object" : Cond) ∈ G := gmk 189 (by decide +kernel) (by decide +kernel)
theorem gm152 : (.methodLink "BlockLayerLaw" 66 y_BL_drain : Cond) ∈ G := gmk 190 (by decide +kernel) (by decide +kernel)
theorem gm153 : (.instanceMethod y_BL_drain : Cond) ∈ G := gmk 191 (by decide +kernel) (by decide +kernel)
theorem gm154 : (.selects "BlockLayer" y_BL_drain y_BL_drain : Cond) ∈ G := gmk 192 (by decide +kernel) (by decide +kernel)
theorem gm155 : (.code y_BL_drain prog_1_method_6_code 3 (some FieldType.int) : Cond) ∈ G := gmk 193 (by decide +kernel) (by decide +kernel)
theorem gm156 : (.methodLink "BlockLayer" 97 y_DK_hasWork : Cond) ∈ G := gmk 194 (by decide +kernel) (by decide +kernel)
theorem gm157 : (.instanceMethod y_DK_hasWork : Cond) ∈ G := gmk 195 (by decide +kernel) (by decide +kernel)
theorem gm158 : (.selects "BlockLayer$Disk" y_DK_hasWork y_DK_hasWork : Cond) ∈ G := gmk 196 (by decide +kernel) (by decide +kernel)
theorem gm159 : (.code y_DK_hasWork prog_4_method_2_code 1 (some FieldType.boolean) : Cond) ∈ G := gmk 197 (by decide +kernel) (by decide +kernel)
theorem gm160 : (.methodLink "BlockLayer$Disk" 41 y_QU_size : Cond) ∈ G := gmk 198 (by decide +kernel) (by decide +kernel)
theorem gm161 : (.instanceMethod y_QU_size : Cond) ∈ G := gmk 199 (by decide +kernel) (by decide +kernel)
theorem gm162 : (.selects "BlockLayer$Queue" y_QU_size y_QU_size : Cond) ∈ G := gmk 200 (by decide +kernel) (by decide +kernel)
theorem gm163 : (.code y_QU_size prog_5_method_2_code 1 (some FieldType.int) : Cond) ∈ G := gmk 201 (by decide +kernel) (by decide +kernel)
theorem gm164 : (.methodLink "BlockLayer$Queue" 18 y_AL_size : Cond) ∈ G := gmk 202 (by decide +kernel) (by decide +kernel)
theorem gm165 : (.instanceMethod y_AL_size : Cond) ∈ G := gmk 203 (by decide +kernel) (by decide +kernel)
theorem gm166 : (.selects "java/util/ArrayList" y_AL_size y_AL_size : Cond) ∈ G := gmk 204 (by decide +kernel) (by decide +kernel)
theorem gm167 : (.code y_AL_size prog_23_method_8_code 1 (some FieldType.int) : Cond) ∈ G := gmk 205 (by decide +kernel) (by decide +kernel)
theorem gm168 : (.methodLink "BlockLayer" 51 y_DK_passToNextEnd : Cond) ∈ G := gmk 206 (by decide +kernel) (by decide +kernel)
theorem gm169 : (.instanceMethod y_DK_passToNextEnd : Cond) ∈ G := gmk 207 (by decide +kernel) (by decide +kernel)
theorem gm170 : (.selects "BlockLayer$Disk" y_DK_passToNextEnd y_DK_passToNextEnd : Cond) ∈ G := gmk 208 (by decide +kernel) (by decide +kernel)
theorem gm171 : (.code y_DK_passToNextEnd prog_4_method_4_code 1 none : Cond) ∈ G := gmk 209 (by decide +kernel) (by decide +kernel)
theorem gm172 : (.methodLink "BlockLayer$Disk" 45 y_DK_beginIfIdle : Cond) ∈ G := gmk 210 (by decide +kernel) (by decide +kernel)
theorem gm174 : (.instanceMethod y_DK_beginIfIdle : Cond) ∈ G := gmk 212 (by decide +kernel) (by decide +kernel)
theorem gm175 : (.code y_DK_beginIfIdle prog_4_method_10_code 3 none : Cond) ∈ G := gmk 213 (by decide +kernel) (by decide +kernel)
theorem gm176 : (.methodLink "BlockLayer$Disk" 98 y_DK_chosenPlace : Cond) ∈ G := gmk 214 (by decide +kernel) (by decide +kernel)
theorem gm178 : (.instanceMethod y_DK_chosenPlace : Cond) ∈ G := gmk 216 (by decide +kernel) (by decide +kernel)
theorem gm179 : (.code y_DK_chosenPlace prog_4_method_13_code 3 (some FieldType.int) : Cond) ∈ G := gmk 217 (by decide +kernel) (by decide +kernel)
theorem gm180 : (.methodLink "BlockLayer$Disk" 134 y_QU_at : Cond) ∈ G := gmk 218 (by decide +kernel) (by decide +kernel)
theorem gm181 : (.instanceMethod y_QU_at : Cond) ∈ G := gmk 219 (by decide +kernel) (by decide +kernel)
theorem gm182 : (.selects "BlockLayer$Queue" y_QU_at y_QU_at : Cond) ∈ G := gmk 220 (by decide +kernel) (by decide +kernel)
theorem gm183 : (.code y_QU_at prog_5_method_3_code 2 (some (FieldType.object "BlockLayer$Request")) : Cond) ∈ G := gmk 221 (by decide +kernel) (by decide +kernel)
theorem gm184 : (.methodLink "BlockLayer$Queue" 22 y_AL_get : Cond) ∈ G := gmk 222 (by decide +kernel) (by decide +kernel)
theorem gm185 : (.instanceMethod y_AL_get : Cond) ∈ G := gmk 223 (by decide +kernel) (by decide +kernel)
theorem gm186 : (.selects "java/util/ArrayList" y_AL_get y_AL_get : Cond) ∈ G := gmk 224 (by decide +kernel) (by decide +kernel)
theorem gm187 : (.code y_AL_get prog_23_method_20_code 2 (some (FieldType.object "java/lang/Object")) : Cond) ∈ G := gmk 225 (by decide +kernel) (by decide +kernel)
theorem gm188 : (.methodLink "java/util/ArrayList" 118 y_OB_checkIndex : Cond) ∈ G := gmk 226 (by decide +kernel) (by decide +kernel)
theorem gm189 : (.static y_OB_checkIndex : Cond) ∈ G := gmk 227 (by decide +kernel) (by decide +kernel)
theorem gm190 : (.code y_OB_checkIndex prog_27_method_17_code 2 (some FieldType.int) : Cond) ∈ G := gmk 228 (by decide +kernel) (by decide +kernel)
theorem gm191 : (.methodLink "java/util/Objects" 105 y_PR_checkIndex : Cond) ∈ G := gmk 229 (by decide +kernel) (by decide +kernel)
theorem gm192 : (.static y_PR_checkIndex : Cond) ∈ G := gmk 230 (by decide +kernel) (by decide +kernel)
theorem gm193 : (.code y_PR_checkIndex prog_31_method_11_code 3 (some FieldType.int) : Cond) ∈ G := gmk 231 (by decide +kernel) (by decide +kernel)
theorem gm194 : (.methodLink "java/util/ArrayList" 123 y_AL_elementData : Cond) ∈ G := gmk 232 (by decide +kernel) (by decide +kernel)
theorem gm195 : (.instanceMethod y_AL_elementData : Cond) ∈ G := gmk 233 (by decide +kernel) (by decide +kernel)
theorem gm196 : (.selects "java/util/ArrayList" y_AL_elementData y_AL_elementData : Cond) ∈ G := gmk 234 (by decide +kernel) (by decide +kernel)
theorem gm197 : (.code y_AL_elementData prog_23_method_18_code 2 (some (FieldType.object "java/lang/Object")) : Cond) ∈ G := gmk 235 (by decide +kernel) (by decide +kernel)
theorem gm198 : (.classLink "BlockLayer$Queue" 26 "BlockLayer$Request" : Cond) ∈ G := gmk 236 (by decide +kernel) (by decide +kernel)
theorem gm199 : (.methodLink "BlockLayer$Disk" 137 y_DK_isOldUnderPolicy : Cond) ∈ G := gmk 237 (by decide +kernel) (by decide +kernel)
theorem gm201 : (.instanceMethod y_DK_isOldUnderPolicy : Cond) ∈ G := gmk 239 (by decide +kernel) (by decide +kernel)
theorem gm202 : (.code y_DK_isOldUnderPolicy prog_4_method_14_code 2 (some FieldType.boolean) : Cond) ∈ G := gmk 240 (by decide +kernel) (by decide +kernel)
theorem gm203 : (.methodLink "BlockLayer$Disk" 141 y_DK_sideOfPolicy : Cond) ∈ G := gmk 241 (by decide +kernel) (by decide +kernel)
theorem gm205 : (.instanceMethod y_DK_sideOfPolicy : Cond) ∈ G := gmk 243 (by decide +kernel) (by decide +kernel)
theorem gm206 : (.code y_DK_sideOfPolicy prog_4_method_15_code 1 (some FieldType.int) : Cond) ∈ G := gmk 244 (by decide +kernel) (by decide +kernel)
theorem gm207 : (.methodLink "BlockLayer$Disk" 144 y_DK_nearestPlace : Cond) ∈ G := gmk 245 (by decide +kernel) (by decide +kernel)
theorem gm209 : (.instanceMethod y_DK_nearestPlace : Cond) ∈ G := gmk 247 (by decide +kernel) (by decide +kernel)
theorem gm210 : (.code y_DK_nearestPlace prog_4_method_16_code 7 (some FieldType.int) : Cond) ∈ G := gmk 248 (by decide +kernel) (by decide +kernel)
theorem gm211 : (.methodLink "BlockLayer$Disk" 150 y_QU_isReady : Cond) ∈ G := gmk 249 (by decide +kernel) (by decide +kernel)
theorem gm212 : (.instanceMethod y_QU_isReady : Cond) ∈ G := gmk 250 (by decide +kernel) (by decide +kernel)
theorem gm213 : (.selects "BlockLayer$Queue" y_QU_isReady y_QU_isReady : Cond) ∈ G := gmk 251 (by decide +kernel) (by decide +kernel)
theorem gm214 : (.code y_QU_isReady prog_5_method_10_code 5 (some FieldType.boolean) : Cond) ∈ G := gmk 252 (by decide +kernel) (by decide +kernel)
theorem gm216 : (.static y_BL_trackOf : Cond) ∈ G := gmk 254 (by decide +kernel) (by decide +kernel)
theorem gm217 : (.code y_BL_trackOf prog_1_method_23_code 1 (some FieldType.int) : Cond) ∈ G := gmk 255 (by decide +kernel) (by decide +kernel)
theorem gm218 : (.methodLink "BlockLayer$Disk" 154 y_DK_tracksAway : Cond) ∈ G := gmk 256 (by decide +kernel) (by decide +kernel)
theorem gm220 : (.instanceMethod y_DK_tracksAway : Cond) ∈ G := gmk 258 (by decide +kernel) (by decide +kernel)
theorem gm221 : (.code y_DK_tracksAway prog_4_method_17_code 3 (some FieldType.int) : Cond) ∈ G := gmk 259 (by decide +kernel) (by decide +kernel)
theorem gm222 : (.methodLink "BlockLayer$Disk" 109 y_MA_abs : Cond) ∈ G := gmk 260 (by decide +kernel) (by decide +kernel)
theorem gm223 : (.static y_MA_abs : Cond) ∈ G := gmk 261 (by decide +kernel) (by decide +kernel)
theorem gm224 : (.code y_MA_abs prog_15_method_59_code 1 (some FieldType.int) : Cond) ∈ G := gmk 262 (by decide +kernel) (by decide +kernel)
theorem gm225 : (.methodLink "BlockLayer$Disk" 101 y_QU_take : Cond) ∈ G := gmk 263 (by decide +kernel) (by decide +kernel)
theorem gm226 : (.instanceMethod y_QU_take : Cond) ∈ G := gmk 264 (by decide +kernel) (by decide +kernel)
theorem gm227 : (.selects "BlockLayer$Queue" y_QU_take y_QU_take : Cond) ∈ G := gmk 265 (by decide +kernel) (by decide +kernel)
theorem gm228 : (.code y_QU_take prog_5_method_5_code 2 (some (FieldType.object "BlockLayer$Request")) : Cond) ∈ G := gmk 266 (by decide +kernel) (by decide +kernel)
theorem gm229 : (.methodLink "BlockLayer$Queue" 32 y_AL_remove : Cond) ∈ G := gmk 267 (by decide +kernel) (by decide +kernel)
theorem gm230 : (.instanceMethod y_AL_remove : Cond) ∈ G := gmk 268 (by decide +kernel) (by decide +kernel)
theorem gm231 : (.selects "java/util/ArrayList" y_AL_remove y_AL_remove : Cond) ∈ G := gmk 269 (by decide +kernel) (by decide +kernel)
theorem gm232 : (.code y_AL_remove prog_23_method_29_code 4 (some (FieldType.object "java/lang/Object")) : Cond) ∈ G := gmk 270 (by decide +kernel) (by decide +kernel)
theorem gm233 : (.methodLink "java/util/ArrayList" 144 y_AL_fastRemove : Cond) ∈ G := gmk 271 (by decide +kernel) (by decide +kernel)
theorem gm235 : (.instanceMethod y_AL_fastRemove : Cond) ∈ G := gmk 273 (by decide +kernel) (by decide +kernel)
theorem gm236 : (.code y_AL_fastRemove prog_23_method_39_code 4 none : Cond) ∈ G := gmk 274 (by decide +kernel) (by decide +kernel)
theorem gm237 : (.methodLink "java/util/ArrayList" 112 ⟨"java/lang/System", "arraycopy", "(Ljava/lang/Object;ILjava/lang/Object;II)V"⟩ : Cond) ∈ G := gmk 275 (by decide +kernel) (by decide +kernel)
theorem gm238 : (.static ⟨"java/lang/System", "arraycopy", "(Ljava/lang/Object;ILjava/lang/Object;II)V"⟩ : Cond) ∈ G := gmk 276 (by decide +kernel) (by decide +kernel)
theorem gm239 : (.native ⟨"java/lang/System", "arraycopy", "(Ljava/lang/Object;ILjava/lang/Object;II)V"⟩ : Cond) ∈ G := gmk 277 (by decide +kernel) (by decide +kernel)
theorem gm240 : (.methodLink "BlockLayer$Disk" 105 y_CS_size : Cond) ∈ G := gmk 278 (by decide +kernel) (by decide +kernel)
theorem gm241 : (.instanceMethod y_CS_size : Cond) ∈ G := gmk 279 (by decide +kernel) (by decide +kernel)
theorem gm242 : (.selects "BlockLayer$Copies" y_CS_size y_CS_size : Cond) ∈ G := gmk 280 (by decide +kernel) (by decide +kernel)
theorem gm243 : (.code y_CS_size prog_2_method_2_code 1 (some FieldType.int) : Cond) ∈ G := gmk 281 (by decide +kernel) (by decide +kernel)
theorem gm244 : (.methodLink "BlockLayer$Copies" 16 y_AL_size : Cond) ∈ G := gmk 282 (by decide +kernel) (by decide +kernel)
theorem gm245 : (.methodLink "BlockLayer$Disk" 48 y_DK_passUntilEnd : Cond) ∈ G := gmk 283 (by decide +kernel) (by decide +kernel)
theorem gm247 : (.instanceMethod y_DK_passUntilEnd : Cond) ∈ G := gmk 285 (by decide +kernel) (by decide +kernel)
theorem gm248 : (.code y_DK_passUntilEnd prog_4_method_9_code 3 (some FieldType.int) : Cond) ∈ G := gmk 286 (by decide +kernel) (by decide +kernel)
theorem gm249 : (.methodLink "BlockLayer$Disk" 88 y_MA_min : Cond) ∈ G := gmk 287 (by decide +kernel) (by decide +kernel)
theorem gm250 : (.static y_MA_min : Cond) ∈ G := gmk 288 (by decide +kernel) (by decide +kernel)
theorem gm251 : (.code y_MA_min prog_15_method_69_code 2 (some FieldType.int) : Cond) ∈ G := gmk 289 (by decide +kernel) (by decide +kernel)
theorem gm252 : (.methodLink "BlockLayer$Disk" 94 y_DK_end : Cond) ∈ G := gmk 290 (by decide +kernel) (by decide +kernel)
theorem gm254 : (.instanceMethod y_DK_end : Cond) ∈ G := gmk 292 (by decide +kernel) (by decide +kernel)
theorem gm255 : (.code y_DK_end prog_4_method_11_code 2 none : Cond) ∈ G := gmk 293 (by decide +kernel) (by decide +kernel)
theorem gm256 : (.methodLink "BlockLayer$Disk" 66 y_DK_valueInside : Cond) ∈ G := gmk 294 (by decide +kernel) (by decide +kernel)
theorem gm258 : (.instanceMethod y_DK_valueInside : Cond) ∈ G := gmk 296 (by decide +kernel) (by decide +kernel)
theorem gm259 : (.code y_DK_valueInside prog_4_method_8_code 3 (some FieldType.int) : Cond) ∈ G := gmk 297 (by decide +kernel) (by decide +kernel)
theorem gm260 : (.methodLink "BlockLayer$Disk" 75 y_CS_copyOf : Cond) ∈ G := gmk 298 (by decide +kernel) (by decide +kernel)
theorem gm261 : (.instanceMethod y_CS_copyOf : Cond) ∈ G := gmk 299 (by decide +kernel) (by decide +kernel)
theorem gm262 : (.selects "BlockLayer$Copies" y_CS_copyOf y_CS_copyOf : Cond) ∈ G := gmk 300 (by decide +kernel) (by decide +kernel)
theorem gm263 : (.code y_CS_copyOf prog_2_method_4_code 3 (some (FieldType.object "BlockLayer$Copy")) : Cond) ∈ G := gmk 301 (by decide +kernel) (by decide +kernel)
theorem gm264 : (.methodLink "BlockLayer$Copies" 20 y_AL_get : Cond) ∈ G := gmk 302 (by decide +kernel) (by decide +kernel)
theorem gm265 : (.classLink "BlockLayer$Copies" 24 "BlockLayer$Copy" : Cond) ∈ G := gmk 303 (by decide +kernel) (by decide +kernel)
theorem gm266 : (.classLink "BlockLayer$Disk" 80 "BlockLayer$Copy" : Cond) ∈ G := gmk 304 (by decide +kernel) (by decide +kernel)
theorem gm267 : (.instantiable "BlockLayer$Copy" 3 : Cond) ∈ G := gmk 305 (by decide +kernel) (by decide +kernel)
theorem gm268 : (.methodLink "BlockLayer$Disk" 118 y_CP_init : Cond) ∈ G := gmk 306 (by decide +kernel) (by decide +kernel)
theorem gm269 : (.instanceMethod y_CP_init : Cond) ∈ G := gmk 307 (by decide +kernel) (by decide +kernel)
theorem gm270 : (.code y_CP_init prog_3_method_1_code 3 none : Cond) ∈ G := gmk 308 (by decide +kernel) (by decide +kernel)
theorem gm271 : (.methodLink "BlockLayer$Copy" 1 y_JO_init : Cond) ∈ G := gmk 309 (by decide +kernel) (by decide +kernel)
theorem gm272 : (.fieldLink "BlockLayer$Copy" 7 "BlockLayer$Copy" "block" "I" : Cond) ∈ G := gmk 310 (by decide +kernel) (by decide +kernel)
theorem gm273 : (.fieldLink "BlockLayer$Copies" 26 "BlockLayer$Copy" "block" "I" : Cond) ∈ G := gmk 311 (by decide +kernel) (by decide +kernel)
theorem gm274 : (.fieldLink "BlockLayer" 129 "BlockLayer$Copy" "block" "I" : Cond) ∈ G := gmk 312 (by decide +kernel) (by decide +kernel)
theorem gm275 : (.fieldLink "BlockLayer$Disk" 133 "BlockLayer$Copy" "block" "I" : Cond) ∈ G := gmk 313 (by decide +kernel) (by decide +kernel)
theorem gm276 : (.fieldLink "BlockLayer$Copy" 13 "BlockLayer$Copy" "value" "I" : Cond) ∈ G := gmk 314 (by decide +kernel) (by decide +kernel)
theorem gm277 : (.fieldLink "BlockLayer" 69 "BlockLayer$Copy" "value" "I" : Cond) ∈ G := gmk 315 (by decide +kernel) (by decide +kernel)
theorem gm278 : (.fieldLink "BlockLayer$Disk" 79 "BlockLayer$Copy" "value" "I" : Cond) ∈ G := gmk 316 (by decide +kernel) (by decide +kernel)
theorem gm279 : (.fieldLink "BlockLayer" 70 "BlockLayer$Copy" "dirty" "Z" : Cond) ∈ G := gmk 317 (by decide +kernel) (by decide +kernel)
theorem gm280 : (.fieldLink "BlockLayer$Copies" 41 "BlockLayer$Copy" "dirty" "Z" : Cond) ∈ G := gmk 318 (by decide +kernel) (by decide +kernel)
theorem gm281 : (.laysFinal "BlockLayer$Copy" "BlockLayer$Copy" "block" "I" : Cond) ∈ G := gmk 319 (by decide +kernel) (by decide +kernel)
theorem gm283 : (.lays "BlockLayer$Copy" "BlockLayer$Copy" "value" "I" : Cond) ∈ G := gmk 321 (by decide +kernel) (by decide +kernel)
theorem gm285 : (.lays "BlockLayer$Copy" "BlockLayer$Copy" "dirty" "Z" : Cond) ∈ G := gmk 323 (by decide +kernel) (by decide +kernel)
theorem gm287 : (.superclass "BlockLayer$Copy" "java/lang/Object" : Cond) ∈ G := gmk 325 (by decide +kernel) (by decide +kernel)
theorem gm288 : (.methodLink "BlockLayer$Disk" 121 y_CS_putLast : Cond) ∈ G := gmk 326 (by decide +kernel) (by decide +kernel)
theorem gm289 : (.instanceMethod y_CS_putLast : Cond) ∈ G := gmk 327 (by decide +kernel) (by decide +kernel)
theorem gm290 : (.selects "BlockLayer$Copies" y_CS_putLast y_CS_putLast : Cond) ∈ G := gmk 328 (by decide +kernel) (by decide +kernel)
theorem gm291 : (.code y_CS_putLast prog_2_method_5_code 3 none : Cond) ∈ G := gmk 329 (by decide +kernel) (by decide +kernel)
theorem gm292 : (.methodLink "BlockLayer$Copies" 30 y_AL_remove : Cond) ∈ G := gmk 330 (by decide +kernel) (by decide +kernel)
theorem gm293 : (.methodLink "BlockLayer$Copies" 33 y_AL_add0 : Cond) ∈ G := gmk 331 (by decide +kernel) (by decide +kernel)
theorem gm294 : (.instanceMethod y_AL_add0 : Cond) ∈ G := gmk 332 (by decide +kernel) (by decide +kernel)
theorem gm295 : (.selects "java/util/ArrayList" y_AL_add0 y_AL_add0 : Cond) ∈ G := gmk 333 (by decide +kernel) (by decide +kernel)
theorem gm296 : (.code y_AL_add0 prog_23_method_25_code 2 (some FieldType.boolean) : Cond) ∈ G := gmk 334 (by decide +kernel) (by decide +kernel)
theorem gm297 : (.methodLink "java/util/ArrayList" 131 y_AL_add1 : Cond) ∈ G := gmk 335 (by decide +kernel) (by decide +kernel)
theorem gm299 : (.instanceMethod y_AL_add1 : Cond) ∈ G := gmk 337 (by decide +kernel) (by decide +kernel)
theorem gm300 : (.code y_AL_add1 prog_23_method_24_code 4 none : Cond) ∈ G := gmk 338 (by decide +kernel) (by decide +kernel)
theorem gm301 : (.methodLink "java/util/ArrayList" 129 y_AL_grow0 : Cond) ∈ G := gmk 339 (by decide +kernel) (by decide +kernel)
theorem gm303 : (.instanceMethod y_AL_grow0 : Cond) ∈ G := gmk 341 (by decide +kernel) (by decide +kernel)
theorem gm304 : (.code y_AL_grow0 prog_23_method_7_code 1 (some (FieldType.array (FieldType.object "java/lang/Object"))) : Cond) ∈ G := gmk 342 (by decide +kernel) (by decide +kernel)
theorem gm305 : (.methodLink "java/util/ArrayList" 69 y_AL_grow1 : Cond) ∈ G := gmk 343 (by decide +kernel) (by decide +kernel)
theorem gm307 : (.instanceMethod y_AL_grow1 : Cond) ∈ G := gmk 345 (by decide +kernel) (by decide +kernel)
theorem gm308 : (.code y_AL_grow1 prog_23_method_6_code 4 (some (FieldType.array (FieldType.object "java/lang/Object"))) : Cond) ∈ G := gmk 346 (by decide +kernel) (by decide +kernel)
theorem gm309 : (.methodLink "java/util/ArrayList" 73 y_AS_newLength : Cond) ∈ G := gmk 347 (by decide +kernel) (by decide +kernel)
theorem gm310 : (.static y_AS_newLength : Cond) ∈ G := gmk 348 (by decide +kernel) (by decide +kernel)
theorem gm311 : (.code y_AS_newLength prog_30_method_27_code 4 (some FieldType.int) : Cond) ∈ G := gmk 349 (by decide +kernel) (by decide +kernel)
theorem gm312 : (.methodLink "jdk/internal/util/ArraysSupport" 194 y_MA_max : Cond) ∈ G := gmk 350 (by decide +kernel) (by decide +kernel)
theorem gm313 : (.static y_MA_max : Cond) ∈ G := gmk 351 (by decide +kernel) (by decide +kernel)
theorem gm314 : (.code y_MA_max prog_15_method_65_code 2 (some FieldType.int) : Cond) ∈ G := gmk 352 (by decide +kernel) (by decide +kernel)
theorem gm315 : (.constant "jdk/internal/util/ArraysSupport" 200 2147483639 : Cond) ∈ G := gmk 353 (by decide +kernel) (by decide +kernel)
theorem gm316 : (.methodLink "jdk/internal/util/ArraysSupport" 201 y_AS_hugeLength : Cond) ∈ G := gmk 354 (by decide +kernel) (by decide +kernel)
theorem gm317 : (.static y_AS_hugeLength : Cond) ∈ G := gmk 355 (by decide +kernel) (by decide +kernel)
theorem gm318 : (.code y_AS_hugeLength prog_30_method_28_code 3 (some FieldType.int) : Cond) ∈ G := gmk 356 (by decide +kernel) (by decide +kernel)
theorem gm319 : (.methodLink "java/util/ArrayList" 66 y_AR_copyOf0 : Cond) ∈ G := gmk 357 (by decide +kernel) (by decide +kernel)
theorem gm320 : (.static y_AR_copyOf0 : Cond) ∈ G := gmk 358 (by decide +kernel) (by decide +kernel)
theorem gm321 : (.code y_AR_copyOf0 prog_24_method_119_code 2 (some (FieldType.array (FieldType.object "java/lang/Object"))) : Cond) ∈ G := gmk 359 (by decide +kernel) (by decide +kernel)
theorem gm322 : (.methodLink "java/util/Arrays" 86 ⟨"java/lang/Object", "getClass", "()Ljava/lang/Class;"⟩ : Cond) ∈ G := gmk 360 (by decide +kernel) (by decide +kernel)
theorem gm323 : (.instanceMethod ⟨"java/lang/Object", "getClass", "()Ljava/lang/Class;"⟩ : Cond) ∈ G := gmk 361 (by decide +kernel) (by decide +kernel)
theorem gm324 : (.sameMethod "java/lang/Object" "java/lang/Object" "getClass" "()Ljava/lang/Class;" : Cond) ∈ G := gmk 362 (by decide +kernel) (by decide +kernel)
theorem gm325 : (.selects "BlockLayer" ⟨"java/lang/Object", "getClass", "()Ljava/lang/Class;"⟩ ⟨"java/lang/Object", "getClass", "()Ljava/lang/Class;"⟩ : Cond) ∈ G := gmk 363 (by decide +kernel) (by decide +kernel)
theorem gm326 : (.selects "BlockLayer$Copies" ⟨"java/lang/Object", "getClass", "()Ljava/lang/Class;"⟩ ⟨"java/lang/Object", "getClass", "()Ljava/lang/Class;"⟩ : Cond) ∈ G := gmk 364 (by decide +kernel) (by decide +kernel)
theorem gm327 : (.selects "BlockLayer$Copy" ⟨"java/lang/Object", "getClass", "()Ljava/lang/Class;"⟩ ⟨"java/lang/Object", "getClass", "()Ljava/lang/Class;"⟩ : Cond) ∈ G := gmk 365 (by decide +kernel) (by decide +kernel)
theorem gm328 : (.selects "BlockLayer$Disk" ⟨"java/lang/Object", "getClass", "()Ljava/lang/Class;"⟩ ⟨"java/lang/Object", "getClass", "()Ljava/lang/Class;"⟩ : Cond) ∈ G := gmk 366 (by decide +kernel) (by decide +kernel)
theorem gm329 : (.selects "BlockLayer$Queue" ⟨"java/lang/Object", "getClass", "()Ljava/lang/Class;"⟩ ⟨"java/lang/Object", "getClass", "()Ljava/lang/Class;"⟩ : Cond) ∈ G := gmk 367 (by decide +kernel) (by decide +kernel)
theorem gm330 : (.selects "BlockLayer$Request" ⟨"java/lang/Object", "getClass", "()Ljava/lang/Class;"⟩ ⟨"java/lang/Object", "getClass", "()Ljava/lang/Class;"⟩ : Cond) ∈ G := gmk 368 (by decide +kernel) (by decide +kernel)
theorem gm331 : (.selects "BlockLayerModel" ⟨"java/lang/Object", "getClass", "()Ljava/lang/Class;"⟩ ⟨"java/lang/Object", "getClass", "()Ljava/lang/Class;"⟩ : Cond) ∈ G := gmk 369 (by decide +kernel) (by decide +kernel)
theorem gm332 : (.selects "java/lang/IllegalArgumentException" ⟨"java/lang/Object", "getClass", "()Ljava/lang/Class;"⟩ ⟨"java/lang/Object", "getClass", "()Ljava/lang/Class;"⟩ : Cond) ∈ G := gmk 370 (by decide +kernel) (by decide +kernel)
theorem gm333 : (.selects "java/lang/IndexOutOfBoundsException" ⟨"java/lang/Object", "getClass", "()Ljava/lang/Class;"⟩ ⟨"java/lang/Object", "getClass", "()Ljava/lang/Class;"⟩ : Cond) ∈ G := gmk 371 (by decide +kernel) (by decide +kernel)
theorem gm334 : (.selects "java/lang/UnsupportedOperationException" ⟨"java/lang/Object", "getClass", "()Ljava/lang/Class;"⟩ ⟨"java/lang/Object", "getClass", "()Ljava/lang/Class;"⟩ : Cond) ∈ G := gmk 372 (by decide +kernel) (by decide +kernel)
theorem gm335 : (.selects "java/util/ArrayList" ⟨"java/lang/Object", "getClass", "()Ljava/lang/Class;"⟩ ⟨"java/lang/Object", "getClass", "()Ljava/lang/Class;"⟩ : Cond) ∈ G := gmk 373 (by decide +kernel) (by decide +kernel)
theorem gm336 : (.native ⟨"java/lang/Object", "getClass", "()Ljava/lang/Class;"⟩ : Cond) ∈ G := gmk 374 (by decide +kernel) (by decide +kernel)
theorem gm337 : (.methodLink "java/util/Arrays" 300 y_AR_copyOf1 : Cond) ∈ G := gmk 375 (by decide +kernel) (by decide +kernel)
theorem gm338 : (.static y_AR_copyOf1 : Cond) ∈ G := gmk 376 (by decide +kernel) (by decide +kernel)
theorem gm339 : (.code y_AR_copyOf1 prog_24_method_120_code 4 (some (FieldType.array (FieldType.object "java/lang/Object"))) : Cond) ∈ G := gmk 377 (by decide +kernel) (by decide +kernel)
theorem gm340 : (.classLink "java/util/Arrays" 110 "[Ljava/lang/Object;" : Cond) ∈ G := gmk 378 (by decide +kernel) (by decide +kernel)
theorem gm342 : (.classLink "java/util/Arrays" 2 "java/lang/Object" : Cond) ∈ G := gmk 380 (by decide +kernel) (by decide +kernel)
theorem gm343 : (.methodLink "java/util/Arrays" 304 y_MA_min : Cond) ∈ G := gmk 381 (by decide +kernel) (by decide +kernel)
theorem gm344 : (.methodLink "java/util/Arrays" 150 ⟨"java/lang/System", "arraycopy", "(Ljava/lang/Object;ILjava/lang/Object;II)V"⟩ : Cond) ∈ G := gmk 382 (by decide +kernel) (by decide +kernel)
theorem gm345 : (.methodLink "java/util/ArrayList" 79 y_MA_max : Cond) ∈ G := gmk 383 (by decide +kernel) (by decide +kernel)
theorem gm346 : (.classLink "java/util/ArrayList" 7 "java/lang/Object" : Cond) ∈ G := gmk 384 (by decide +kernel) (by decide +kernel)
theorem gm347 : (.methodLink "BlockLayer$Disk" 125 y_DK_moveToMedia : Cond) ∈ G := gmk 385 (by decide +kernel) (by decide +kernel)
theorem gm349 : (.instanceMethod y_DK_moveToMedia : Cond) ∈ G := gmk 387 (by decide +kernel) (by decide +kernel)
theorem gm350 : (.code y_DK_moveToMedia prog_4_method_12_code 4 none : Cond) ∈ G := gmk 388 (by decide +kernel) (by decide +kernel)
theorem gm351 : (.methodLink "BlockLayer$Disk" 129 y_CS_takeFirst : Cond) ∈ G := gmk 389 (by decide +kernel) (by decide +kernel)
theorem gm352 : (.instanceMethod y_CS_takeFirst : Cond) ∈ G := gmk 390 (by decide +kernel) (by decide +kernel)
theorem gm353 : (.selects "BlockLayer$Copies" y_CS_takeFirst y_CS_takeFirst : Cond) ∈ G := gmk 391 (by decide +kernel) (by decide +kernel)
theorem gm354 : (.code y_CS_takeFirst prog_2_method_6_code 1 (some (FieldType.object "BlockLayer$Copy")) : Cond) ∈ G := gmk 392 (by decide +kernel) (by decide +kernel)
theorem gm355 : (.methodLink "BlockLayer$Copies" 37 y_AL_isEmpty : Cond) ∈ G := gmk 393 (by decide +kernel) (by decide +kernel)
theorem gm356 : (.instanceMethod y_AL_isEmpty : Cond) ∈ G := gmk 394 (by decide +kernel) (by decide +kernel)
theorem gm357 : (.selects "java/util/ArrayList" y_AL_isEmpty y_AL_isEmpty : Cond) ∈ G := gmk 395 (by decide +kernel) (by decide +kernel)
theorem gm358 : (.code y_AL_isEmpty prog_23_method_9_code 1 (some FieldType.boolean) : Cond) ∈ G := gmk 396 (by decide +kernel) (by decide +kernel)
theorem gm359 : (.methodLink "BlockLayerLaw" 73 y_BL_crash : Cond) ∈ G := gmk 397 (by decide +kernel) (by decide +kernel)
theorem gm360 : (.instanceMethod y_BL_crash : Cond) ∈ G := gmk 398 (by decide +kernel) (by decide +kernel)
theorem gm361 : (.selects "BlockLayer" y_BL_crash y_BL_crash : Cond) ∈ G := gmk 399 (by decide +kernel) (by decide +kernel)
theorem gm362 : (.code y_BL_crash prog_1_method_8_code 3 (some FieldType.int) : Cond) ∈ G := gmk 400 (by decide +kernel) (by decide +kernel)
theorem gm363 : (.methodLink "BlockLayer" 106 y_BL_newestOf : Cond) ∈ G := gmk 401 (by decide +kernel) (by decide +kernel)
theorem gm365 : (.instanceMethod y_BL_newestOf : Cond) ∈ G := gmk 403 (by decide +kernel) (by decide +kernel)
theorem gm366 : (.code y_BL_newestOf prog_1_method_22_code 4 (some FieldType.int) : Cond) ∈ G := gmk 404 (by decide +kernel) (by decide +kernel)
theorem gm367 : (.methodLink "BlockLayer" 30 y_CS_copyOf : Cond) ∈ G := gmk 405 (by decide +kernel) (by decide +kernel)
theorem gm368 : (.methodLink "BlockLayer" 200 y_QU_lastWriteOf : Cond) ∈ G := gmk 406 (by decide +kernel) (by decide +kernel)
theorem gm369 : (.instanceMethod y_QU_lastWriteOf : Cond) ∈ G := gmk 407 (by decide +kernel) (by decide +kernel)
theorem gm370 : (.selects "BlockLayer$Queue" y_QU_lastWriteOf y_QU_lastWriteOf : Cond) ∈ G := gmk 408 (by decide +kernel) (by decide +kernel)
theorem gm371 : (.code y_QU_lastWriteOf prog_5_method_9_code 4 (some (FieldType.object "BlockLayer$Request")) : Cond) ∈ G := gmk 409 (by decide +kernel) (by decide +kernel)
theorem gm372 : (.methodLink "BlockLayer" 203 y_DK_valueAfterServing : Cond) ∈ G := gmk 410 (by decide +kernel) (by decide +kernel)
theorem gm373 : (.instanceMethod y_DK_valueAfterServing : Cond) ∈ G := gmk 411 (by decide +kernel) (by decide +kernel)
theorem gm374 : (.selects "BlockLayer$Disk" y_DK_valueAfterServing y_DK_valueAfterServing : Cond) ∈ G := gmk 412 (by decide +kernel) (by decide +kernel)
theorem gm375 : (.code y_DK_valueAfterServing prog_4_method_6_code 2 (some FieldType.int) : Cond) ∈ G := gmk 413 (by decide +kernel) (by decide +kernel)
theorem gm376 : (.methodLink "BlockLayer" 110 y_DK_valueOnMedia : Cond) ∈ G := gmk 414 (by decide +kernel) (by decide +kernel)
theorem gm377 : (.instanceMethod y_DK_valueOnMedia : Cond) ∈ G := gmk 415 (by decide +kernel) (by decide +kernel)
theorem gm378 : (.selects "BlockLayer$Disk" y_DK_valueOnMedia y_DK_valueOnMedia : Cond) ∈ G := gmk 416 (by decide +kernel) (by decide +kernel)
theorem gm379 : (.code y_DK_valueOnMedia prog_4_method_5_code 2 (some FieldType.int) : Cond) ∈ G := gmk 417 (by decide +kernel) (by decide +kernel)
theorem gm380 : (.methodLink "BlockLayer" 113 y_CS_clear : Cond) ∈ G := gmk 418 (by decide +kernel) (by decide +kernel)
theorem gm381 : (.instanceMethod y_CS_clear : Cond) ∈ G := gmk 419 (by decide +kernel) (by decide +kernel)
theorem gm382 : (.selects "BlockLayer$Copies" y_CS_clear y_CS_clear : Cond) ∈ G := gmk 420 (by decide +kernel) (by decide +kernel)
theorem gm383 : (.code y_CS_clear prog_2_method_8_code 1 none : Cond) ∈ G := gmk 421 (by decide +kernel) (by decide +kernel)
theorem gm384 : (.methodLink "BlockLayer$Copies" 45 y_AL_clear : Cond) ∈ G := gmk 422 (by decide +kernel) (by decide +kernel)
theorem gm385 : (.instanceMethod y_AL_clear : Cond) ∈ G := gmk 423 (by decide +kernel) (by decide +kernel)
theorem gm386 : (.selects "java/util/ArrayList" y_AL_clear y_AL_clear : Cond) ∈ G := gmk 424 (by decide +kernel) (by decide +kernel)
theorem gm387 : (.code y_AL_clear prog_23_method_40_code 4 none : Cond) ∈ G := gmk 425 (by decide +kernel) (by decide +kernel)
theorem gm388 : (.methodLink "BlockLayer" 120 y_QU_clear : Cond) ∈ G := gmk 426 (by decide +kernel) (by decide +kernel)
theorem gm389 : (.instanceMethod y_QU_clear : Cond) ∈ G := gmk 427 (by decide +kernel) (by decide +kernel)
theorem gm390 : (.selects "BlockLayer$Queue" y_QU_clear y_QU_clear : Cond) ∈ G := gmk 428 (by decide +kernel) (by decide +kernel)
theorem gm391 : (.code y_QU_clear prog_5_method_6_code 1 none : Cond) ∈ G := gmk 429 (by decide +kernel) (by decide +kernel)
theorem gm392 : (.methodLink "BlockLayer$Queue" 35 y_AL_clear : Cond) ∈ G := gmk 430 (by decide +kernel) (by decide +kernel)
theorem gm393 : (.methodLink "BlockLayer" 123 y_DK_loseAllButMedia : Cond) ∈ G := gmk 431 (by decide +kernel) (by decide +kernel)
theorem gm394 : (.instanceMethod y_DK_loseAllButMedia : Cond) ∈ G := gmk 432 (by decide +kernel) (by decide +kernel)
theorem gm395 : (.selects "BlockLayer$Disk" y_DK_loseAllButMedia y_DK_loseAllButMedia : Cond) ∈ G := gmk 433 (by decide +kernel) (by decide +kernel)
theorem gm396 : (.code y_DK_loseAllButMedia prog_4_method_7_code 1 none : Cond) ∈ G := gmk 434 (by decide +kernel) (by decide +kernel)
theorem gm397 : (.methodLink "BlockLayer$Disk" 69 y_CS_clear : Cond) ∈ G := gmk 435 (by decide +kernel) (by decide +kernel)
theorem gm398 : (.methodLink "BlockLayerLaw" 86 y_BL_used : Cond) ∈ G := gmk 436 (by decide +kernel) (by decide +kernel)
theorem gm399 : (.instanceMethod y_BL_used : Cond) ∈ G := gmk 437 (by decide +kernel) (by decide +kernel)
theorem gm400 : (.selects "BlockLayer" y_BL_used y_BL_used : Cond) ∈ G := gmk 438 (by decide +kernel) (by decide +kernel)
theorem gm401 : (.code y_BL_used prog_1_method_12_code 3 (some FieldType.int) : Cond) ∈ G := gmk 439 (by decide +kernel) (by decide +kernel)
theorem gm402 : (.methodLink "BlockLayer" 126 y_CS_at : Cond) ∈ G := gmk 440 (by decide +kernel) (by decide +kernel)
theorem gm403 : (.instanceMethod y_CS_at : Cond) ∈ G := gmk 441 (by decide +kernel) (by decide +kernel)
theorem gm404 : (.selects "BlockLayer$Copies" y_CS_at y_CS_at : Cond) ∈ G := gmk 442 (by decide +kernel) (by decide +kernel)
theorem gm405 : (.code y_CS_at prog_2_method_3_code 2 (some (FieldType.object "BlockLayer$Copy")) : Cond) ∈ G := gmk 443 (by decide +kernel) (by decide +kernel)
theorem gm406 : (.methodLink "BlockLayerLaw" 90 y_BL_queued : Cond) ∈ G := gmk 444 (by decide +kernel) (by decide +kernel)
theorem gm407 : (.instanceMethod y_BL_queued : Cond) ∈ G := gmk 445 (by decide +kernel) (by decide +kernel)
theorem gm408 : (.selects "BlockLayer" y_BL_queued y_BL_queued : Cond) ∈ G := gmk 446 (by decide +kernel) (by decide +kernel)
theorem gm409 : (.code y_BL_queued prog_1_method_13_code 3 (some FieldType.int) : Cond) ∈ G := gmk 447 (by decide +kernel) (by decide +kernel)
theorem gm410 : (.methodLink "BlockLayer" 132 y_QU_at : Cond) ∈ G := gmk 448 (by decide +kernel) (by decide +kernel)
theorem gm411 : (.methodLink "BlockLayerLaw" 94 y_BL_request : Cond) ∈ G := gmk 449 (by decide +kernel) (by decide +kernel)
theorem gm412 : (.instanceMethod y_BL_request : Cond) ∈ G := gmk 450 (by decide +kernel) (by decide +kernel)
theorem gm413 : (.selects "BlockLayer" y_BL_request y_BL_request : Cond) ∈ G := gmk 451 (by decide +kernel) (by decide +kernel)
theorem gm414 : (.code y_BL_request prog_1_method_14_code 4 (some FieldType.int) : Cond) ∈ G := gmk 452 (by decide +kernel) (by decide +kernel)
theorem gm415 : (.methodLink "BlockLayer" 138 y_BL_liveRequest : Cond) ∈ G := gmk 453 (by decide +kernel) (by decide +kernel)
theorem gm417 : (.instanceMethod y_BL_liveRequest : Cond) ∈ G := gmk 455 (by decide +kernel) (by decide +kernel)
theorem gm418 : (.code y_BL_liveRequest prog_1_method_21_code 3 (some (FieldType.object "BlockLayer$Request")) : Cond) ∈ G := gmk 456 (by decide +kernel) (by decide +kernel)
theorem gm419 : (.methodLink "BlockLayer" 197 y_QU_ofNumber : Cond) ∈ G := gmk 457 (by decide +kernel) (by decide +kernel)
theorem gm420 : (.instanceMethod y_QU_ofNumber : Cond) ∈ G := gmk 458 (by decide +kernel) (by decide +kernel)
theorem gm421 : (.selects "BlockLayer$Queue" y_QU_ofNumber y_QU_ofNumber : Cond) ∈ G := gmk 459 (by decide +kernel) (by decide +kernel)
theorem gm422 : (.code y_QU_ofNumber prog_5_method_7_code 3 (some (FieldType.object "BlockLayer$Request")) : Cond) ∈ G := gmk 460 (by decide +kernel) (by decide +kernel)
theorem gm423 : (.methodLink "BlockLayerLaw" 98 y_BL_told : Cond) ∈ G := gmk 461 (by decide +kernel) (by decide +kernel)
theorem gm424 : (.instanceMethod y_BL_told : Cond) ∈ G := gmk 462 (by decide +kernel) (by decide +kernel)
theorem gm425 : (.selects "BlockLayer" y_BL_told y_BL_told : Cond) ∈ G := gmk 463 (by decide +kernel) (by decide +kernel)
theorem gm426 : (.code y_BL_told prog_1_method_15_code 2 (some FieldType.int) : Cond) ∈ G := gmk 464 (by decide +kernel) (by decide +kernel)
theorem gm427 : (.methodLink "BlockLayer" 155 y_QU_size : Cond) ∈ G := gmk 465 (by decide +kernel) (by decide +kernel)
theorem gm428 : (.methodLink "BlockLayer" 73 y_CS_size : Cond) ∈ G := gmk 466 (by decide +kernel) (by decide +kernel)
theorem gm429 : (.methodLink "BlockLayerLaw" 46 y_LW_load : Cond) ∈ G := gmk 467 (by decide +kernel) (by decide +kernel)
theorem gm430 : (.static y_LW_load : Cond) ∈ G := gmk 468 (by decide +kernel) (by decide +kernel)
theorem gm431 : (.codeWith y_LW_load method_3_code 4 (some FieldType.int) [(0, 9, 12, 13), (0, 9, 15, 15)] : Cond) ∈ G := gmk 469 (by decide +kernel) (by decide +kernel)
theorem gm432 : (.classLink "BlockLayerLaw" 13 "java/lang/IndexOutOfBoundsException" : Cond) ∈ G := gmk 470 (by decide +kernel) (by decide +kernel)
theorem gm433 : (.classLink "BlockLayerLaw" 15 "java/lang/UnsupportedOperationException" : Cond) ∈ G := gmk 471 (by decide +kernel) (by decide +kernel)
theorem gm434 : (.methodLink "BlockLayerLaw" 7 y_BL_load : Cond) ∈ G := gmk 472 (by decide +kernel) (by decide +kernel)
theorem gm435 : (.instanceMethod y_BL_load : Cond) ∈ G := gmk 473 (by decide +kernel) (by decide +kernel)
theorem gm436 : (.selects "BlockLayer" y_BL_load y_BL_load : Cond) ∈ G := gmk 474 (by decide +kernel) (by decide +kernel)
theorem gm437 : (.code y_BL_load prog_1_method_2_code 5 (some FieldType.int) : Cond) ∈ G := gmk 475 (by decide +kernel) (by decide +kernel)
theorem gm438 : (.methodLink "BlockLayer" 23 y_BL_requireBlock : Cond) ∈ G := gmk 476 (by decide +kernel) (by decide +kernel)
theorem gm439 : (.static y_BL_requireBlock : Cond) ∈ G := gmk 477 (by decide +kernel) (by decide +kernel)
theorem gm440 : (.code y_BL_requireBlock prog_1_method_16_code 1 none : Cond) ∈ G := gmk 478 (by decide +kernel) (by decide +kernel)
theorem gm441 : (.classLink "BlockLayer" 171 "java/lang/IndexOutOfBoundsException" : Cond) ∈ G := gmk 479 (by decide +kernel) (by decide +kernel)
theorem gm442 : (.instantiable "java/lang/IndexOutOfBoundsException" 6 : Cond) ∈ G := gmk 480 (by decide +kernel) (by decide +kernel)
theorem gm450 : (.selects "java/lang/IndexOutOfBoundsException" ⟨"java/lang/Throwable", "fillInStackTrace", "(I)Ljava/lang/Throwable;"⟩ ⟨"java/lang/Throwable", "fillInStackTrace", "(I)Ljava/lang/Throwable;"⟩ : Cond) ∈ G := gmk 488 (by decide +kernel) (by decide +kernel)
theorem gm451 : (.selects "java/lang/IndexOutOfBoundsException" ⟨"java/lang/Throwable", "fillInStackTrace", "()Ljava/lang/Throwable;"⟩ ⟨"java/lang/Throwable", "fillInStackTrace", "()Ljava/lang/Throwable;"⟩ : Cond) ∈ G := gmk 489 (by decide +kernel) (by decide +kernel)
theorem gm452 : (.lays "java/lang/IndexOutOfBoundsException" "java/lang/Throwable" "cause" "Ljava/lang/Throwable;" : Cond) ∈ G := gmk 490 (by decide +kernel) (by decide +kernel)
theorem gm453 : (.lays "java/lang/Throwable" "java/lang/Throwable" "cause" "Ljava/lang/Throwable;" : Cond) ∈ G := gmk 491 (by decide +kernel) (by decide +kernel)
theorem gm454 : (.lays "java/lang/IndexOutOfBoundsException" "java/lang/Throwable" "stackTrace" "[Ljava/lang/StackTraceElement;" : Cond) ∈ G := gmk 492 (by decide +kernel) (by decide +kernel)
theorem gm455 : (.lays "java/lang/Throwable" "java/lang/Throwable" "stackTrace" "[Ljava/lang/StackTraceElement;" : Cond) ∈ G := gmk 493 (by decide +kernel) (by decide +kernel)
theorem gm456 : (.lays "java/lang/IndexOutOfBoundsException" "java/lang/Throwable" "suppressedExceptions" "Ljava/util/List;" : Cond) ∈ G := gmk 494 (by decide +kernel) (by decide +kernel)
theorem gm457 : (.lays "java/lang/Throwable" "java/lang/Throwable" "suppressedExceptions" "Ljava/util/List;" : Cond) ∈ G := gmk 495 (by decide +kernel) (by decide +kernel)
theorem gm458 : (.lays "java/lang/IndexOutOfBoundsException" "java/lang/Throwable" "detailMessage" "Ljava/lang/String;" : Cond) ∈ G := gmk 496 (by decide +kernel) (by decide +kernel)
theorem gm459 : (.lays "java/lang/Throwable" "java/lang/Throwable" "detailMessage" "Ljava/lang/String;" : Cond) ∈ G := gmk 497 (by decide +kernel) (by decide +kernel)
theorem gm460 : (.lays "java/lang/IndexOutOfBoundsException" "java/lang/Throwable" "backtrace" "Ljava/lang/Object;" : Cond) ∈ G := gmk 498 (by decide +kernel) (by decide +kernel)
theorem gm461 : (.lays "java/lang/Throwable" "java/lang/Throwable" "backtrace" "Ljava/lang/Object;" : Cond) ∈ G := gmk 499 (by decide +kernel) (by decide +kernel)
theorem gm462 : (.fieldLink "java/lang/Throwable" 198 "java/lang/Throwable" "backtrace" "Ljava/lang/Object;" : Cond) ∈ G := gmk 500 (by decide +kernel) (by decide +kernel)
theorem gm463 : (.superclass "java/lang/Throwable" "java/lang/Object" : Cond) ∈ G := gmk 501 (by decide +kernel) (by decide +kernel)
theorem gm464 : (.instanceMethod ⟨"java/lang/Throwable", "<init>", "()V"⟩ : Cond) ∈ G := gmk 502 (by decide +kernel) (by decide +kernel)
theorem gm465 : (.code ⟨"java/lang/Throwable", "<init>", "()V"⟩ prog_19_method_1_code 1 none : Cond) ∈ G := gmk 503 (by decide +kernel) (by decide +kernel)
theorem gm466 : (.methodLink "java/lang/Throwable" 1 y_JO_init : Cond) ∈ G := gmk 504 (by decide +kernel) (by decide +kernel)
theorem gm467 : (.fieldLink "java/lang/Throwable" 13 "java/lang/Throwable" "UNASSIGNED_STACK" "[Ljava/lang/StackTraceElement;" : Cond) ∈ G := gmk 505 (by decide +kernel) (by decide +kernel)
theorem gm469 : (.fieldLink "java/lang/Throwable" 20 "java/lang/Throwable" "SUPPRESSED_SENTINEL" "Ljava/util/List;" : Cond) ∈ G := gmk 507 (by decide +kernel) (by decide +kernel)
theorem gm471 : (.methodLink "java/lang/Throwable" 27 ⟨"java/lang/Throwable", "fillInStackTrace", "()Ljava/lang/Throwable;"⟩ : Cond) ∈ G := gmk 509 (by decide +kernel) (by decide +kernel)
theorem gm472 : (.instanceMethod ⟨"java/lang/Throwable", "fillInStackTrace", "()Ljava/lang/Throwable;"⟩ : Cond) ∈ G := gmk 510 (by decide +kernel) (by decide +kernel)
theorem gm473 : (.sameMethod "java/lang/Throwable" "java/lang/Throwable" "fillInStackTrace" "()Ljava/lang/Throwable;" : Cond) ∈ G := gmk 511 (by decide +kernel) (by decide +kernel)
theorem gm474 : (.selects "java/lang/IllegalArgumentException" ⟨"java/lang/Throwable", "fillInStackTrace", "()Ljava/lang/Throwable;"⟩ ⟨"java/lang/Throwable", "fillInStackTrace", "()Ljava/lang/Throwable;"⟩ : Cond) ∈ G := gmk 512 (by decide +kernel) (by decide +kernel)
theorem gm475 : (.selects "java/lang/UnsupportedOperationException" ⟨"java/lang/Throwable", "fillInStackTrace", "()Ljava/lang/Throwable;"⟩ ⟨"java/lang/Throwable", "fillInStackTrace", "()Ljava/lang/Throwable;"⟩ : Cond) ∈ G := gmk 513 (by decide +kernel) (by decide +kernel)
theorem gm476 : (.codeSync ⟨"java/lang/Throwable", "fillInStackTrace", "()Ljava/lang/Throwable;"⟩ prog_19_method_18_code 1 (some (FieldType.object "java/lang/Throwable")) : Cond) ∈ G := gmk 514 (by decide +kernel) (by decide +kernel)
theorem gm477 : (.methodLink "java/lang/Throwable" 202 ⟨"java/lang/Throwable", "fillInStackTrace", "(I)Ljava/lang/Throwable;"⟩ : Cond) ∈ G := gmk 515 (by decide +kernel) (by decide +kernel)
theorem gm479 : (.instanceMethod ⟨"java/lang/Throwable", "fillInStackTrace", "(I)Ljava/lang/Throwable;"⟩ : Cond) ∈ G := gmk 517 (by decide +kernel) (by decide +kernel)
theorem gm480 : (.instantiable "java/lang/Throwable" 6 : Cond) ∈ G := gmk 518 (by decide +kernel) (by decide +kernel)
theorem gm481 : (.native ⟨"java/lang/Throwable", "fillInStackTrace", "(I)Ljava/lang/Throwable;"⟩ : Cond) ∈ G := gmk 519 (by decide +kernel) (by decide +kernel)
theorem gm483 : (.methodLink "BlockLayer" 175 ⟨"java/lang/IndexOutOfBoundsException", "<init>", "(Ljava/lang/String;)V"⟩ : Cond) ∈ G := gmk 521 (by decide +kernel) (by decide +kernel)
theorem gm484 : (.instanceMethod ⟨"java/lang/IndexOutOfBoundsException", "<init>", "(Ljava/lang/String;)V"⟩ : Cond) ∈ G := gmk 522 (by decide +kernel) (by decide +kernel)
theorem gm485 : (.code ⟨"java/lang/IndexOutOfBoundsException", "<init>", "(Ljava/lang/String;)V"⟩ prog_13_method_2_code 2 none : Cond) ∈ G := gmk 523 (by decide +kernel) (by decide +kernel)
theorem gm486 : (.methodLink "java/lang/IndexOutOfBoundsException" 7 ⟨"java/lang/RuntimeException", "<init>", "(Ljava/lang/String;)V"⟩ : Cond) ∈ G := gmk 524 (by decide +kernel) (by decide +kernel)
theorem gm487 : (.instanceMethod ⟨"java/lang/RuntimeException", "<init>", "(Ljava/lang/String;)V"⟩ : Cond) ∈ G := gmk 525 (by decide +kernel) (by decide +kernel)
theorem gm488 : (.code ⟨"java/lang/RuntimeException", "<init>", "(Ljava/lang/String;)V"⟩ prog_16_method_2_code 2 none : Cond) ∈ G := gmk 526 (by decide +kernel) (by decide +kernel)
theorem gm489 : (.methodLink "java/lang/RuntimeException" 7 ⟨"java/lang/Exception", "<init>", "(Ljava/lang/String;)V"⟩ : Cond) ∈ G := gmk 527 (by decide +kernel) (by decide +kernel)
theorem gm490 : (.instanceMethod ⟨"java/lang/Exception", "<init>", "(Ljava/lang/String;)V"⟩ : Cond) ∈ G := gmk 528 (by decide +kernel) (by decide +kernel)
theorem gm491 : (.code ⟨"java/lang/Exception", "<init>", "(Ljava/lang/String;)V"⟩ prog_11_method_2_code 2 none : Cond) ∈ G := gmk 529 (by decide +kernel) (by decide +kernel)
theorem gm492 : (.methodLink "java/lang/Exception" 7 ⟨"java/lang/Throwable", "<init>", "(Ljava/lang/String;)V"⟩ : Cond) ∈ G := gmk 530 (by decide +kernel) (by decide +kernel)
theorem gm493 : (.instanceMethod ⟨"java/lang/Throwable", "<init>", "(Ljava/lang/String;)V"⟩ : Cond) ∈ G := gmk 531 (by decide +kernel) (by decide +kernel)
theorem gm494 : (.code ⟨"java/lang/Throwable", "<init>", "(Ljava/lang/String;)V"⟩ prog_19_method_2_code 2 none : Cond) ∈ G := gmk 532 (by decide +kernel) (by decide +kernel)
theorem gm495 : (.fieldLink "java/lang/Throwable" 198 "java/lang/Throwable" "backtrace" "Ljava/lang/Object;" : Cond) ∈ G := gmk 533 (by decide +kernel) (by decide +kernel)
theorem gm496 : (.fieldLink "java/lang/Throwable" 31 "java/lang/Throwable" "detailMessage" "Ljava/lang/String;" : Cond) ∈ G := gmk 534 (by decide +kernel) (by decide +kernel)
theorem gm497 : (.fieldLink "java/lang/Throwable" 7 "java/lang/Throwable" "cause" "Ljava/lang/Throwable;" : Cond) ∈ G := gmk 535 (by decide +kernel) (by decide +kernel)
theorem gm498 : (.fieldLink "java/lang/Throwable" 17 "java/lang/Throwable" "stackTrace" "[Ljava/lang/StackTraceElement;" : Cond) ∈ G := gmk 536 (by decide +kernel) (by decide +kernel)
theorem gm499 : (.fieldLink "java/lang/Throwable" 24 "java/lang/Throwable" "suppressedExceptions" "Ljava/util/List;" : Cond) ∈ G := gmk 537 (by decide +kernel) (by decide +kernel)
theorem gm504 : (.lays "java/lang/IndexOutOfBoundsException" "java/lang/Throwable" "depth" "I" : Cond) ∈ G := gmk 542 (by decide +kernel) (by decide +kernel)
theorem gm507 : (.superclass "java/lang/IndexOutOfBoundsException" "java/lang/RuntimeException" : Cond) ∈ G := gmk 545 (by decide +kernel) (by decide +kernel)
theorem gm508 : (.arrayClass FieldType.byte : Cond) ∈ G := gmk 546 (by decide +kernel) (by decide +kernel)
theorem gm509 : (.methodLink "BlockLayer" 27 y_BL_requireQueueRoom : Cond) ∈ G := gmk 547 (by decide +kernel) (by decide +kernel)
theorem gm511 : (.instanceMethod y_BL_requireQueueRoom : Cond) ∈ G := gmk 549 (by decide +kernel) (by decide +kernel)
theorem gm512 : (.code y_BL_requireQueueRoom prog_1_method_17_code 2 none : Cond) ∈ G := gmk 550 (by decide +kernel) (by decide +kernel)
theorem gm513 : (.classLink "BlockLayer" 176 "java/lang/UnsupportedOperationException" : Cond) ∈ G := gmk 551 (by decide +kernel) (by decide +kernel)
theorem gm514 : (.instantiable "java/lang/UnsupportedOperationException" 6 : Cond) ∈ G := gmk 552 (by decide +kernel) (by decide +kernel)
theorem gm516 : (.selects "java/lang/UnsupportedOperationException" ⟨"java/lang/Throwable", "fillInStackTrace", "(I)Ljava/lang/Throwable;"⟩ ⟨"java/lang/Throwable", "fillInStackTrace", "(I)Ljava/lang/Throwable;"⟩ : Cond) ∈ G := gmk 554 (by decide +kernel) (by decide +kernel)
theorem gm517 : (.lays "java/lang/UnsupportedOperationException" "java/lang/Throwable" "cause" "Ljava/lang/Throwable;" : Cond) ∈ G := gmk 555 (by decide +kernel) (by decide +kernel)
theorem gm518 : (.lays "java/lang/UnsupportedOperationException" "java/lang/Throwable" "stackTrace" "[Ljava/lang/StackTraceElement;" : Cond) ∈ G := gmk 556 (by decide +kernel) (by decide +kernel)
theorem gm519 : (.lays "java/lang/UnsupportedOperationException" "java/lang/Throwable" "suppressedExceptions" "Ljava/util/List;" : Cond) ∈ G := gmk 557 (by decide +kernel) (by decide +kernel)
theorem gm520 : (.lays "java/lang/UnsupportedOperationException" "java/lang/Throwable" "detailMessage" "Ljava/lang/String;" : Cond) ∈ G := gmk 558 (by decide +kernel) (by decide +kernel)
theorem gm521 : (.lays "java/lang/UnsupportedOperationException" "java/lang/Throwable" "backtrace" "Ljava/lang/Object;" : Cond) ∈ G := gmk 559 (by decide +kernel) (by decide +kernel)
theorem gm523 : (.methodLink "BlockLayer" 180 ⟨"java/lang/UnsupportedOperationException", "<init>", "(Ljava/lang/String;)V"⟩ : Cond) ∈ G := gmk 561 (by decide +kernel) (by decide +kernel)
theorem gm524 : (.instanceMethod ⟨"java/lang/UnsupportedOperationException", "<init>", "(Ljava/lang/String;)V"⟩ : Cond) ∈ G := gmk 562 (by decide +kernel) (by decide +kernel)
theorem gm525 : (.code ⟨"java/lang/UnsupportedOperationException", "<init>", "(Ljava/lang/String;)V"⟩ prog_20_method_2_code 2 none : Cond) ∈ G := gmk 563 (by decide +kernel) (by decide +kernel)
theorem gm526 : (.methodLink "java/lang/UnsupportedOperationException" 7 ⟨"java/lang/RuntimeException", "<init>", "(Ljava/lang/String;)V"⟩ : Cond) ∈ G := gmk 564 (by decide +kernel) (by decide +kernel)
theorem gm527 : (.lays "java/lang/UnsupportedOperationException" "java/lang/Throwable" "depth" "I" : Cond) ∈ G := gmk 565 (by decide +kernel) (by decide +kernel)
theorem gm528 : (.superclass "java/lang/UnsupportedOperationException" "java/lang/RuntimeException" : Cond) ∈ G := gmk 566 (by decide +kernel) (by decide +kernel)
theorem gm529 : (.methodLink "BlockLayer" 38 y_BL_makeBufferRoom : Cond) ∈ G := gmk 567 (by decide +kernel) (by decide +kernel)
theorem gm531 : (.instanceMethod y_BL_makeBufferRoom : Cond) ∈ G := gmk 569 (by decide +kernel) (by decide +kernel)
theorem gm532 : (.code y_BL_makeBufferRoom prog_1_method_18_code 2 none : Cond) ∈ G := gmk 570 (by decide +kernel) (by decide +kernel)
theorem gm533 : (.methodLink "BlockLayer" 181 y_CS_takeFirst : Cond) ∈ G := gmk 571 (by decide +kernel) (by decide +kernel)
theorem gm534 : (.methodLink "BlockLayer" 81 y_BL_writeBack : Cond) ∈ G := gmk 572 (by decide +kernel) (by decide +kernel)
theorem gm536 : (.instanceMethod y_BL_writeBack : Cond) ∈ G := gmk 574 (by decide +kernel) (by decide +kernel)
theorem gm537 : (.code y_BL_writeBack prog_1_method_19_code 3 none : Cond) ∈ G := gmk 575 (by decide +kernel) (by decide +kernel)
theorem gm538 : (.methodLink "BlockLayer" 184 y_QU_absorberOf : Cond) ∈ G := gmk 576 (by decide +kernel) (by decide +kernel)
theorem gm539 : (.instanceMethod y_QU_absorberOf : Cond) ∈ G := gmk 577 (by decide +kernel) (by decide +kernel)
theorem gm540 : (.selects "BlockLayer$Queue" y_QU_absorberOf y_QU_absorberOf : Cond) ∈ G := gmk 578 (by decide +kernel) (by decide +kernel)
theorem gm541 : (.code y_QU_absorberOf prog_5_method_8_code 4 (some (FieldType.object "BlockLayer$Request")) : Cond) ∈ G := gmk 579 (by decide +kernel) (by decide +kernel)
theorem gm542 : (.methodLink "BlockLayer" 41 y_BL_makeRequest : Cond) ∈ G := gmk 580 (by decide +kernel) (by decide +kernel)
theorem gm544 : (.instanceMethod y_BL_makeRequest : Cond) ∈ G := gmk 582 (by decide +kernel) (by decide +kernel)
theorem gm545 : (.code y_BL_makeRequest prog_1_method_20_code 5 (some (FieldType.object "BlockLayer$Request")) : Cond) ∈ G := gmk 583 (by decide +kernel) (by decide +kernel)
theorem gm546 : (.classLink "BlockLayer" 46 "BlockLayer$Request" : Cond) ∈ G := gmk 584 (by decide +kernel) (by decide +kernel)
theorem gm547 : (.instantiable "BlockLayer$Request" 6 : Cond) ∈ G := gmk 585 (by decide +kernel) (by decide +kernel)
theorem gm548 : (.methodLink "BlockLayer" 190 y_RQ_init : Cond) ∈ G := gmk 586 (by decide +kernel) (by decide +kernel)
theorem gm549 : (.instanceMethod y_RQ_init : Cond) ∈ G := gmk 587 (by decide +kernel) (by decide +kernel)
theorem gm550 : (.code y_RQ_init prog_6_method_1_code 6 none : Cond) ∈ G := gmk 588 (by decide +kernel) (by decide +kernel)
theorem gm551 : (.methodLink "BlockLayer$Request" 1 y_JO_init : Cond) ∈ G := gmk 589 (by decide +kernel) (by decide +kernel)
theorem gm552 : (.fieldLink "BlockLayer$Request" 7 "BlockLayer$Request" "number" "I" : Cond) ∈ G := gmk 590 (by decide +kernel) (by decide +kernel)
theorem gm553 : (.fieldLink "BlockLayer$Queue" 38 "BlockLayer$Request" "number" "I" : Cond) ∈ G := gmk 591 (by decide +kernel) (by decide +kernel)
theorem gm554 : (.fieldLink "BlockLayer" 135 "BlockLayer$Request" "number" "I" : Cond) ∈ G := gmk 592 (by decide +kernel) (by decide +kernel)
theorem gm555 : (.fieldLink "BlockLayer$Request" 13 "BlockLayer$Request" "kind" "I" : Cond) ∈ G := gmk 593 (by decide +kernel) (by decide +kernel)
theorem gm556 : (.fieldLink "BlockLayer$Disk" 55 "BlockLayer$Request" "kind" "I" : Cond) ∈ G := gmk 594 (by decide +kernel) (by decide +kernel)
theorem gm557 : (.fieldLink "BlockLayer$Queue" 42 "BlockLayer$Request" "kind" "I" : Cond) ∈ G := gmk 595 (by decide +kernel) (by decide +kernel)
theorem gm558 : (.fieldLink "BlockLayer" 141 "BlockLayer$Request" "kind" "I" : Cond) ∈ G := gmk 596 (by decide +kernel) (by decide +kernel)
theorem gm559 : (.fieldLink "BlockLayer$Request" 16 "BlockLayer$Request" "block" "I" : Cond) ∈ G := gmk 597 (by decide +kernel) (by decide +kernel)
theorem gm560 : (.fieldLink "BlockLayer$Disk" 60 "BlockLayer$Request" "block" "I" : Cond) ∈ G := gmk 598 (by decide +kernel) (by decide +kernel)
theorem gm561 : (.fieldLink "BlockLayer$Queue" 45 "BlockLayer$Request" "block" "I" : Cond) ∈ G := gmk 599 (by decide +kernel) (by decide +kernel)
theorem gm562 : (.fieldLink "BlockLayer" 144 "BlockLayer$Request" "block" "I" : Cond) ∈ G := gmk 600 (by decide +kernel) (by decide +kernel)
theorem gm563 : (.fieldLink "BlockLayer$Request" 22 "BlockLayer$Request" "made" "I" : Cond) ∈ G := gmk 601 (by decide +kernel) (by decide +kernel)
theorem gm564 : (.fieldLink "BlockLayer$Disk" 147 "BlockLayer$Request" "made" "I" : Cond) ∈ G := gmk 602 (by decide +kernel) (by decide +kernel)
theorem gm565 : (.fieldLink "BlockLayer" 145 "BlockLayer$Request" "made" "I" : Cond) ∈ G := gmk 603 (by decide +kernel) (by decide +kernel)
theorem gm566 : (.fieldLink "BlockLayer$Request" 19 "BlockLayer$Request" "value" "I" : Cond) ∈ G := gmk 604 (by decide +kernel) (by decide +kernel)
theorem gm567 : (.fieldLink "BlockLayer" 56 "BlockLayer$Request" "value" "I" : Cond) ∈ G := gmk 605 (by decide +kernel) (by decide +kernel)
theorem gm568 : (.fieldLink "BlockLayer$Disk" 63 "BlockLayer$Request" "value" "I" : Cond) ∈ G := gmk 606 (by decide +kernel) (by decide +kernel)
theorem gm569 : (.fieldLink "BlockLayer" 45 "BlockLayer$Request" "ended" "Z" : Cond) ∈ G := gmk 607 (by decide +kernel) (by decide +kernel)
theorem gm570 : (.fieldLink "BlockLayer$Disk" 115 "BlockLayer$Request" "ended" "Z" : Cond) ∈ G := gmk 608 (by decide +kernel) (by decide +kernel)
theorem gm571 : (.laysFinal "BlockLayer$Request" "BlockLayer$Request" "number" "I" : Cond) ∈ G := gmk 609 (by decide +kernel) (by decide +kernel)
theorem gm573 : (.laysFinal "BlockLayer$Request" "BlockLayer$Request" "kind" "I" : Cond) ∈ G := gmk 611 (by decide +kernel) (by decide +kernel)
theorem gm575 : (.laysFinal "BlockLayer$Request" "BlockLayer$Request" "block" "I" : Cond) ∈ G := gmk 613 (by decide +kernel) (by decide +kernel)
theorem gm577 : (.laysFinal "BlockLayer$Request" "BlockLayer$Request" "made" "I" : Cond) ∈ G := gmk 615 (by decide +kernel) (by decide +kernel)
theorem gm579 : (.lays "BlockLayer$Request" "BlockLayer$Request" "value" "I" : Cond) ∈ G := gmk 617 (by decide +kernel) (by decide +kernel)
theorem gm581 : (.lays "BlockLayer$Request" "BlockLayer$Request" "ended" "Z" : Cond) ∈ G := gmk 619 (by decide +kernel) (by decide +kernel)
theorem gm583 : (.superclass "BlockLayer$Request" "java/lang/Object" : Cond) ∈ G := gmk 621 (by decide +kernel) (by decide +kernel)
theorem gm584 : (.methodLink "BlockLayer" 193 y_QU_add : Cond) ∈ G := gmk 622 (by decide +kernel) (by decide +kernel)
theorem gm585 : (.instanceMethod y_QU_add : Cond) ∈ G := gmk 623 (by decide +kernel) (by decide +kernel)
theorem gm586 : (.selects "BlockLayer$Queue" y_QU_add y_QU_add : Cond) ∈ G := gmk 624 (by decide +kernel) (by decide +kernel)
theorem gm587 : (.code y_QU_add prog_5_method_4_code 2 none : Cond) ∈ G := gmk 625 (by decide +kernel) (by decide +kernel)
theorem gm588 : (.methodLink "BlockLayer$Queue" 28 y_AL_add0 : Cond) ∈ G := gmk 626 (by decide +kernel) (by decide +kernel)
theorem gm589 : (.classLink "BlockLayer" 54 "BlockLayer$Copy" : Cond) ∈ G := gmk 627 (by decide +kernel) (by decide +kernel)
theorem gm590 : (.methodLink "BlockLayer" 59 y_CP_init : Cond) ∈ G := gmk 628 (by decide +kernel) (by decide +kernel)
theorem gm591 : (.methodLink "BlockLayer" 65 y_CS_putLast : Cond) ∈ G := gmk 629 (by decide +kernel) (by decide +kernel)
theorem gm592 : (.methodLink "BlockLayerLaw" 55 y_LW_save : Cond) ∈ G := gmk 630 (by decide +kernel) (by decide +kernel)
theorem gm593 : (.static y_LW_save : Cond) ∈ G := gmk 631 (by decide +kernel) (by decide +kernel)
theorem gm594 : (.codeWith y_LW_save method_4_code 5 (some FieldType.int) [(0, 10, 13, 13), (0, 10, 17, 15)] : Cond) ∈ G := gmk 632 (by decide +kernel) (by decide +kernel)
theorem gm595 : (.methodLink "BlockLayerLaw" 17 y_BL_save : Cond) ∈ G := gmk 633 (by decide +kernel) (by decide +kernel)
theorem gm596 : (.instanceMethod y_BL_save : Cond) ∈ G := gmk 634 (by decide +kernel) (by decide +kernel)
theorem gm597 : (.selects "BlockLayer" y_BL_save y_BL_save : Cond) ∈ G := gmk 635 (by decide +kernel) (by decide +kernel)
theorem gm598 : (.code y_BL_save prog_1_method_3_code 5 (some FieldType.int) : Cond) ∈ G := gmk 636 (by decide +kernel) (by decide +kernel)
theorem gm599 : (.methodLink "BlockLayerLaw" 59 y_LW_sync : Cond) ∈ G := gmk 637 (by decide +kernel) (by decide +kernel)
theorem gm600 : (.static y_LW_sync : Cond) ∈ G := gmk 638 (by decide +kernel) (by decide +kernel)
theorem gm601 : (.codeWith y_LW_sync method_5_code 3 (some FieldType.int) [(0, 8, 11, 15)] : Cond) ∈ G := gmk 639 (by decide +kernel) (by decide +kernel)
theorem gm602 : (.methodLink "BlockLayerLaw" 21 y_BL_sync : Cond) ∈ G := gmk 640 (by decide +kernel) (by decide +kernel)
theorem gm603 : (.instanceMethod y_BL_sync : Cond) ∈ G := gmk 641 (by decide +kernel) (by decide +kernel)
theorem gm604 : (.selects "BlockLayer" y_BL_sync y_BL_sync : Cond) ∈ G := gmk 642 (by decide +kernel) (by decide +kernel)
theorem gm605 : (.code y_BL_sync prog_1_method_4_code 4 (some FieldType.int) : Cond) ∈ G := gmk 643 (by decide +kernel) (by decide +kernel)
theorem gm606 : (.methodLink "BlockLayer" 77 y_CS_dirtyOfLeastBlock : Cond) ∈ G := gmk 644 (by decide +kernel) (by decide +kernel)
theorem gm607 : (.instanceMethod y_CS_dirtyOfLeastBlock : Cond) ∈ G := gmk 645 (by decide +kernel) (by decide +kernel)
theorem gm608 : (.selects "BlockLayer$Copies" y_CS_dirtyOfLeastBlock y_CS_dirtyOfLeastBlock : Cond) ∈ G := gmk 646 (by decide +kernel) (by decide +kernel)
theorem gm609 : (.code y_CS_dirtyOfLeastBlock prog_2_method_7_code 4 (some (FieldType.object "BlockLayer$Copy")) : Cond) ∈ G := gmk 647 (by decide +kernel) (by decide +kernel)
theorem gm610 : (.methodLink "BlockLayerLaw" 63 y_LW_step : Cond) ∈ G := gmk 648 (by decide +kernel) (by decide +kernel)
theorem gm611 : (.static y_LW_step : Cond) ∈ G := gmk 649 (by decide +kernel) (by decide +kernel)
theorem gm612 : (.codeWith y_LW_step method_6_code 4 (some FieldType.int) [(0, 9, 12, 28)] : Cond) ∈ G := gmk 650 (by decide +kernel) (by decide +kernel)
theorem gm613 : (.classLink "BlockLayerLaw" 28 "java/lang/IllegalArgumentException" : Cond) ∈ G := gmk 651 (by decide +kernel) (by decide +kernel)
theorem gm614 : (.methodLink "BlockLayerLaw" 25 y_BL_step : Cond) ∈ G := gmk 652 (by decide +kernel) (by decide +kernel)
theorem gm615 : (.instanceMethod y_BL_step : Cond) ∈ G := gmk 653 (by decide +kernel) (by decide +kernel)
theorem gm616 : (.selects "BlockLayer" y_BL_step y_BL_step : Cond) ∈ G := gmk 654 (by decide +kernel) (by decide +kernel)
theorem gm617 : (.code y_BL_step prog_1_method_5_code 2 (some FieldType.int) : Cond) ∈ G := gmk 655 (by decide +kernel) (by decide +kernel)
theorem gm618 : (.classLink "BlockLayer" 84 "java/lang/IllegalArgumentException" : Cond) ∈ G := gmk 656 (by decide +kernel) (by decide +kernel)
theorem gm619 : (.instantiable "java/lang/IllegalArgumentException" 6 : Cond) ∈ G := gmk 657 (by decide +kernel) (by decide +kernel)
theorem gm621 : (.selects "java/lang/IllegalArgumentException" ⟨"java/lang/Throwable", "fillInStackTrace", "(I)Ljava/lang/Throwable;"⟩ ⟨"java/lang/Throwable", "fillInStackTrace", "(I)Ljava/lang/Throwable;"⟩ : Cond) ∈ G := gmk 659 (by decide +kernel) (by decide +kernel)
theorem gm622 : (.lays "java/lang/IllegalArgumentException" "java/lang/Throwable" "cause" "Ljava/lang/Throwable;" : Cond) ∈ G := gmk 660 (by decide +kernel) (by decide +kernel)
theorem gm623 : (.lays "java/lang/IllegalArgumentException" "java/lang/Throwable" "stackTrace" "[Ljava/lang/StackTraceElement;" : Cond) ∈ G := gmk 661 (by decide +kernel) (by decide +kernel)
theorem gm624 : (.lays "java/lang/IllegalArgumentException" "java/lang/Throwable" "suppressedExceptions" "Ljava/util/List;" : Cond) ∈ G := gmk 662 (by decide +kernel) (by decide +kernel)
theorem gm625 : (.lays "java/lang/IllegalArgumentException" "java/lang/Throwable" "detailMessage" "Ljava/lang/String;" : Cond) ∈ G := gmk 663 (by decide +kernel) (by decide +kernel)
theorem gm626 : (.lays "java/lang/IllegalArgumentException" "java/lang/Throwable" "backtrace" "Ljava/lang/Object;" : Cond) ∈ G := gmk 664 (by decide +kernel) (by decide +kernel)
theorem gm628 : (.methodLink "BlockLayer" 88 ⟨"java/lang/IllegalArgumentException", "<init>", "(Ljava/lang/String;)V"⟩ : Cond) ∈ G := gmk 666 (by decide +kernel) (by decide +kernel)
theorem gm629 : (.instanceMethod ⟨"java/lang/IllegalArgumentException", "<init>", "(Ljava/lang/String;)V"⟩ : Cond) ∈ G := gmk 667 (by decide +kernel) (by decide +kernel)
theorem gm630 : (.code ⟨"java/lang/IllegalArgumentException", "<init>", "(Ljava/lang/String;)V"⟩ prog_12_method_2_code 2 none : Cond) ∈ G := gmk 668 (by decide +kernel) (by decide +kernel)
theorem gm631 : (.methodLink "java/lang/IllegalArgumentException" 7 ⟨"java/lang/RuntimeException", "<init>", "(Ljava/lang/String;)V"⟩ : Cond) ∈ G := gmk 669 (by decide +kernel) (by decide +kernel)
theorem gm632 : (.lays "java/lang/IllegalArgumentException" "java/lang/Throwable" "depth" "I" : Cond) ∈ G := gmk 670 (by decide +kernel) (by decide +kernel)
theorem gm633 : (.superclass "java/lang/IllegalArgumentException" "java/lang/RuntimeException" : Cond) ∈ G := gmk 671 (by decide +kernel) (by decide +kernel)
theorem gm634 : (.methodLink "BlockLayer" 91 y_DK_pass : Cond) ∈ G := gmk 672 (by decide +kernel) (by decide +kernel)
theorem gm635 : (.instanceMethod y_DK_pass : Cond) ∈ G := gmk 673 (by decide +kernel) (by decide +kernel)
theorem gm636 : (.selects "BlockLayer$Disk" y_DK_pass y_DK_pass : Cond) ∈ G := gmk 674 (by decide +kernel) (by decide +kernel)
theorem gm637 : (.code y_DK_pass prog_4_method_3_code 4 none : Cond) ∈ G := gmk 675 (by decide +kernel) (by decide +kernel)
theorem gm638 : (.methodLink "BlockLayerLaw" 70 y_LW_policy : Cond) ∈ G := gmk 676 (by decide +kernel) (by decide +kernel)
theorem gm639 : (.static y_LW_policy : Cond) ∈ G := gmk 677 (by decide +kernel) (by decide +kernel)
theorem gm640 : (.codeWith y_LW_policy method_7_code 4 (some FieldType.int) [(0, 9, 12, 28)] : Cond) ∈ G := gmk 678 (by decide +kernel) (by decide +kernel)
theorem gm641 : (.methodLink "BlockLayerLaw" 30 y_BL_policy : Cond) ∈ G := gmk 679 (by decide +kernel) (by decide +kernel)
theorem gm642 : (.instanceMethod y_BL_policy : Cond) ∈ G := gmk 680 (by decide +kernel) (by decide +kernel)
theorem gm643 : (.selects "BlockLayer" y_BL_policy y_BL_policy : Cond) ∈ G := gmk 681 (by decide +kernel) (by decide +kernel)
theorem gm644 : (.code y_BL_policy prog_1_method_7_code 3 (some FieldType.int) : Cond) ∈ G := gmk 682 (by decide +kernel) (by decide +kernel)
theorem gm646 : (.methodLink "BlockLayerLaw" 77 y_LW_newest : Cond) ∈ G := gmk 684 (by decide +kernel) (by decide +kernel)
theorem gm647 : (.static y_LW_newest : Cond) ∈ G := gmk 685 (by decide +kernel) (by decide +kernel)
theorem gm648 : (.codeWith y_LW_newest method_8_code 4 (some FieldType.int) [(0, 9, 12, 13)] : Cond) ∈ G := gmk 686 (by decide +kernel) (by decide +kernel)
theorem gm649 : (.methodLink "BlockLayerLaw" 33 y_BL_newest : Cond) ∈ G := gmk 687 (by decide +kernel) (by decide +kernel)
theorem gm650 : (.instanceMethod y_BL_newest : Cond) ∈ G := gmk 688 (by decide +kernel) (by decide +kernel)
theorem gm651 : (.selects "BlockLayer" y_BL_newest y_BL_newest : Cond) ∈ G := gmk 689 (by decide +kernel) (by decide +kernel)
theorem gm652 : (.code y_BL_newest prog_1_method_9_code 2 (some FieldType.int) : Cond) ∈ G := gmk 690 (by decide +kernel) (by decide +kernel)
theorem gm653 : (.methodLink "BlockLayerLaw" 80 y_LW_media : Cond) ∈ G := gmk 691 (by decide +kernel) (by decide +kernel)
theorem gm654 : (.static y_LW_media : Cond) ∈ G := gmk 692 (by decide +kernel) (by decide +kernel)
theorem gm655 : (.codeWith y_LW_media method_9_code 4 (some FieldType.int) [(0, 9, 12, 13)] : Cond) ∈ G := gmk 693 (by decide +kernel) (by decide +kernel)
theorem gm656 : (.methodLink "BlockLayerLaw" 36 y_BL_media : Cond) ∈ G := gmk 694 (by decide +kernel) (by decide +kernel)
theorem gm657 : (.instanceMethod y_BL_media : Cond) ∈ G := gmk 695 (by decide +kernel) (by decide +kernel)
theorem gm658 : (.selects "BlockLayer" y_BL_media y_BL_media : Cond) ∈ G := gmk 696 (by decide +kernel) (by decide +kernel)
theorem gm659 : (.code y_BL_media prog_1_method_10_code 2 (some FieldType.int) : Cond) ∈ G := gmk 697 (by decide +kernel) (by decide +kernel)
theorem gm660 : (.methodLink "BlockLayerLaw" 83 y_LW_buffer : Cond) ∈ G := gmk 698 (by decide +kernel) (by decide +kernel)
theorem gm661 : (.static y_LW_buffer : Cond) ∈ G := gmk 699 (by decide +kernel) (by decide +kernel)
theorem gm662 : (.codeWith y_LW_buffer method_10_code 4 (some FieldType.int) [(0, 9, 12, 13)] : Cond) ∈ G := gmk 700 (by decide +kernel) (by decide +kernel)
theorem gm663 : (.methodLink "BlockLayerLaw" 39 y_BL_buffer : Cond) ∈ G := gmk 701 (by decide +kernel) (by decide +kernel)
theorem gm664 : (.instanceMethod y_BL_buffer : Cond) ∈ G := gmk 702 (by decide +kernel) (by decide +kernel)
theorem gm665 : (.selects "BlockLayer" y_BL_buffer y_BL_buffer : Cond) ∈ G := gmk 703 (by decide +kernel) (by decide +kernel)
theorem gm666 : (.code y_BL_buffer prog_1_method_11_code 3 (some FieldType.int) : Cond) ∈ G := gmk 704 (by decide +kernel) (by decide +kernel)
theorem gm667 : (.classLink "BlockLayerLaw" 43 "BlockLayerModel" : Cond) ∈ G := gmk 705 (by decide +kernel) (by decide +kernel)
theorem gm668 : (.instantiable "BlockLayerModel" 29 : Cond) ∈ G := gmk 706 (by decide +kernel) (by decide +kernel)
theorem gm669 : (.methodLink "BlockLayerLaw" 45 y_MD_init : Cond) ∈ G := gmk 707 (by decide +kernel) (by decide +kernel)
theorem gm670 : (.instanceMethod y_MD_init : Cond) ∈ G := gmk 708 (by decide +kernel) (by decide +kernel)
theorem gm671 : (.code y_MD_init prog_8_method_1_code 1 none : Cond) ∈ G := gmk 709 (by decide +kernel) (by decide +kernel)
theorem gm672 : (.methodLink "BlockLayerModel" 1 y_JO_init : Cond) ∈ G := gmk 710 (by decide +kernel) (by decide +kernel)
theorem gm673 : (.fieldLink "BlockLayerModel" 52 "BlockLayerModel" "code" "I" : Cond) ∈ G := gmk 711 (by decide +kernel) (by decide +kernel)
theorem gm674 : (.fieldLink "BlockLayerModel" 78 "BlockLayerModel" "now" "I" : Cond) ∈ G := gmk 712 (by decide +kernel) (by decide +kernel)
theorem gm675 : (.fieldLink "BlockLayerModel" 156 "BlockLayerModel" "idle" "I" : Cond) ∈ G := gmk 713 (by decide +kernel) (by decide +kernel)
theorem gm676 : (.fieldLink "BlockLayerModel" 137 "BlockLayerModel" "hits" "I" : Cond) ∈ G := gmk 714 (by decide +kernel) (by decide +kernel)
theorem gm677 : (.fieldLink "BlockLayerModel" 144 "BlockLayerModel" "misses" "I" : Cond) ∈ G := gmk 715 (by decide +kernel) (by decide +kernel)
theorem gm678 : (.fieldLink "BlockLayerModel" 62 "BlockLayerModel" "evictions" "I" : Cond) ∈ G := gmk 716 (by decide +kernel) (by decide +kernel)
theorem gm679 : (.fieldLink "BlockLayerModel" 72 "BlockLayerModel" "absorbed" "I" : Cond) ∈ G := gmk 717 (by decide +kernel) (by decide +kernel)
theorem gm680 : (.fieldLink "BlockLayerModel" 119 "BlockLayerModel" "served" "I" : Cond) ∈ G := gmk 718 (by decide +kernel) (by decide +kernel)
theorem gm681 : (.fieldLink "BlockLayerModel" 7 "BlockLayerModel" "policy" "I" : Cond) ∈ G := gmk 719 (by decide +kernel) (by decide +kernel)
theorem gm682 : (.fieldLink "BlockLayerModel" 13 "BlockLayerModel" "media" "[I" : Cond) ∈ G := gmk 720 (by decide +kernel) (by decide +kernel)
theorem gm683 : (.fieldLink "BlockLayerModel" 55 "BlockLayerModel" "buffers" "I" : Cond) ∈ G := gmk 721 (by decide +kernel) (by decide +kernel)
theorem gm684 : (.fieldLink "BlockLayerModel" 17 "BlockLayerModel" "bufferBlock" "[I" : Cond) ∈ G := gmk 722 (by decide +kernel) (by decide +kernel)
theorem gm685 : (.fieldLink "BlockLayerModel" 20 "BlockLayerModel" "bufferValue" "[I" : Cond) ∈ G := gmk 723 (by decide +kernel) (by decide +kernel)
theorem gm686 : (.fieldLink "BlockLayerModel" 23 "BlockLayerModel" "dirty" "[Z" : Cond) ∈ G := gmk 724 (by decide +kernel) (by decide +kernel)
theorem gm687 : (.fieldLink "BlockLayerModel" 75 "BlockLayerModel" "numbers" "I" : Cond) ∈ G := gmk 725 (by decide +kernel) (by decide +kernel)
theorem gm688 : (.fieldLink "BlockLayerModel" 69 "BlockLayerModel" "queue" "I" : Cond) ∈ G := gmk 726 (by decide +kernel) (by decide +kernel)
theorem gm689 : (.fieldLink "BlockLayerModel" 27 "BlockLayerModel" "number" "[I" : Cond) ∈ G := gmk 727 (by decide +kernel) (by decide +kernel)
theorem gm690 : (.fieldLink "BlockLayerModel" 30 "BlockLayerModel" "kind" "[I" : Cond) ∈ G := gmk 728 (by decide +kernel) (by decide +kernel)
theorem gm691 : (.fieldLink "BlockLayerModel" 33 "BlockLayerModel" "block" "[I" : Cond) ∈ G := gmk 729 (by decide +kernel) (by decide +kernel)
theorem gm692 : (.fieldLink "BlockLayerModel" 36 "BlockLayerModel" "value" "[I" : Cond) ∈ G := gmk 730 (by decide +kernel) (by decide +kernel)
theorem gm693 : (.fieldLink "BlockLayerModel" 39 "BlockLayerModel" "made" "[I" : Cond) ∈ G := gmk 731 (by decide +kernel) (by decide +kernel)
theorem gm694 : (.fieldLink "BlockLayerModel" 113 "BlockLayerModel" "cached" "I" : Cond) ∈ G := gmk 732 (by decide +kernel) (by decide +kernel)
theorem gm695 : (.fieldLink "BlockLayerModel" 42 "BlockLayerModel" "cacheBlock" "[I" : Cond) ∈ G := gmk 733 (by decide +kernel) (by decide +kernel)
theorem gm696 : (.fieldLink "BlockLayerModel" 45 "BlockLayerModel" "cacheValue" "[I" : Cond) ∈ G := gmk 734 (by decide +kernel) (by decide +kernel)
theorem gm697 : (.fieldLink "BlockLayerModel" 85 "BlockLayerModel" "head" "I" : Cond) ∈ G := gmk 735 (by decide +kernel) (by decide +kernel)
theorem gm698 : (.fieldLink "BlockLayerModel" 48 "BlockLayerModel" "up" "Z" : Cond) ∈ G := gmk 736 (by decide +kernel) (by decide +kernel)
theorem gm699 : (.fieldLink "BlockLayerModel" 110 "BlockLayerModel" "serves" "Z" : Cond) ∈ G := gmk 737 (by decide +kernel) (by decide +kernel)
theorem gm700 : (.fieldLink "BlockLayerModel" 116 "BlockLayerModel" "until" "I" : Cond) ∈ G := gmk 738 (by decide +kernel) (by decide +kernel)
theorem gm701 : (.fieldLink "BlockLayerModel" 125 "BlockLayerModel" "lastRead" "I" : Cond) ∈ G := gmk 739 (by decide +kernel) (by decide +kernel)
theorem gm702 : (.lays "BlockLayerModel" "BlockLayerModel" "code" "I" : Cond) ∈ G := gmk 740 (by decide +kernel) (by decide +kernel)
theorem gm704 : (.lays "BlockLayerModel" "BlockLayerModel" "now" "I" : Cond) ∈ G := gmk 742 (by decide +kernel) (by decide +kernel)
theorem gm706 : (.lays "BlockLayerModel" "BlockLayerModel" "idle" "I" : Cond) ∈ G := gmk 744 (by decide +kernel) (by decide +kernel)
theorem gm708 : (.lays "BlockLayerModel" "BlockLayerModel" "hits" "I" : Cond) ∈ G := gmk 746 (by decide +kernel) (by decide +kernel)
theorem gm710 : (.lays "BlockLayerModel" "BlockLayerModel" "misses" "I" : Cond) ∈ G := gmk 748 (by decide +kernel) (by decide +kernel)
theorem gm712 : (.lays "BlockLayerModel" "BlockLayerModel" "evictions" "I" : Cond) ∈ G := gmk 750 (by decide +kernel) (by decide +kernel)
theorem gm714 : (.lays "BlockLayerModel" "BlockLayerModel" "absorbed" "I" : Cond) ∈ G := gmk 752 (by decide +kernel) (by decide +kernel)
theorem gm716 : (.lays "BlockLayerModel" "BlockLayerModel" "served" "I" : Cond) ∈ G := gmk 754 (by decide +kernel) (by decide +kernel)
theorem gm718 : (.lays "BlockLayerModel" "BlockLayerModel" "policy" "I" : Cond) ∈ G := gmk 756 (by decide +kernel) (by decide +kernel)
theorem gm720 : (.laysFinal "BlockLayerModel" "BlockLayerModel" "media" "[I" : Cond) ∈ G := gmk 758 (by decide +kernel) (by decide +kernel)
theorem gm722 : (.lays "BlockLayerModel" "BlockLayerModel" "buffers" "I" : Cond) ∈ G := gmk 760 (by decide +kernel) (by decide +kernel)
theorem gm724 : (.laysFinal "BlockLayerModel" "BlockLayerModel" "bufferBlock" "[I" : Cond) ∈ G := gmk 762 (by decide +kernel) (by decide +kernel)
theorem gm726 : (.laysFinal "BlockLayerModel" "BlockLayerModel" "bufferValue" "[I" : Cond) ∈ G := gmk 764 (by decide +kernel) (by decide +kernel)
theorem gm728 : (.laysFinal "BlockLayerModel" "BlockLayerModel" "dirty" "[Z" : Cond) ∈ G := gmk 766 (by decide +kernel) (by decide +kernel)
theorem gm730 : (.lays "BlockLayerModel" "BlockLayerModel" "numbers" "I" : Cond) ∈ G := gmk 768 (by decide +kernel) (by decide +kernel)
theorem gm732 : (.lays "BlockLayerModel" "BlockLayerModel" "queue" "I" : Cond) ∈ G := gmk 770 (by decide +kernel) (by decide +kernel)
theorem gm734 : (.laysFinal "BlockLayerModel" "BlockLayerModel" "number" "[I" : Cond) ∈ G := gmk 772 (by decide +kernel) (by decide +kernel)
theorem gm736 : (.laysFinal "BlockLayerModel" "BlockLayerModel" "kind" "[I" : Cond) ∈ G := gmk 774 (by decide +kernel) (by decide +kernel)
theorem gm738 : (.laysFinal "BlockLayerModel" "BlockLayerModel" "block" "[I" : Cond) ∈ G := gmk 776 (by decide +kernel) (by decide +kernel)
theorem gm740 : (.laysFinal "BlockLayerModel" "BlockLayerModel" "value" "[I" : Cond) ∈ G := gmk 778 (by decide +kernel) (by decide +kernel)
theorem gm742 : (.laysFinal "BlockLayerModel" "BlockLayerModel" "made" "[I" : Cond) ∈ G := gmk 780 (by decide +kernel) (by decide +kernel)
theorem gm744 : (.lays "BlockLayerModel" "BlockLayerModel" "cached" "I" : Cond) ∈ G := gmk 782 (by decide +kernel) (by decide +kernel)
theorem gm746 : (.laysFinal "BlockLayerModel" "BlockLayerModel" "cacheBlock" "[I" : Cond) ∈ G := gmk 784 (by decide +kernel) (by decide +kernel)
theorem gm748 : (.laysFinal "BlockLayerModel" "BlockLayerModel" "cacheValue" "[I" : Cond) ∈ G := gmk 786 (by decide +kernel) (by decide +kernel)
theorem gm750 : (.lays "BlockLayerModel" "BlockLayerModel" "head" "I" : Cond) ∈ G := gmk 788 (by decide +kernel) (by decide +kernel)
theorem gm752 : (.lays "BlockLayerModel" "BlockLayerModel" "up" "Z" : Cond) ∈ G := gmk 790 (by decide +kernel) (by decide +kernel)
theorem gm754 : (.lays "BlockLayerModel" "BlockLayerModel" "serves" "Z" : Cond) ∈ G := gmk 792 (by decide +kernel) (by decide +kernel)
theorem gm756 : (.lays "BlockLayerModel" "BlockLayerModel" "until" "I" : Cond) ∈ G := gmk 794 (by decide +kernel) (by decide +kernel)
theorem gm758 : (.lays "BlockLayerModel" "BlockLayerModel" "lastRead" "I" : Cond) ∈ G := gmk 796 (by decide +kernel) (by decide +kernel)
theorem gm760 : (.superclass "BlockLayerModel" "java/lang/Object" : Cond) ∈ G := gmk 798 (by decide +kernel) (by decide +kernel)
theorem gm761 : (.arrayClass FieldType.boolean : Cond) ∈ G := gmk 799 (by decide +kernel) (by decide +kernel)
theorem gm762 : (.methodLink "BlockLayerLaw" 52 y_MD_thrown : Cond) ∈ G := gmk 800 (by decide +kernel) (by decide +kernel)
theorem gm763 : (.instanceMethod y_MD_thrown : Cond) ∈ G := gmk 801 (by decide +kernel) (by decide +kernel)
theorem gm764 : (.selects "BlockLayerModel" y_MD_thrown y_MD_thrown : Cond) ∈ G := gmk 802 (by decide +kernel) (by decide +kernel)
theorem gm765 : (.code y_MD_thrown prog_8_method_2_code 1 (some FieldType.int) : Cond) ∈ G := gmk 803 (by decide +kernel) (by decide +kernel)
theorem gm766 : (.methodLink "BlockLayerLaw" 51 y_MD_load : Cond) ∈ G := gmk 804 (by decide +kernel) (by decide +kernel)
theorem gm767 : (.instanceMethod y_MD_load : Cond) ∈ G := gmk 805 (by decide +kernel) (by decide +kernel)
theorem gm768 : (.selects "BlockLayerModel" y_MD_load y_MD_load : Cond) ∈ G := gmk 806 (by decide +kernel) (by decide +kernel)
theorem gm769 : (.code y_MD_load prog_8_method_20_code 5 (some FieldType.int) : Cond) ∈ G := gmk 807 (by decide +kernel) (by decide +kernel)
theorem gm770 : (.methodLink "BlockLayerModel" 131 y_MD_isBlock : Cond) ∈ G := gmk 808 (by decide +kernel) (by decide +kernel)
theorem gm771 : (.static y_MD_isBlock : Cond) ∈ G := gmk 809 (by decide +kernel) (by decide +kernel)
theorem gm772 : (.code y_MD_isBlock prog_8_method_3_code 1 (some FieldType.boolean) : Cond) ∈ G := gmk 810 (by decide +kernel) (by decide +kernel)
theorem gm773 : (.methodLink "BlockLayerModel" 134 y_MD_bufferOf : Cond) ∈ G := gmk 811 (by decide +kernel) (by decide +kernel)
theorem gm775 : (.instanceMethod y_MD_bufferOf : Cond) ∈ G := gmk 813 (by decide +kernel) (by decide +kernel)
theorem gm776 : (.code y_MD_bufferOf prog_8_method_4_code 4 (some FieldType.int) : Cond) ∈ G := gmk 814 (by decide +kernel) (by decide +kernel)
theorem gm777 : (.methodLink "BlockLayerModel" 58 y_MD_closeUp : Cond) ∈ G := gmk 815 (by decide +kernel) (by decide +kernel)
theorem gm779 : (.instanceMethod y_MD_closeUp : Cond) ∈ G := gmk 817 (by decide +kernel) (by decide +kernel)
theorem gm780 : (.code y_MD_closeUp prog_8_method_5_code 3 none : Cond) ∈ G := gmk 818 (by decide +kernel) (by decide +kernel)
theorem gm781 : (.methodLink "BlockLayerModel" 140 y_MD_putLast : Cond) ∈ G := gmk 819 (by decide +kernel) (by decide +kernel)
theorem gm783 : (.instanceMethod y_MD_putLast : Cond) ∈ G := gmk 821 (by decide +kernel) (by decide +kernel)
theorem gm784 : (.code y_MD_putLast prog_8_method_6_code 4 none : Cond) ∈ G := gmk 822 (by decide +kernel) (by decide +kernel)
theorem gm785 : (.methodLink "BlockLayerModel" 147 y_MD_makeRoom : Cond) ∈ G := gmk 823 (by decide +kernel) (by decide +kernel)
theorem gm787 : (.instanceMethod y_MD_makeRoom : Cond) ∈ G := gmk 825 (by decide +kernel) (by decide +kernel)
theorem gm788 : (.code y_MD_makeRoom prog_8_method_7_code 4 none : Cond) ∈ G := gmk 826 (by decide +kernel) (by decide +kernel)
theorem gm789 : (.methodLink "BlockLayerModel" 65 y_MD_ask : Cond) ∈ G := gmk 827 (by decide +kernel) (by decide +kernel)
theorem gm791 : (.instanceMethod y_MD_ask : Cond) ∈ G := gmk 829 (by decide +kernel) (by decide +kernel)
theorem gm792 : (.code y_MD_ask prog_8_method_8_code 6 none : Cond) ∈ G := gmk 830 (by decide +kernel) (by decide +kernel)
theorem gm793 : (.methodLink "BlockLayerModel" 150 y_MD_beginOne : Cond) ∈ G := gmk 831 (by decide +kernel) (by decide +kernel)
theorem gm795 : (.instanceMethod y_MD_beginOne : Cond) ∈ G := gmk 833 (by decide +kernel) (by decide +kernel)
theorem gm796 : (.code y_MD_beginOne prog_8_method_16_code 3 none : Cond) ∈ G := gmk 834 (by decide +kernel) (by decide +kernel)
theorem gm797 : (.methodLink "BlockLayerModel" 103 y_MD_chosen : Cond) ∈ G := gmk 835 (by decide +kernel) (by decide +kernel)
theorem gm799 : (.instanceMethod y_MD_chosen : Cond) ∈ G := gmk 837 (by decide +kernel) (by decide +kernel)
theorem gm800 : (.code y_MD_chosen prog_8_method_14_code 2 (some FieldType.int) : Cond) ∈ G := gmk 838 (by decide +kernel) (by decide +kernel)
theorem gm801 : (.methodLink "BlockLayerModel" 96 y_MD_nearest : Cond) ∈ G := gmk 839 (by decide +kernel) (by decide +kernel)
theorem gm803 : (.instanceMethod y_MD_nearest : Cond) ∈ G := gmk 841 (by decide +kernel) (by decide +kernel)
theorem gm804 : (.code y_MD_nearest prog_8_method_12_code 5 (some FieldType.int) : Cond) ∈ G := gmk 842 (by decide +kernel) (by decide +kernel)
theorem gm805 : (.methodLink "BlockLayerModel" 88 y_MD_isReady : Cond) ∈ G := gmk 843 (by decide +kernel) (by decide +kernel)
theorem gm807 : (.instanceMethod y_MD_isReady : Cond) ∈ G := gmk 845 (by decide +kernel) (by decide +kernel)
theorem gm808 : (.code y_MD_isReady prog_8_method_9_code 4 (some FieldType.boolean) : Cond) ∈ G := gmk 846 (by decide +kernel) (by decide +kernel)
theorem gm809 : (.methodLink "BlockLayerModel" 92 y_MD_distance : Cond) ∈ G := gmk 847 (by decide +kernel) (by decide +kernel)
theorem gm811 : (.instanceMethod y_MD_distance : Cond) ∈ G := gmk 849 (by decide +kernel) (by decide +kernel)
theorem gm812 : (.code y_MD_distance prog_8_method_11_code 4 (some FieldType.int) : Cond) ∈ G := gmk 850 (by decide +kernel) (by decide +kernel)
theorem gm813 : (.methodLink "BlockLayerModel" 81 y_MD_track : Cond) ∈ G := gmk 851 (by decide +kernel) (by decide +kernel)
theorem gm815 : (.instanceMethod y_MD_track : Cond) ∈ G := gmk 853 (by decide +kernel) (by decide +kernel)
theorem gm816 : (.code y_MD_track prog_8_method_10_code 2 (some FieldType.int) : Cond) ∈ G := gmk 854 (by decide +kernel) (by decide +kernel)
theorem gm817 : (.methodLink "BlockLayerModel" 99 y_MD_lowest : Cond) ∈ G := gmk 855 (by decide +kernel) (by decide +kernel)
theorem gm819 : (.instanceMethod y_MD_lowest : Cond) ∈ G := gmk 857 (by decide +kernel) (by decide +kernel)
theorem gm820 : (.code y_MD_lowest prog_8_method_13_code 3 (some FieldType.int) : Cond) ∈ G := gmk 858 (by decide +kernel) (by decide +kernel)
theorem gm821 : (.methodLink "BlockLayerModel" 106 y_MD_copyRequest : Cond) ∈ G := gmk 859 (by decide +kernel) (by decide +kernel)
theorem gm823 : (.instanceMethod y_MD_copyRequest : Cond) ∈ G := gmk 861 (by decide +kernel) (by decide +kernel)
theorem gm824 : (.code y_MD_copyRequest prog_8_method_15_code 3 none : Cond) ∈ G := gmk 862 (by decide +kernel) (by decide +kernel)
theorem gm825 : (.methodLink "BlockLayerModel" 153 y_MD_endOne : Cond) ∈ G := gmk 863 (by decide +kernel) (by decide +kernel)
theorem gm827 : (.instanceMethod y_MD_endOne : Cond) ∈ G := gmk 865 (by decide +kernel) (by decide +kernel)
theorem gm828 : (.code y_MD_endOne prog_8_method_19_code 2 none : Cond) ∈ G := gmk 866 (by decide +kernel) (by decide +kernel)
theorem gm829 : (.methodLink "BlockLayerModel" 122 y_MD_valueAt : Cond) ∈ G := gmk 867 (by decide +kernel) (by decide +kernel)
theorem gm831 : (.instanceMethod y_MD_valueAt : Cond) ∈ G := gmk 869 (by decide +kernel) (by decide +kernel)
theorem gm832 : (.code y_MD_valueAt prog_8_method_17_code 4 (some FieldType.int) : Cond) ∈ G := gmk 870 (by decide +kernel) (by decide +kernel)
theorem gm833 : (.methodLink "BlockLayerModel" 128 y_MD_cache : Cond) ∈ G := gmk 871 (by decide +kernel) (by decide +kernel)
theorem gm835 : (.instanceMethod y_MD_cache : Cond) ∈ G := gmk 873 (by decide +kernel) (by decide +kernel)
theorem gm836 : (.code y_MD_cache prog_8_method_18_code 5 none : Cond) ∈ G := gmk 874 (by decide +kernel) (by decide +kernel)
theorem gm837 : (.methodLink "BlockLayerLaw" 58 y_MD_save : Cond) ∈ G := gmk 875 (by decide +kernel) (by decide +kernel)
theorem gm838 : (.instanceMethod y_MD_save : Cond) ∈ G := gmk 876 (by decide +kernel) (by decide +kernel)
theorem gm839 : (.selects "BlockLayerModel" y_MD_save y_MD_save : Cond) ∈ G := gmk 877 (by decide +kernel) (by decide +kernel)
theorem gm840 : (.code y_MD_save prog_8_method_21_code 5 (some FieldType.int) : Cond) ∈ G := gmk 878 (by decide +kernel) (by decide +kernel)
theorem gm841 : (.methodLink "BlockLayerLaw" 62 y_MD_sync : Cond) ∈ G := gmk 879 (by decide +kernel) (by decide +kernel)
theorem gm842 : (.instanceMethod y_MD_sync : Cond) ∈ G := gmk 880 (by decide +kernel) (by decide +kernel)
theorem gm843 : (.selects "BlockLayerModel" y_MD_sync y_MD_sync : Cond) ∈ G := gmk 881 (by decide +kernel) (by decide +kernel)
theorem gm844 : (.code y_MD_sync prog_8_method_22_code 4 (some FieldType.int) : Cond) ∈ G := gmk 882 (by decide +kernel) (by decide +kernel)
theorem gm845 : (.methodLink "BlockLayerLaw" 65 y_MD_step : Cond) ∈ G := gmk 883 (by decide +kernel) (by decide +kernel)
theorem gm846 : (.instanceMethod y_MD_step : Cond) ∈ G := gmk 884 (by decide +kernel) (by decide +kernel)
theorem gm847 : (.selects "BlockLayerModel" y_MD_step y_MD_step : Cond) ∈ G := gmk 885 (by decide +kernel) (by decide +kernel)
theorem gm848 : (.code y_MD_step prog_8_method_23_code 3 (some FieldType.int) : Cond) ∈ G := gmk 886 (by decide +kernel) (by decide +kernel)
theorem gm849 : (.methodLink "BlockLayerLaw" 69 y_MD_drain : Cond) ∈ G := gmk 887 (by decide +kernel) (by decide +kernel)
theorem gm850 : (.instanceMethod y_MD_drain : Cond) ∈ G := gmk 888 (by decide +kernel) (by decide +kernel)
theorem gm851 : (.selects "BlockLayerModel" y_MD_drain y_MD_drain : Cond) ∈ G := gmk 889 (by decide +kernel) (by decide +kernel)
theorem gm852 : (.code y_MD_drain prog_8_method_24_code 2 (some FieldType.int) : Cond) ∈ G := gmk 890 (by decide +kernel) (by decide +kernel)
theorem gm853 : (.methodLink "BlockLayerLaw" 72 y_MD_policy : Cond) ∈ G := gmk 891 (by decide +kernel) (by decide +kernel)
theorem gm854 : (.instanceMethod y_MD_policy : Cond) ∈ G := gmk 892 (by decide +kernel) (by decide +kernel)
theorem gm855 : (.selects "BlockLayerModel" y_MD_policy y_MD_policy : Cond) ∈ G := gmk 893 (by decide +kernel) (by decide +kernel)
theorem gm856 : (.code y_MD_policy prog_8_method_25_code 3 (some FieldType.int) : Cond) ∈ G := gmk 894 (by decide +kernel) (by decide +kernel)
theorem gm857 : (.methodLink "BlockLayerLaw" 76 y_MD_crash : Cond) ∈ G := gmk 895 (by decide +kernel) (by decide +kernel)
theorem gm858 : (.instanceMethod y_MD_crash : Cond) ∈ G := gmk 896 (by decide +kernel) (by decide +kernel)
theorem gm859 : (.selects "BlockLayerModel" y_MD_crash y_MD_crash : Cond) ∈ G := gmk 897 (by decide +kernel) (by decide +kernel)
theorem gm860 : (.code y_MD_crash prog_8_method_27_code 3 (some FieldType.int) : Cond) ∈ G := gmk 898 (by decide +kernel) (by decide +kernel)
theorem gm861 : (.methodLink "BlockLayerModel" 159 y_MD_newestOf : Cond) ∈ G := gmk 899 (by decide +kernel) (by decide +kernel)
theorem gm863 : (.instanceMethod y_MD_newestOf : Cond) ∈ G := gmk 901 (by decide +kernel) (by decide +kernel)
theorem gm864 : (.code y_MD_newestOf prog_8_method_26_code 4 (some FieldType.int) : Cond) ∈ G := gmk 902 (by decide +kernel) (by decide +kernel)
theorem gm865 : (.methodLink "BlockLayerLaw" 79 y_MD_newest : Cond) ∈ G := gmk 903 (by decide +kernel) (by decide +kernel)
theorem gm866 : (.instanceMethod y_MD_newest : Cond) ∈ G := gmk 904 (by decide +kernel) (by decide +kernel)
theorem gm867 : (.selects "BlockLayerModel" y_MD_newest y_MD_newest : Cond) ∈ G := gmk 905 (by decide +kernel) (by decide +kernel)
theorem gm868 : (.code y_MD_newest prog_8_method_28_code 2 (some FieldType.int) : Cond) ∈ G := gmk 906 (by decide +kernel) (by decide +kernel)
theorem gm869 : (.methodLink "BlockLayerLaw" 82 y_MD_media : Cond) ∈ G := gmk 907 (by decide +kernel) (by decide +kernel)
theorem gm870 : (.instanceMethod y_MD_media : Cond) ∈ G := gmk 908 (by decide +kernel) (by decide +kernel)
theorem gm871 : (.selects "BlockLayerModel" y_MD_media y_MD_media : Cond) ∈ G := gmk 909 (by decide +kernel) (by decide +kernel)
theorem gm872 : (.code y_MD_media prog_8_method_29_code 2 (some FieldType.int) : Cond) ∈ G := gmk 910 (by decide +kernel) (by decide +kernel)
theorem gm873 : (.methodLink "BlockLayerLaw" 85 y_MD_buffer : Cond) ∈ G := gmk 911 (by decide +kernel) (by decide +kernel)
theorem gm874 : (.instanceMethod y_MD_buffer : Cond) ∈ G := gmk 912 (by decide +kernel) (by decide +kernel)
theorem gm875 : (.selects "BlockLayerModel" y_MD_buffer y_MD_buffer : Cond) ∈ G := gmk 913 (by decide +kernel) (by decide +kernel)
theorem gm876 : (.code y_MD_buffer prog_8_method_30_code 3 (some FieldType.int) : Cond) ∈ G := gmk 914 (by decide +kernel) (by decide +kernel)
theorem gm877 : (.methodLink "BlockLayerLaw" 89 y_MD_used : Cond) ∈ G := gmk 915 (by decide +kernel) (by decide +kernel)
theorem gm878 : (.instanceMethod y_MD_used : Cond) ∈ G := gmk 916 (by decide +kernel) (by decide +kernel)
theorem gm879 : (.selects "BlockLayerModel" y_MD_used y_MD_used : Cond) ∈ G := gmk 917 (by decide +kernel) (by decide +kernel)
theorem gm880 : (.code y_MD_used prog_8_method_31_code 2 (some FieldType.int) : Cond) ∈ G := gmk 918 (by decide +kernel) (by decide +kernel)
theorem gm881 : (.methodLink "BlockLayerLaw" 93 y_MD_queued : Cond) ∈ G := gmk 919 (by decide +kernel) (by decide +kernel)
theorem gm882 : (.instanceMethod y_MD_queued : Cond) ∈ G := gmk 920 (by decide +kernel) (by decide +kernel)
theorem gm883 : (.selects "BlockLayerModel" y_MD_queued y_MD_queued : Cond) ∈ G := gmk 921 (by decide +kernel) (by decide +kernel)
theorem gm884 : (.code y_MD_queued prog_8_method_32_code 2 (some FieldType.int) : Cond) ∈ G := gmk 922 (by decide +kernel) (by decide +kernel)
theorem gm885 : (.methodLink "BlockLayerLaw" 97 y_MD_request : Cond) ∈ G := gmk 923 (by decide +kernel) (by decide +kernel)
theorem gm886 : (.instanceMethod y_MD_request : Cond) ∈ G := gmk 924 (by decide +kernel) (by decide +kernel)
theorem gm887 : (.selects "BlockLayerModel" y_MD_request y_MD_request : Cond) ∈ G := gmk 925 (by decide +kernel) (by decide +kernel)
theorem gm888 : (.code y_MD_request prog_8_method_33_code 5 (some FieldType.int) : Cond) ∈ G := gmk 926 (by decide +kernel) (by decide +kernel)
theorem gm889 : (.methodLink "BlockLayerLaw" 101 y_MD_told : Cond) ∈ G := gmk 927 (by decide +kernel) (by decide +kernel)
theorem gm890 : (.instanceMethod y_MD_told : Cond) ∈ G := gmk 928 (by decide +kernel) (by decide +kernel)
theorem gm891 : (.selects "BlockLayerModel" y_MD_told y_MD_told : Cond) ∈ G := gmk 929 (by decide +kernel) (by decide +kernel)
theorem gm892 : (.code y_MD_told prog_8_method_34_code 2 (some FieldType.int) : Cond) ∈ G := gmk 930 (by decide +kernel) (by decide +kernel)
theorem gm893 : (.arrayClass FieldType.long : Cond) ∈ G := gmk 931 (by decide +kernel) (by decide +kernel)
theorem gm894 : (.sameMethod "java/lang/Throwable" "java/lang/Throwable" "fillInStackTrace" "(I)Ljava/lang/Throwable;" : Cond) ∈ G := gmk 932 (by decide +kernel) (by decide +kernel)
theorem gm897 : (.sameMethod "[Ljava/lang/Object;" "java/lang/Object" "getClass" "()Ljava/lang/Class;" : Cond) ∈ G := gmk 935 (by decide +kernel) (by decide +kernel)
theorem gm898 : (.selects "[Ljava/lang/Object;" ⟨"java/lang/Object", "getClass", "()Ljava/lang/Class;"⟩ ⟨"java/lang/Object", "getClass", "()Ljava/lang/Class;"⟩ : Cond) ∈ G := gmk 936 (by decide +kernel) (by decide +kernel)
theorem gs_DK_beginIfIdle : (.selects y_DK_beginIfIdle.cls y_DK_beginIfIdle y_DK_beginIfIdle : Cond) ∈ G := gmk 0 (by decide +kernel) (by decide +kernel)
theorem gs_DK_chosenPlace : (.selects y_DK_chosenPlace.cls y_DK_chosenPlace y_DK_chosenPlace : Cond) ∈ G := gmk 1 (by decide +kernel) (by decide +kernel)
theorem gs_DK_isOldUnderPolicy : (.selects y_DK_isOldUnderPolicy.cls y_DK_isOldUnderPolicy y_DK_isOldUnderPolicy : Cond) ∈ G := gmk 2 (by decide +kernel) (by decide +kernel)
theorem gs_DK_sideOfPolicy : (.selects y_DK_sideOfPolicy.cls y_DK_sideOfPolicy y_DK_sideOfPolicy : Cond) ∈ G := gmk 3 (by decide +kernel) (by decide +kernel)
theorem gs_DK_nearestPlace : (.selects y_DK_nearestPlace.cls y_DK_nearestPlace y_DK_nearestPlace : Cond) ∈ G := gmk 4 (by decide +kernel) (by decide +kernel)
theorem gs_DK_tracksAway : (.selects y_DK_tracksAway.cls y_DK_tracksAway y_DK_tracksAway : Cond) ∈ G := gmk 5 (by decide +kernel) (by decide +kernel)
theorem gs_AL_fastRemove : (.selects y_AL_fastRemove.cls y_AL_fastRemove y_AL_fastRemove : Cond) ∈ G := gmk 6 (by decide +kernel) (by decide +kernel)
theorem gs_DK_passUntilEnd : (.selects y_DK_passUntilEnd.cls y_DK_passUntilEnd y_DK_passUntilEnd : Cond) ∈ G := gmk 7 (by decide +kernel) (by decide +kernel)
theorem gs_DK_end : (.selects y_DK_end.cls y_DK_end y_DK_end : Cond) ∈ G := gmk 8 (by decide +kernel) (by decide +kernel)
theorem gs_DK_valueInside : (.selects y_DK_valueInside.cls y_DK_valueInside y_DK_valueInside : Cond) ∈ G := gmk 9 (by decide +kernel) (by decide +kernel)
theorem gs_AL_add1 : (.selects y_AL_add1.cls y_AL_add1 y_AL_add1 : Cond) ∈ G := gmk 10 (by decide +kernel) (by decide +kernel)
theorem gs_AL_grow0 : (.selects y_AL_grow0.cls y_AL_grow0 y_AL_grow0 : Cond) ∈ G := gmk 11 (by decide +kernel) (by decide +kernel)
theorem gs_AL_grow1 : (.selects y_AL_grow1.cls y_AL_grow1 y_AL_grow1 : Cond) ∈ G := gmk 12 (by decide +kernel) (by decide +kernel)
theorem gs_DK_moveToMedia : (.selects y_DK_moveToMedia.cls y_DK_moveToMedia y_DK_moveToMedia : Cond) ∈ G := gmk 13 (by decide +kernel) (by decide +kernel)
theorem gs_BL_newestOf : (.selects y_BL_newestOf.cls y_BL_newestOf y_BL_newestOf : Cond) ∈ G := gmk 14 (by decide +kernel) (by decide +kernel)
theorem gs_BL_liveRequest : (.selects y_BL_liveRequest.cls y_BL_liveRequest y_BL_liveRequest : Cond) ∈ G := gmk 15 (by decide +kernel) (by decide +kernel)
theorem gs_BL_requireQueueRoom : (.selects y_BL_requireQueueRoom.cls y_BL_requireQueueRoom y_BL_requireQueueRoom : Cond) ∈ G := gmk 17 (by decide +kernel) (by decide +kernel)
theorem gs_BL_makeBufferRoom : (.selects y_BL_makeBufferRoom.cls y_BL_makeBufferRoom y_BL_makeBufferRoom : Cond) ∈ G := gmk 18 (by decide +kernel) (by decide +kernel)
theorem gs_BL_writeBack : (.selects y_BL_writeBack.cls y_BL_writeBack y_BL_writeBack : Cond) ∈ G := gmk 19 (by decide +kernel) (by decide +kernel)
theorem gs_BL_makeRequest : (.selects y_BL_makeRequest.cls y_BL_makeRequest y_BL_makeRequest : Cond) ∈ G := gmk 20 (by decide +kernel) (by decide +kernel)
theorem gs_MD_bufferOf : (.selects y_MD_bufferOf.cls y_MD_bufferOf y_MD_bufferOf : Cond) ∈ G := gmk 21 (by decide +kernel) (by decide +kernel)
theorem gs_MD_closeUp : (.selects y_MD_closeUp.cls y_MD_closeUp y_MD_closeUp : Cond) ∈ G := gmk 22 (by decide +kernel) (by decide +kernel)
theorem gs_MD_putLast : (.selects y_MD_putLast.cls y_MD_putLast y_MD_putLast : Cond) ∈ G := gmk 23 (by decide +kernel) (by decide +kernel)
theorem gs_MD_makeRoom : (.selects y_MD_makeRoom.cls y_MD_makeRoom y_MD_makeRoom : Cond) ∈ G := gmk 24 (by decide +kernel) (by decide +kernel)
theorem gs_MD_ask : (.selects y_MD_ask.cls y_MD_ask y_MD_ask : Cond) ∈ G := gmk 25 (by decide +kernel) (by decide +kernel)
theorem gs_MD_beginOne : (.selects y_MD_beginOne.cls y_MD_beginOne y_MD_beginOne : Cond) ∈ G := gmk 26 (by decide +kernel) (by decide +kernel)
theorem gs_MD_chosen : (.selects y_MD_chosen.cls y_MD_chosen y_MD_chosen : Cond) ∈ G := gmk 27 (by decide +kernel) (by decide +kernel)
theorem gs_MD_nearest : (.selects y_MD_nearest.cls y_MD_nearest y_MD_nearest : Cond) ∈ G := gmk 28 (by decide +kernel) (by decide +kernel)
theorem gs_MD_isReady : (.selects y_MD_isReady.cls y_MD_isReady y_MD_isReady : Cond) ∈ G := gmk 29 (by decide +kernel) (by decide +kernel)
theorem gs_MD_distance : (.selects y_MD_distance.cls y_MD_distance y_MD_distance : Cond) ∈ G := gmk 30 (by decide +kernel) (by decide +kernel)
theorem gs_MD_track : (.selects y_MD_track.cls y_MD_track y_MD_track : Cond) ∈ G := gmk 31 (by decide +kernel) (by decide +kernel)
theorem gs_MD_lowest : (.selects y_MD_lowest.cls y_MD_lowest y_MD_lowest : Cond) ∈ G := gmk 32 (by decide +kernel) (by decide +kernel)
theorem gs_MD_copyRequest : (.selects y_MD_copyRequest.cls y_MD_copyRequest y_MD_copyRequest : Cond) ∈ G := gmk 33 (by decide +kernel) (by decide +kernel)
theorem gs_MD_endOne : (.selects y_MD_endOne.cls y_MD_endOne y_MD_endOne : Cond) ∈ G := gmk 34 (by decide +kernel) (by decide +kernel)
theorem gs_MD_valueAt : (.selects y_MD_valueAt.cls y_MD_valueAt y_MD_valueAt : Cond) ∈ G := gmk 35 (by decide +kernel) (by decide +kernel)
theorem gs_MD_cache : (.selects y_MD_cache.cls y_MD_cache y_MD_cache : Cond) ∈ G := gmk 36 (by decide +kernel) (by decide +kernel)
theorem gs_MD_newestOf : (.selects y_MD_newestOf.cls y_MD_newestOf y_MD_newestOf : Cond) ∈ G := gmk 37 (by decide +kernel) (by decide +kernel)
end
section
/-! THE WORLD AS A FUNCTION: what cell lies at an address. It is held by a list of cells as the kit has them; every row here is a row of the kit, read through that list. -/
abbrev fh_H : Type := Nat → Option va_E
def fh_V (w : va_W) (h : fh_H) : Prop := ∀ (a : Nat) (e : va_E), h a = some e ↔ ∃ k : Nat, w[k]? = some (a, e)
def fh_P (D : va_G) (cl : List vw_C) (A : Nat → Prop) (h : fh_H) (H : Heap) : Prop := ∃ w : va_W, va_P D cl w H ∧ va_D A w ∧ fh_V w h
/-- what a method may change: the cells of its world, and those that it makes -/
def fh_A (h : fh_H) (sz : Nat) : Nat → Prop := fun q => (∃ e, h q = some e) ∨ sz ≤ q
theorem fh_V.set {A : Nat → Prop} {w : va_W} {h : fh_H} {a k : Nat} {e e' : va_E} (hD : va_D A w) (hV : fh_V w h) (hk : w[k]? = some (a, e)) : fh_V (w.set k (a, e')) (va_up h a (some e')) := by
  have hl := (List.getElem?_eq_some_iff.mp hk).1
  intro b x
  constructor
  · intro hb
    by_cases c : b = a
    · subst c
      rw [va_up_self] at hb
      cases hb
      exact ⟨k, List.getElem?_set_self hl⟩
    · rw [va_up_ne _ _ c] at hb
      obtain ⟨j, hj⟩ := (hV b x).mp hb
      have hjk : j ≠ k := by
        intro z
        rw [z, hk] at hj
        exact c (congrArg Prod.fst (Option.some.inj hj)).symm
      exact ⟨j, by rw [List.getElem?_set_ne (Ne.symm hjk)]; exact hj⟩
  · intro ⟨j, hj⟩
    by_cases c : j = k
    · rw [c, List.getElem?_set_self hl] at hj
      cases hj
      exact va_up_self _ _ _
    · rw [List.getElem?_set_ne (Ne.symm c)] at hj
      have hba : b ≠ a := fun z => c (hD.1 j k (b, x) (a, e) hj hk z)
      rw [va_up_ne _ _ hba]
      exact (hV b x).mpr ⟨j, hj⟩
theorem fh_V.push {A : Nat → Prop} {w : va_W} {h : fh_H} {q : Nat} {e : va_E} (hD : va_D A (w ++ [(q, e)])) (hV : fh_V w h) : fh_V (w ++ [(q, e)]) (va_up h q (some e)) ∧ h q = none := by
  have hlast : (w ++ [(q, e)])[w.length]? = some (q, e) := by simp
  have hold : ∀ (j : Nat) (x : Nat × va_E), w[j]? = some x → (w ++ [(q, e)])[j]? = some x := fun j x hj => by
    rw [List.getElem?_append_left (List.getElem?_eq_some_iff.mp hj).1]; exact hj
  have hnew : ∀ (j : Nat) (x : va_E), w[j]? = some (q, x) → False := fun j x hj => by
    have hl := (List.getElem?_eq_some_iff.mp hj).1
    have := hD.1 j w.length _ _ (hold j _ hj) hlast rfl
    omega
  refine ⟨fun b x => ⟨fun hb => ?_, fun ⟨j, hj⟩ => ?_⟩, ?_⟩
  · by_cases c : b = q
    · subst c
      rw [va_up_self] at hb
      cases hb
      exact ⟨_, hlast⟩
    · rw [va_up_ne _ _ c] at hb
      obtain ⟨j, hj⟩ := (hV b x).mp hb
      exact ⟨j, hold j _ hj⟩
  · by_cases c : j < w.length
    · rw [List.getElem?_append_left c] at hj
      have hbq : b ≠ q := fun z => hnew j x (by rw [← z]; exact hj)
      rw [va_up_ne _ _ hbq]
      exact (hV b x).mpr ⟨j, hj⟩
    · rw [List.getElem?_append_right (by omega)] at hj
      have hz : j - w.length < 1 := (List.getElem?_eq_some_iff.mp hj).1
      have hj0 : j - w.length = 0 := by omega
      rw [hj0] at hj
      cases hj
      exact va_up_self _ _ _
  · cases hq : h q with
    | none => rfl
    | some x =>
      obtain ⟨j, hj⟩ := (hV q x).mp hq
      exact (hnew j x hj).elim
section FHP
variable {D : va_G} {cl : List vw_C} {A B : Nat → Prop} {h : fh_H} {H H1 : Heap} {a : Nat} {e : va_E}
theorem fh_P.get (hP : fh_P D cl A h H) (ha : h a = some e) : va_at D cl (a, e) H ∧ A a := by
  obtain ⟨w, h1, h2, h3⟩ := hP
  obtain ⟨k, hk⟩ := (h3 a e).mp ha
  exact ⟨h1 k _ hk, h2.2 k _ hk⟩
theorem fh_P.lt (hP : fh_P D cl A h H) (ha : h a = some e) : a < H.size := (hP.get ha).1.lt
theorem fh_P.weaken (hP : fh_P D cl A h H) (hAB : ∀ q, (∃ e, h q = some e) → A q → B q) : fh_P D cl B h H := by
  obtain ⟨w, h1, h2, h3⟩ := hP
  exact ⟨w, h1, h2.weaken (fun k q hk hq => hAB q.1 ⟨q.2, (h3 q.1 q.2).mpr ⟨k, hk⟩⟩ hq), h3⟩
theorem fh_P.kept (hP : fh_P D cl A h H) (hq : ∀ q : Nat, (∃ e, h q = some e) → H1[q]? = H[q]?) : fh_P D cl A h H1 := by
  obtain ⟨w, h1, h2, h3⟩ := hP
  exact ⟨w, h1.kept (fun k q hk => hq q.1 ⟨q.2, (h3 q.1 q.2).mpr ⟨k, hk⟩⟩), h2, h3⟩
theorem fh_P.self (sz : Nat) (hP : fh_P D cl A h H) : fh_P D cl (fh_A h sz) h H := hP.weaken (fun _ hq _ => Or.inl hq)
theorem fh_ne {i j : Nat} {fs gs : List Value} {b : Nat} (ha : h a = some (.inr (i, fs))) (hb : h b = some (.inr (j, gs))) (hij : i ≠ j) : a ≠ b := by
  intro z
  rw [z, hb] at ha
  cases ha
  exact hij rfl
theorem fh_neA {j : Nat} {x : ClassId × vp_A} {gs : List Value} {b : Nat} (ha : h a = some (.inl x)) (hb : h b = some (.inr (j, gs))) : a ≠ b := by
  intro z
  rw [z, hb] at ha
  cases ha
theorem fh_neF {b : Nat} {x : va_E} (ha : h a = some x) (hb : h b = none) : a ≠ b := by
  intro z
  rw [z, hb] at ha
  cases ha
theorem fh_up {b : Nat} {x : Option va_E} {y : va_E} (hb : h b = some y) (hne : b ≠ a) : va_up h a x b = some y := by
  rw [va_up_ne _ _ hne]; exact hb
end FHP
section FHR
variable {p : Program} {l : Launch} {e : Env} {R : Room} {s : State} {m : MethodId} {args : Array Value} {below : List Frame} {meth : Method} {c : Code} {H : Heap} {locs : List Loc} {cells slots : Nat} {Q : State → Prop}
variable {cc : ByteArray} {pc : Nat} {ls : Array Slot} {rest : List Value} {D : va_G} {cl : List vw_C} {A : Nat → Prop} {a : Nat} {tys : List (ClassId × FieldType)} {h : fh_H} {H0 : Heap}
/-- a class as the tables have it: its place, its fields' table -/
def fh_C (cl : List vw_C) (ci : Nat) (C : String) (T : u_T) (N : Nat) (ty : Nat → FieldType) : Prop := cl[ci]? = some (C, T, N) ∧ (∀ k, k < N → parseFieldDescriptor (T k).2.2.1 = some (ty k)) ∧ (∀ a, a < N → ∀ b, b < N → a ≠ b → (T a).2.1 ≠ (T b).2.1)
theorem fh_get (hexec : p.tables.exec = Jvm.exec) (hb : c.code = cc) {own C : String} {T : u_T} {N ci index : Nat} {ty : Nat → FieldType} {Ts : List Cond} (hts : ∀ w ∈ Ts, w.before args s = true) (hC : fh_C cl ci C T N ty) (hin : ∀ w ∈ u_ws C T N, w ∈ Ts) (hown : s.vm.findClass own = some m.cls) (hK : va_K D cl tys s) (hP : fh_P D cl A h H) {fs : List Value} (he : h a = some (.inr (ci, fs))) (k : Nat) (hk : k < N) (hlink : Cond.fieldLink own index (T k).1 (T k).2.1 (T k).2.2.1 ∈ Ts) {v : Value} (hv : fs[k]? = some v) (hdg : decode cc pc = .ok (.getfield index, 3))
    (kk : W p l e R s m args below meth c H locs cells slots Q (F0 m (pc + 3) ls (v :: rest))) : W p l e R s m args below meth c H locs cells slots Q (F0 m pc ls (.ref a :: rest)) := by
  obtain ⟨w, h1, h2, h3⟩ := hP
  obtain ⟨q0, hq⟩ := (h3 a _).mp he
  exact va_get hexec hb hts hin hown hK h1 q0 hq hC.1 k hk (hts _ hlink) (fun _ z => z) hv hdg kk
theorem fh_getN (hexec : p.tables.exec = Jvm.exec) (hb : c.code = cc) {own C host : String} {T : u_T} {N ci index : Nat} {ty : Nat → FieldType} {Ts : List Cond} (hts : ∀ w ∈ Ts, w.before args s = true) (hC : fh_C cl ci C T N ty) (hin : ∀ w ∈ u_ws C T N, w ∈ Ts) (hown : s.vm.findClass own = some m.cls) (hK : va_K D cl tys s) (hP : fh_P D cl A h H) {fs : List Value} (he : h a = some (.inr (ci, fs))) (k : Nat) (hk : k < N) (hlink : (Cond.fieldLinkNest own index (T k).1 (T k).2.1 (T k).2.2.1 host).before args s = true) {v : Value} (hv : fs[k]? = some v) (hdg : decode cc pc = .ok (.getfield index, 3))
    (kk : W p l e R s m args below meth c H locs cells slots Q (F0 m (pc + 3) ls (v :: rest))) : W p l e R s m args below meth c H locs cells slots Q (F0 m pc ls (.ref a :: rest)) := by
  obtain ⟨w, h1, h2, h3⟩ := hP
  obtain ⟨q0, hq⟩ := (h3 a _).mp he
  exact va_getN hexec hb hts hin hown hK h1 q0 hq hC.1 k hk hlink (fun _ z => z) hv hdg kk
theorem fh_put (hexec : p.tables.exec = Jvm.exec) (hb : c.code = cc) {own C : String} {T : u_T} {N ci index : Nat} {ty : Nat → FieldType} {Ts : List Cond} (hts : ∀ w ∈ Ts, w.before args s = true) (hC : fh_C cl ci C T N ty) (hin : ∀ w ∈ u_ws C T N, w ∈ Ts) (hown : s.vm.findClass own = some m.cls) (hK : va_K D cl tys s) (hP : fh_P D cl A h H) (hS : va_S A H0 H locs) {fs : List Value} (he : h a = some (.inr (ci, fs))) (k : Nat) (hk : k < N) (hlink : Cond.fieldLink own index (T k).1 (T k).2.1 (T k).2.2.1 ∈ Ts) (hfin : (T k).2.2.2 = false) {v : Value} (hn : narrow (ty k) v = v) (hfit : fits (ty k) v = true) (hl : k < fs.length) (hdg : decode cc pc = .ok (.putfield index, 3))
    (kk : ∀ (H1 : Heap) (locs1 : List Loc), fh_P D cl A (va_up h a (some (.inr (ci, fs.set k v)))) H1 → va_S A H0 H1 locs1 → W p l e R s m args below meth c H1 locs1 cells slots Q (F0 m (pc + 3) ls rest)) : W p l e R s m args below meth c H locs cells slots Q (F0 m pc ls (v :: .ref a :: rest)) := by
  obtain ⟨w, h1, h2, h3⟩ := hP
  obtain ⟨q0, hq⟩ := (h3 a _).mp he
  exact va_put hexec hb hts hin ty hC.2.1 hC.2.2 hown hK h1 h2 hS q0 hq hC.1 k hk (hts _ hlink) (fun _ z => z) hfin (hC.2.1 k hk) hn hfit hl hdg (fun H1 locs1 g1 g2 g3 => kk H1 locs1 ⟨_, g1, g2, h3.set h2 hq⟩ g3)
theorem fh_putN (hexec : p.tables.exec = Jvm.exec) (hb : c.code = cc) {own C host : String} {T : u_T} {N ci index : Nat} {ty : Nat → FieldType} {Ts : List Cond} (hts : ∀ w ∈ Ts, w.before args s = true) (hC : fh_C cl ci C T N ty) (hin : ∀ w ∈ u_ws C T N, w ∈ Ts) (hown : s.vm.findClass own = some m.cls) (hK : va_K D cl tys s) (hP : fh_P D cl A h H) (hS : va_S A H0 H locs) {fs : List Value} (he : h a = some (.inr (ci, fs))) (k : Nat) (hk : k < N) (hlink : (Cond.fieldLinkNest own index (T k).1 (T k).2.1 (T k).2.2.1 host).before args s = true) (hfin : (T k).2.2.2 = false) {v : Value} (hn : narrow (ty k) v = v) (hfit : fits (ty k) v = true) (hl : k < fs.length) (hdg : decode cc pc = .ok (.putfield index, 3))
    (kk : ∀ (H1 : Heap) (locs1 : List Loc), fh_P D cl A (va_up h a (some (.inr (ci, fs.set k v)))) H1 → va_S A H0 H1 locs1 → W p l e R s m args below meth c H1 locs1 cells slots Q (F0 m (pc + 3) ls rest)) : W p l e R s m args below meth c H locs cells slots Q (F0 m pc ls (v :: .ref a :: rest)) := by
  obtain ⟨w, h1, h2, h3⟩ := hP
  obtain ⟨q0, hq⟩ := (h3 a _).mp he
  exact va_putN hexec hb hts hin ty hC.2.1 hC.2.2 hown hK h1 h2 hS q0 hq hC.1 k hk hlink (fun _ z => z) hfin (hC.2.1 k hk) hn hfit hl hdg (fun H1 locs1 g1 g2 g3 => kk H1 locs1 ⟨_, g1, g2, h3.set h2 hq⟩ g3)
theorem fh_putF (hexec : p.tables.exec = Jvm.exec) (hb : c.code = cc) {own C : String} {T : u_T} {N ci index : Nat} {ty : Nat → FieldType} {Ts : List Cond} (hts : ∀ w ∈ Ts, w.before args s = true) (hC : fh_C cl ci C T N ty) (hin : ∀ w ∈ u_ws C T N, w ∈ Ts) (hown : s.vm.findClass own = some m.cls) (hK : va_K D cl tys s) (hP : fh_P D cl A h H) (hS : va_S A H0 H locs) {fs : List Value} (he : h a = some (.inr (ci, fs))) (k : Nat) (hk : k < N) (hlink : Cond.fieldLink own index (T k).1 (T k).2.1 (T k).2.2.1 ∈ Ts) (hfin : (T k).2.2.2 = true) (hin2 : meth.name = "<init>") (hdecl : (T k).1 = own) {v : Value} (hn : narrow (ty k) v = v) (hfit : fits (ty k) v = true) (hl : k < fs.length) (hdg : decode cc pc = .ok (.putfield index, 3))
    (kk : ∀ (H1 : Heap) (locs1 : List Loc), fh_P D cl A (va_up h a (some (.inr (ci, fs.set k v)))) H1 → va_S A H0 H1 locs1 → W p l e R s m args below meth c H1 locs1 cells slots Q (F0 m (pc + 3) ls rest)) : W p l e R s m args below meth c H locs cells slots Q (F0 m pc ls (v :: .ref a :: rest)) := by
  obtain ⟨w, h1, h2, h3⟩ := hP
  obtain ⟨q0, hq⟩ := (h3 a _).mp he
  exact va_putF hexec hb hts hin ty hC.2.1 hC.2.2 hown hK h1 h2 hS q0 hq hC.1 k hk (hts _ hlink) (fun _ z => z) hfin hin2 hdecl (hC.2.1 k hk) hn hfit hl hdg (fun H1 locs1 g1 g2 g3 => kk H1 locs1 ⟨_, g1, g2, h3.set h2 hq⟩ g3)
theorem fh_new (hexec : p.tables.exec = Jvm.exec) (hb : c.code = cc) {own C : String} {T : u_T} {N ci index : Nat} {ty : Nat → FieldType} {Ts : List Cond} (hts : ∀ w ∈ Ts, w.before args s = true) (hC : fh_C cl ci C T N ty) (hin : ∀ w ∈ u_ws C T N, w ∈ Ts) (hown : s.vm.findClass own = some m.cls) (hcl : Cond.classLink own index C ∈ Ts) (hinst : Cond.instantiable C N ∈ Ts) (hini : Cond.initialized C ∈ Ts)
    (hK : va_K D cl tys s) (hP : fh_P D cl A h H) (hS : va_S A H0 H locs) (hA : ∀ q, H0.size ≤ q → A q) {fs : List Value} (hfs : ∀ j, j < N → defaultValue (ty j) = vp_V fs j) (hcells : cells + 1 ≤ R.cells) (hslots : slots + N ≤ R.slots) (hdg : decode cc pc = .ok (.new index, 3))
    (kk : ∀ (q : Nat) (H1 : Heap), h q = none → fh_P D cl A (va_up h q (some (.inr (ci, fs)))) H1 → va_S A H0 H1 locs → W p l e R s m args below meth c H1 locs (cells + 1) (slots + N) Q (F0 m (pc + 3) ls (.ref q :: rest))) : W p l e R s m args below meth c H locs cells slots Q (F0 m pc ls rest) := by
  obtain ⟨w, h1, h2, h3⟩ := hP
  exact va_new hexec hb hts hin ty hC.2.1 hown (hts _ hcl) (hts _ hinst) (hts _ hini) hK h1 h2 hS hA hC.1 hfs hcells hslots hdg (fun q H1 g1 g2 g3 => kk q H1 (h3.push g2).2 ⟨_, g1, g2, (h3.push g2).1⟩ g3)
theorem fh_recv (hK : va_K D cl tys s) (hP : fh_P D cl A h H) {ci : Nat} {q : vw_C} (hc : cl[ci]? = some q) {fs : List Value} (he : h a = some (.inr (ci, fs))) : ∃ cell : Cell, H[a]? = some cell ∧ cell.vm.isStatics = false ∧ s.vm.findClass q.1 = some cell.cls := by
  obtain ⟨w, h1, h2, h3⟩ := hP
  obtain ⟨q0, hq⟩ := (h3 a _).mp he
  exact va_recv hK h1 hc hq
theorem fh_iald (hexec : p.tables.exec = Jvm.exec) (hb : c.code = cc) (hK : va_K D cl tys s) (hP : fh_P D cl A h H) (t0 : Nat) {cA : ClassId} {n : Nat} {f : Nat → Int32} (ha : h a = some (.inl (cA, n, .inl f))) (ht : tys[t0]? = some (cA, .int)) {i : Int32} (hin : vp_in i n) (hdg : decode cc pc = .ok (.iaload, 1))
    (kk : W p l e R s m args below meth c H locs cells slots Q (F0 m (pc + 1) ls (.int (f i.toNatClampNeg) :: rest))) : W p l e R s m args below meth c H locs cells slots Q (F0 m pc ls (.int i :: .ref a :: rest)) := by
  obtain ⟨w, h1, h2, h3⟩ := hP
  obtain ⟨q0, hq⟩ := (h3 a _).mp ha
  exact va_iald hexec hb hK h1 q0 t0 hq ht hin hdg kk
theorem fh_iast (hexec : p.tables.exec = Jvm.exec) (hb : c.code = cc) (hK : va_K D cl tys s) (hP : fh_P D cl A h H) (hS : va_S A H0 H locs) (t0 : Nat) {cA : ClassId} {n : Nat} {f : Nat → Int32} (ha : h a = some (.inl (cA, n, .inl f))) (ht : tys[t0]? = some (cA, .int)) {i x : Int32} (hin : vp_in i n) (hdg : decode cc pc = .ok (.iastore, 1))
    (kk : ∀ (H1 : Heap) (locs1 : List Loc), fh_P D cl A (va_up h a (some (.inl (cA, n, .inl (upd f i.toNatClampNeg x))))) H1 → va_S A H0 H1 locs1 → W p l e R s m args below meth c H1 locs1 cells slots Q (F0 m (pc + 1) ls rest)) : W p l e R s m args below meth c H locs cells slots Q (F0 m pc ls (.int x :: .int i :: .ref a :: rest)) := by
  obtain ⟨w, h1, h2, h3⟩ := hP
  obtain ⟨q0, hq⟩ := (h3 a _).mp ha
  exact va_iast hexec hb hK h1 h2 hS q0 t0 hq ht hin hdg (fun H1 locs1 g1 g2 g3 => kk H1 locs1 ⟨_, g1, g2, h3.set h2 hq⟩ g3)
theorem fh_lald (hexec : p.tables.exec = Jvm.exec) (hb : c.code = cc) (hK : va_K D cl tys s) (hP : fh_P D cl A h H) (t0 : Nat) {cA : ClassId} {n : Nat} {f : Nat → Int64} (ha : h a = some (.inl (cA, n, .inr (.inl f)))) (ht : tys[t0]? = some (cA, .long)) {i : Int32} (hin : vp_in i n) (hdg : decode cc pc = .ok (.laload, 1))
    (kk : W p l e R s m args below meth c H locs cells slots Q (F0 m (pc + 1) ls (.long (f i.toNatClampNeg) :: rest))) : W p l e R s m args below meth c H locs cells slots Q (F0 m pc ls (.int i :: .ref a :: rest)) := by
  obtain ⟨w, h1, h2, h3⟩ := hP
  obtain ⟨q0, hq⟩ := (h3 a _).mp ha
  exact va_lald hexec hb hK h1 q0 t0 hq ht hin hdg kk
theorem fh_last (hexec : p.tables.exec = Jvm.exec) (hb : c.code = cc) (hK : va_K D cl tys s) (hP : fh_P D cl A h H) (hS : va_S A H0 H locs) (t0 : Nat) {cA : ClassId} {n : Nat} {f : Nat → Int64} (ha : h a = some (.inl (cA, n, .inr (.inl f)))) (ht : tys[t0]? = some (cA, .long)) {i : Int32} {x : Int64} (hin : vp_in i n) (hdg : decode cc pc = .ok (.lastore, 1))
    (kk : ∀ (H1 : Heap) (locs1 : List Loc), fh_P D cl A (va_up h a (some (.inl (cA, n, .inr (.inl (vp_updL f i.toNatClampNeg x)))))) H1 → va_S A H0 H1 locs1 → W p l e R s m args below meth c H1 locs1 cells slots Q (F0 m (pc + 1) ls rest)) : W p l e R s m args below meth c H locs cells slots Q (F0 m pc ls (.long x :: .int i :: .ref a :: rest)) := by
  obtain ⟨w, h1, h2, h3⟩ := hP
  obtain ⟨q0, hq⟩ := (h3 a _).mp ha
  exact va_last hexec hb hK h1 h2 hS q0 t0 hq ht hin hdg (fun H1 locs1 g1 g2 g3 => kk H1 locs1 ⟨_, g1, g2, h3.set h2 hq⟩ g3)
theorem fh_alen (hexec : p.tables.exec = Jvm.exec) (hb : c.code = cc) (hK : va_K D cl tys s) (hP : fh_P D cl A h H) (t0 : Nat) {cA : ClassId} {x : vp_A} (ha : h a = some (.inl (cA, x))) {ty : FieldType} (ht : tys[t0]? = some (cA, ty)) {v : Int32} (hv : Int32.ofNat x.1 = v) (hdg : decode cc pc = .ok (.arraylength, 1))
    (kk : W p l e R s m args below meth c H locs cells slots Q (F0 m (pc + 1) ls (.int v :: rest))) : W p l e R s m args below meth c H locs cells slots Q (F0 m pc ls (.ref a :: rest)) := by
  obtain ⟨w, h1, h2, h3⟩ := hP
  obtain ⟨q0, hq⟩ := (h3 a _).mp ha
  exact va_alen hexec hb hK h1 q0 t0 hq ht hv hdg kk
theorem fh_aldq (hexec : p.tables.exec = Jvm.exec) (hb : c.code = cc) (hK : va_K D cl tys s) (hP : fh_P D cl A h H) (t0 : Nat) {cA : ClassId} {C : String} {n : Nat} {f : Nat → Option Nat} (ha : h a = some (.inl (cA, n, .inr (.inr (.inr (.inr f)))))) (ht : tys[t0]? = some (cA, .object C)) {i : Int32} (hin : vp_in i n) (hdg : decode cc pc = .ok (.aaload, 1))
    (kk : W p l e R s m args below meth c H locs cells slots Q (F0 m (pc + 1) ls (va_rf (f i.toNatClampNeg) :: rest))) : W p l e R s m args below meth c H locs cells slots Q (F0 m pc ls (.int i :: .ref a :: rest)) := by
  obtain ⟨w, h1, h2, h3⟩ := hP
  obtain ⟨q0, hq⟩ := (h3 a _).mp ha
  exact va_aldq hexec hb hK h1 q0 t0 hq ht hin hdg kk
theorem fh_astqO (hexec : p.tables.exec = Jvm.exec) (hb : c.code = cc) (hK : va_K D cl tys s) (hP : fh_P D cl A h H) (hS : va_S A H0 H locs) (t0 ci : Nat) {E : String} {cA : ClassId} {r : vw_C} {n v : Nat} {vs : List Value} {f : Nat → Option Nat} (ha : h a = some (.inl (cA, n, .inr (.inr (.inr (.inr f)))))) (ht : tys[t0]? = some (cA, .object E)) (hca : va_Nw (.castable r.1 E) s) (hv : h v = some (.inr (ci, vs))) (hc : cl[ci]? = some r) {i : Int32} (hin : vp_in i n) (hdg : decode cc pc = .ok (.aastore, 1))
    (kk : ∀ (H1 : Heap) (locs1 : List Loc), fh_P D cl A (va_up h a (some (.inl (cA, n, .inr (.inr (.inr (.inr (va_up f i.toNatClampNeg (some v))))))))) H1 → va_S A H0 H1 locs1 → W p l e R s m args below meth c H1 locs1 cells slots Q (F0 m (pc + 1) ls rest)) : W p l e R s m args below meth c H locs cells slots Q (F0 m pc ls (.ref v :: .int i :: .ref a :: rest)) := by
  obtain ⟨w, h1, h2, h3⟩ := hP
  obtain ⟨q0, hq⟩ := (h3 a _).mp ha
  obtain ⟨qk, hqk⟩ := (h3 v _).mp hv
  exact va_astqO hexec hb hK h1 h2 hS q0 t0 qk ci hq ht hca hqk hc hin hdg (fun H1 locs1 g1 g2 g3 => kk H1 locs1 ⟨_, g1, g2, h3.set h2 hq⟩ g3)
theorem fh_astqN (hexec : p.tables.exec = Jvm.exec) (hb : c.code = cc) (hK : va_K D cl tys s) (hP : fh_P D cl A h H) (hS : va_S A H0 H locs) (t0 : Nat) {cA : ClassId} {C : String} {n : Nat} {f : Nat → Option Nat} (ha : h a = some (.inl (cA, n, .inr (.inr (.inr (.inr f)))))) (ht : tys[t0]? = some (cA, .object C)) {i : Int32} (hin : vp_in i n) (hdg : decode cc pc = .ok (.aastore, 1))
    (kk : ∀ (H1 : Heap) (locs1 : List Loc), fh_P D cl A (va_up h a (some (.inl (cA, n, .inr (.inr (.inr (.inr (va_up f i.toNatClampNeg none)))))))) H1 → va_S A H0 H1 locs1 → W p l e R s m args below meth c H1 locs1 cells slots Q (F0 m (pc + 1) ls rest)) : W p l e R s m args below meth c H locs cells slots Q (F0 m pc ls (.null :: .int i :: .ref a :: rest)) := by
  obtain ⟨w, h1, h2, h3⟩ := hP
  obtain ⟨q0, hq⟩ := (h3 a _).mp ha
  exact va_astqN hexec hb hK h1 h2 hS q0 t0 hq ht hin hdg (fun H1 locs1 g1 g2 g3 => kk H1 locs1 ⟨_, g1, g2, h3.set h2 hq⟩ g3)
end FHR
end
section
/-! WHAT STANDS OUTSIDE THE WORLD AND STAYS: the JDK's empty array and its static, the class object of Object[], words that the list G can't hold. -/
abbrev fh_E : Type := va_G × (ClassId × ClassId × ClassId × ClassId) × (Nat × Nat)
abbrev fh_cI (E : fh_E) : ClassId := E.2.1.1
abbrev fh_cJ (E : fh_E) : ClassId := E.2.1.2.1
abbrev fh_cO (E : fh_E) : ClassId := E.2.1.2.2.1
abbrev fh_cZ (E : fh_E) : ClassId := E.2.1.2.2.2
abbrev fh_ed (E : fh_E) : Nat := E.2.2.1
abbrev fh_mi (E : fh_E) : Nat := E.2.2.2
abbrev fh_ty (E : fh_E) : List (ClassId × FieldType) := [(fh_cI E, .int), (fh_cJ E, .long), (fh_cO E, .object "java/lang/Object"), (fh_cZ E, .boolean)]
abbrev fh_es : String := "[Ljava/lang/Object;"
def fhNest : List Cond := [.methodLinkNest "BlockLayer" 9 y_CS_init "BlockLayer", .methodLinkNest "BlockLayer" 18 y_DK_init "BlockLayer", .methodLinkNest "BlockLayer$Disk" 11 y_QU_init "BlockLayer", .methodLinkNest "BlockLayer$Disk" 24 y_CS_init "BlockLayer", .methodLinkNest "BlockLayer$Disk" 106 y_BL_trackOf "BlockLayer"]
def fhCast : List Cond := [.castable "BlockLayer$Request" "BlockLayer$Request", .castable "BlockLayer$Copy" "BlockLayer$Copy", .castable "BlockLayer$Request" "java/lang/Object", .castable "BlockLayer$Copy" "java/lang/Object"]
def fh_Z (E : fh_E) (A : Nat → Prop) (U : State) (H : Heap) : Prop :=
  va_Z "java/util/ArrayList" "DEFAULTCAPACITY_EMPTY_ELEMENTDATA" fh_es (.ref (fh_ed E)) A U H ∧ va_T (.object "java/lang/Object") (fh_ed E) 0 (fun _ => .null) A U H ∧ va_Mi fh_es (fh_mi E) U ∧ va_AO "java/lang/Object" U ∧ va_Dc U ∧ (∀ w ∈ fhNest, va_Nw w U) ∧ (∀ w ∈ fhCast, va_Nw w U)
theorem fh_Z.warm {E : fh_E} {A : Nat → Prop} {u U : State} {H : Heap} (hW : u.WarmedH U.vm) (h : fh_Z E A u H) : fh_Z E A U H := by
  obtain ⟨h1, h2, h3, h4, h5, h6, h7⟩ := h
  refine ⟨h1.moved hW.alike, h2.moved hW.alike, h3.moved hW.alike, h4.moved hW.alike, h5.moved hW.alike, fun w hw => ?_, fun w hw => ?_⟩
  · have := h6 w hw
    simp only [fhNest, List.mem_cons, List.not_mem_nil, or_false] at hw
    rcases hw with rfl | rfl | rfl | rfl | rfl <;> exact va_Nw.warmM hW this
  · have := h7 w hw
    simp only [fhCast, List.mem_cons, List.not_mem_nil, or_false] at hw
    rcases hw with rfl | rfl | rfl | rfl <;> exact va_Nw.warmC hW this
theorem fh_Z.kept {E : fh_E} {A : Nat → Prop} {U : State} {H H1 : Heap} (h : fh_Z E A U H) (hq : ∀ a : Nat, a < H.size → ¬ A a → H1[a]? = H[a]?) : fh_Z E A U H1 := by
  obtain ⟨h1, h2, h3, h4, h5, h6, h7⟩ := h
  exact ⟨h1.kept hq, h2.kept hq, h3, h4, h5, h6, h7⟩
theorem fh_Z.narrow {E : fh_E} {A B : Nat → Prop} {U : State} {H : Heap} (h : fh_Z E A U H) (hAB : ∀ q, B q → A q) : fh_Z E B U H := by
  obtain ⟨h1, h2, h3, h4, h5, h6, h7⟩ := h
  exact ⟨h1.narrow hAB, h2.narrow hAB, h3, h4, h5, h6, h7⟩
end
section
/-! CONTRACTS OVER THE WORLD. fh_Z is what stands outside the world and never changes (statics, mirrors, texts): it stands in a part of its own, ahead of this one, with fh_Z.warm, fh_Z.kept, fh_Z.narrow. -/
def fh_Pre (E : fh_E) (h : fh_H) (sz : Nat) (av : List Value) : Array Value → State → Prop := va_Pc av (fun U => U.heap.size = sz ∧ fh_P E.1 vwCl (fun _ => True) h U.heap ∧ va_K E.1 vwCl (fh_ty E) U ∧ fh_Z E (fh_A h sz) U U.heap)
def fh_Post (E : fh_E) (post : Option Value → fh_H → Prop) (A : Nat → Prop) : Array Value → State → Outcome → State → Prop := fun _ st oc t => (∃ (r : Option Value) (h1 : fh_H), oc = .returned r ∧ post r h1 ∧ fh_P E.1 vwCl A h1 t.heap) ∧ va_F A st t
def fh_Met (l : Launch) (y : MethodName) (ws : List Cond) (rm : Room) (E : fh_E) (av : List Value) (h : fh_H) (post : Option Value → fh_H → Prop) (mc ms : Nat) : Prop :=
  ∀ sz : Nat, Met l y ws rm (fh_Pre E h sz av) (fh_Post E post (fh_A h sz)) mc ms (fh_A h sz)
theorem fh_Met.mono {l : Launch} {y : MethodName} {ws : List Cond} {rm : Room} {E : fh_E} {av : List Value} {h : fh_H} {post post' : Option Value → fh_H → Prop} {mc ms : Nat} (hM : fh_Met l y ws rm E av h post mc ms) (hp : ∀ r h1, post r h1 → post' r h1) : fh_Met l y ws rm E av h post' mc ms := by
  intro sz p e ha hc hk s m args below hf happ hP hK
  obtain ⟨n, o, h1, h2, h3, ⟨⟨r, g, q1, q2, q3⟩, h5⟩, h6⟩ := hM sz p e ha hc hk s m args below hf happ hP hK
  exact ⟨n, o, h1, h2, h3, ⟨⟨r, g, q1, hp r g q2, q3⟩, h5⟩, h6⟩
theorem fh_blind {E : fh_E} {h : fh_H} {sz : Nat} {av : List Value} : FrameBlind (fh_Pre E h sz av) := by
  intro a U g mk q
  obtain ⟨q0, q1, q2, q3, q4⟩ := q
  exact ⟨q0, q1, q2, va_K.moved (u := U) (U := U.calling g mk a) (Vm.Alike.refl U.vm) q3, fh_Z.warm (u := U) (U := U.calling g mk a) (State.WarmedH.refl U) q4⟩
/-- a method's walk, from its entry -/
theorem fh_ofW {l : Launch} {y : MethodName} {ws ws' : List Cond} {rm : Room} {E : fh_E} {av : List Value} {h : fh_H} {post : Option Value → fh_H → Prop} {mc ms : Nat} {cc : ByteArray} {maxL : Nat} {ret : Option FieldType}
    (hy : plainName y.cls = true) (hw : ws = Cond.code y cc maxL ret :: ws') (hlen : (lg_sl av).length ≤ maxL)
    (body : ∀ (p : Program) (e : Env) (s : State) (m : MethodId) (below : List Frame) (meth : Method) (c : Code) (A : Nat → Prop) (ls : Array Slot), p.tables.exec = Jvm.exec → c.code = cc → meth.sig.returnType = ret → c.maxLocals = maxL → s.vm.findClass y.cls = some m.cls → (∀ w ∈ ws, w.before av.toArray s = true) → meth.locks = false → meth.name = y.name → c.exceptionTable.isEmpty = true → l.admits e →
      (∀ q : Nat, s.heap.size ≤ q → A q) → va_K E.1 vwCl (fh_ty E) s → fh_Z E A s s.heap → fh_P E.1 vwCl A h s.heap → va_S A s.heap s.heap [] → lv_has ls maxL (lv_args 0 av) →
      W p l e rm s m av.toArray below meth c s.heap [] 0 0 (MQ below (fh_Post E post A) av.toArray s mc ms A) (F0 m 0 ls [])) : fh_Met l y ws rm E av h post mc ms := by
  intro sz
  refine Met.ofW (cc := cc) (maxL := maxL) (ret := ret) hy hw ?_
  intro p e s m args below meth c s₁ B hml hv
  obtain ⟨rfl, hsz, hP, hK, hZ⟩ := hv
  subst hsz
  have hts := atoms_spec (ws := ws) B.pre
  have hl := lv_entry av (n := maxL) hlen
  rw [lg_entry_eq]
  generalize (lg_sl av ++ List.replicate (maxL - (lg_sl av).length) Slot.unset).toArray = ls at hl ⊢
  have hcode : (Cond.code y cc maxL ret).before av.toArray s = true := hts _ (by rw [hw]; exact List.mem_cons_self)
  exact body p e s m below meth c (fh_A h s.heap.size) ls B.exec B.bytes B.returns hml (findClass_of_methodNamed B.named) hts B.notSynchronized (name_of_methodNamed B.named B.method).1 (BodyLoose.noHandlers B hcode) B.admits (fun q hq => Or.inr hq) hK hZ (hP.self _) va_S.rf hl
section FHC
variable {p : Program} {l : Launch} {e : Env} {R : Room} {s : State} {m : MethodId} {args : Array Value} {below : List Frame} {meth : Method} {c : Code} {H : Heap} {locs : List Loc} {cells slots : Nat} {Q : State → Prop}
variable {cc : ByteArray} {pc : Nat} {ls : Array Slot} {rest : List Value} {E : fh_E} {A : Nat → Prop} {h : fh_H} {post : Option Value → fh_H → Prop} {mc ms : Nat}
theorem fh_sub (hP : fh_P E.1 vwCl A h H) (hS : va_S A s.heap H locs) (hA : ∀ q : Nat, s.heap.size ≤ q → A q) : ∀ q, fh_A h H.size q → A q := by
  intro q hq
  rcases hq with ⟨x, hx⟩ | hq
  · exact (hP.get hx).2
  · exact hA q (Nat.le_trans hS.1 hq)
theorem fh_preS {av : List Value} (hK : va_K E.1 vwCl (fh_ty E) s) (hZ : fh_Z E A s s.heap) (hP : fh_P E.1 vwCl A h H) (hS : va_S A s.heap H locs) (hA : ∀ q : Nat, s.heap.size ≤ q → A q) : PreS s H (fh_Pre E h H.size av) av := by
  refine ⟨fh_blind, fun U hU hW => ⟨rfl, by rw [hU], ?_, va_K.moved hW.alike hK, ?_⟩⟩
  · rw [hU]; exact hP.weaken (fun _ _ _ => trivial)
  · rw [hU]; exact fh_Z.warm hW ((hZ.kept (fun a h1 h2 => hS.2.1 a h1 h2)).narrow (fh_sub hP hS hA))
/-- behind a call -/
theorem fh_call {st0 : List Value} {a : Array Value} (hr : va_Run p l e R s m args below meth c H locs cells slots mc ms (F0 m pc ls st0) rest (fh_Post E post (fh_A h H.size) a) (fh_A h H.size)) (hP : fh_P E.1 vwCl A h H) (hS : va_S A s.heap H locs) (hA : ∀ q : Nat, s.heap.size ≤ q → A q)
    (kk : ∀ (r : Option Value) (h1 : fh_H) (H1 : Heap) (locs1 : List Loc), post r h1 → fh_P E.1 vwCl A h1 H1 → va_S A s.heap H1 locs1 → W p l e R s m args below meth c H1 locs1 (cells + mc) (slots + ms) Q (F0 m (pc + 3) ls (r.toList ++ rest))) : W p l e R s m args below meth c H locs cells slots Q (F0 m pc ls st0) := by
  have hsub := fh_sub hP hS hA
  intro T hT X
  obtain ⟨v, st₀, t, T', L, h0, X', hL, e1, e2, ⟨⟨r, h1, hv, hp, hP1⟩, hz, hk⟩, st⟩ := hr T hT X
  cases hv
  rw [h0] at hz hk
  obtain ⟨t2, a1, b1⟩ := kk v h1 T'.heap (locs ++ L) hp (by rw [e1]; exact hP1.weaken (fun q _ hq => hsub q hq))
    ⟨Nat.le_trans hS.1 (by rw [e1]; exact hz), fun q h1 h2 => by rw [e1, hk q (Nat.lt_of_lt_of_le h1 hS.1) (fun z => h2 (hsub q z))]; exact hS.2.1 q h1 h2, fun q hq => by
      rcases List.mem_append.mp hq with h | h
      · exact hS.2.2 q h
      · exact hsub _ (hL q h)⟩ T' rfl X'
  exact ⟨t2, st t2 a1, b1⟩
theorem fh_iret {v : Int32} (hexec : p.tables.exec = Jvm.exec) (hb : c.code = cc) (hr : meth.sig.returnType = some .int) (hlocks : meth.locks = false) (hc : cells ≤ mc) (hs : slots ≤ ms) (hP : fh_P E.1 vwCl A h H) (hS : va_S A s.heap H locs) (hpost : post (some (.int v)) h) (hdg : decode cc pc = .ok (.ireturn, 1)) : W p l e R s m args below meth c H locs cells slots (MQ below (fh_Post E post A) args s mc ms A) (F0 m pc ls [.int v]) :=
  W.widen hc hs (W.iret hexec hb hr (fun t ht _ => ⟨⟨_, h, rfl, hpost, by rw [ht]; exact hP⟩, hS.F ht⟩) hS.2.2 hdg hlocks)
theorem fh_zret {v : Int32} {ty : FieldType} (hexec : p.tables.exec = Jvm.exec) (hb : c.code = cc) (hr : meth.sig.returnType = some ty) (hn : narrow ty (.int v) = .int v) (hlocks : meth.locks = false) (hc : cells ≤ mc) (hs : slots ≤ ms) (hP : fh_P E.1 vwCl A h H) (hS : va_S A s.heap H locs) (hpost : post (some (.int v)) h) (hdg : decode cc pc = .ok (.ireturn, 1)) : W p l e R s m args below meth c H locs cells slots (MQ below (fh_Post E post A) args s mc ms A) (F0 m pc ls [.int v]) :=
  W.widen hc hs (W.zret hexec hb hr hn (fun t ht _ => ⟨⟨_, h, rfl, hpost, by rw [ht]; exact hP⟩, hS.F ht⟩) hS.2.2 hdg hlocks)
theorem fh_vret (hexec : p.tables.exec = Jvm.exec) (hb : c.code = cc) (hr : meth.sig.returnType = none) (hlocks : meth.locks = false) (hc : cells ≤ mc) (hs : slots ≤ ms) (hP : fh_P E.1 vwCl A h H) (hS : va_S A s.heap H locs) (hpost : post none h) (hdg : decode cc pc = .ok (.return_, 1)) : W p l e R s m args below meth c H locs cells slots (MQ below (fh_Post E post A) args s mc ms A) (F0 m pc ls []) :=
  W.widen hc hs (W.vret hexec hb hr (fun t ht _ => ⟨⟨_, h, rfl, hpost, by rw [ht]; exact hP⟩, hS.F ht⟩) hS.2.2 hdg hlocks)
theorem fh_aret {v : Value} {rt : FieldType} (hexec : p.tables.exec = Jvm.exec) (hb : c.code = cc) (hr : meth.sig.returnType = some rt) (hrt : (∃ n, rt = .object n) ∨ ∃ t, rt = .array t) (hv : v = .null ∨ ∃ a, v = .ref a) (hlocks : meth.locks = false) (hc : cells ≤ mc) (hs : slots ≤ ms) (hP : fh_P E.1 vwCl A h H) (hS : va_S A s.heap H locs) (hpost : post (some v) h) (hdg : decode cc pc = .ok (.areturn, 1)) : W p l e R s m args below meth c H locs cells slots (MQ below (fh_Post E post A) args s mc ms A) (F0 m pc ls [v]) :=
  W.widen hc hs (W.aret hexec hb hr hrt hv (fun t ht _ => ⟨⟨_, h, rfl, hpost, by rw [ht]; exact hP⟩, hS.F ht⟩) hS.2.2 hdg hlocks)
end FHC
section FHK
variable {p : Program} {l : Launch} {e : Env} {R : Room} {s : State} {m : MethodId} {args : Array Value} {below : List Frame} {meth : Method} {c : Code} {H : Heap} {locs : List Loc} {cells slots : Nat} {Q : State → Prop}
variable {pc : Nat} {ls : Array Slot} {rest As : List Value} {E : fh_E} {A : Nat → Prop} {h : fh_H} {post : Option Value → fh_H → Prop}
variable {y : MethodName} {bytes cc : ByteArray} {maxL nL mc ms n index : Nat} {ret : Option FieldType} {ws : List Cond} {rm : Room} {Ts : List Cond} {own C host : String} {b : Nat}
theorem fh_callS (S : CallFix p m c cc nL s args Ts own) (hM : fh_Met l y ws rm E As h post mc ms) (cw : CallB R s args own index y bytes maxL ret ws rm mc ms n ∧ (Cond.static y).before args s = true) (hK : va_K E.1 vwCl (fh_ty E) s) (hZ : fh_Z E A s s.heap) (hP : fh_P E.1 vwCl A h H) (hS : va_S A s.heap H locs) (hA : ∀ q : Nat, s.heap.size ≤ q → A q) (hn : As.length = n) (hsize : ls.size = nL) {st0 : List Value} (hst : st0 = As.reverse ++ rest) (hW : (rest.map fun v => v.category).sum ≤ 8) (hdg : decode cc pc = .ok (.invokestatic index, 3)) (hf : cells + mc ≤ R.cells ∧ slots + ms ≤ R.slots)
    (kk : ∀ (r : Option Value) (h1 : fh_H) (H1 : Heap) (locs1 : List Loc), post r h1 → fh_P E.1 vwCl A h1 H1 → va_S A s.heap H1 locs1 → W p l e R s m args below meth c H1 locs1 (cells + mc) (slots + ms) Q (F0 m (pc + 3) ls (r.toList ++ rest))) : W p l e R s m args below meth c H locs cells slots Q (F0 m pc ls st0) := by
  subst hst
  exact fh_call (va_runS S (hM H.size) cw (fh_preS hK hZ hP hS hA) rfl hn hsize rfl (lv_room hW) hdg hf) hP hS hA kk
theorem fh_callI (S : CallFix p m c cc nL s args Ts own) (hM : fh_Met l y ws rm E (.ref b :: As) h post mc ms) (cw : CallB R s args own index y bytes maxL none ws rm mc ms n ∧ y.name = "<init>" ∧ (Cond.instanceMethod y).before args s = true) (hK : va_K E.1 vwCl (fh_ty E) s) (hZ : fh_Z E A s s.heap) (hP : fh_P E.1 vwCl A h H) (hS : va_S A s.heap H locs) (hA : ∀ q : Nat, s.heap.size ≤ q → A q) (hn : As.length = n) (hsize : ls.size = nL) {st0 : List Value} (hst : st0 = As.reverse ++ .ref b :: rest) (hW : (rest.map fun v => v.category).sum ≤ 8) (hdg : decode cc pc = .ok (.invokespecial index, 3)) (hf : cells + mc ≤ R.cells ∧ slots + ms ≤ R.slots)
    (kk : ∀ (r : Option Value) (h1 : fh_H) (H1 : Heap) (locs1 : List Loc), post r h1 → fh_P E.1 vwCl A h1 H1 → va_S A s.heap H1 locs1 → W p l e R s m args below meth c H1 locs1 (cells + mc) (slots + ms) Q (F0 m (pc + 3) ls (r.toList ++ rest))) : W p l e R s m args below meth c H locs cells slots Q (F0 m pc ls st0) := by
  subst hst
  exact fh_call (va_runI S (hM H.size) cw (fh_preS hK hZ hP hS hA) rfl hn hsize rfl (lv_room hW) hdg hf) hP hS hA kk
theorem fh_callV (S : CallFix p m c cc nL s args Ts own) (hM : fh_Met l y ws rm E (.ref b :: As) h post mc ms) (cw : CallW R s args own C index y bytes maxL ret ws rm mc ms n) {ci : Nat} {T : u_T} {N : Nat} (hci : vwCl[ci]? = some (C, T, N)) {fs : List Value} (hob : h b = some (.inr (ci, fs))) (hK : va_K E.1 vwCl (fh_ty E) s) (hZ : fh_Z E A s s.heap) (hP : fh_P E.1 vwCl A h H) (hS : va_S A s.heap H locs) (hA : ∀ q : Nat, s.heap.size ≤ q → A q) (hn : As.length = n) (hsize : ls.size = nL) {st0 : List Value} (hst : st0 = As.reverse ++ .ref b :: rest) (hW : (rest.map fun v => v.category).sum ≤ 8) (hdg : decode cc pc = .ok (.invokevirtual index, 3)) (hf : cells + mc ≤ R.cells ∧ slots + ms ≤ R.slots)
    (kk : ∀ (r : Option Value) (h1 : fh_H) (H1 : Heap) (locs1 : List Loc), post r h1 → fh_P E.1 vwCl A h1 H1 → va_S A s.heap H1 locs1 → W p l e R s m args below meth c H1 locs1 (cells + mc) (slots + ms) Q (F0 m (pc + 3) ls (r.toList ++ rest))) : W p l e R s m args below meth c H locs cells slots Q (F0 m pc ls st0) := by
  subst hst
  have hp := fh_preS (av := .ref b :: As) hK hZ hP hS hA
  exact fh_call (va_runV S (hM H.size) cw ⟨hp.1, fh_recv hK hP hci hob, hp.2⟩ rfl hn hsize rfl (lv_room hW) hdg hf) hP hS hA kk
theorem fh_callVN (S : CallFix p m c cc nL s args Ts own) (hM : fh_Met l y ws rm E (.ref b :: As) h post mc ms) (cw : va_CN R s args own index y host bytes maxL ret ws rm mc ms n ∧ (Cond.instanceMethod y).before args s = true ∧ (Cond.selects C y y).before args s = true) {ci : Nat} {T : u_T} {N : Nat} (hci : vwCl[ci]? = some (C, T, N)) {fs : List Value} (hob : h b = some (.inr (ci, fs))) (hK : va_K E.1 vwCl (fh_ty E) s) (hZ : fh_Z E A s s.heap) (hP : fh_P E.1 vwCl A h H) (hS : va_S A s.heap H locs) (hA : ∀ q : Nat, s.heap.size ≤ q → A q) (hn : As.length = n) (hsize : ls.size = nL) {st0 : List Value} (hst : st0 = As.reverse ++ .ref b :: rest) (hW : (rest.map fun v => v.category).sum ≤ 8) (hdg : decode cc pc = .ok (.invokevirtual index, 3)) (hf : cells + mc ≤ R.cells ∧ slots + ms ≤ R.slots)
    (kk : ∀ (r : Option Value) (h1 : fh_H) (H1 : Heap) (locs1 : List Loc), post r h1 → fh_P E.1 vwCl A h1 H1 → va_S A s.heap H1 locs1 → W p l e R s m args below meth c H1 locs1 (cells + mc) (slots + ms) Q (F0 m (pc + 3) ls (r.toList ++ rest))) : W p l e R s m args below meth c H locs cells slots Q (F0 m pc ls st0) := by
  subst hst
  have hp := fh_preS (av := .ref b :: As) hK hZ hP hS hA
  exact fh_call (va_runVN S (hM H.size) cw ⟨hp.1, fh_recv hK hP hci hob, hp.2⟩ rfl hn hsize rfl (lv_room hW) hdg hf) hP hS hA kk
end FHK
end
section
/-! classes, callees' descriptors, words of a call, rows more -/
theorem C_AL : fh_C vwCl 0 R_AL T_AL 3 ty_AL := ⟨rfl, by decide +kernel, by decide +kernel⟩
theorem iG_AL : ∀ w ∈ u_ws R_AL T_AL 3, w ∈ G := (List.forall_mem_cons.mpr ⟨gm56, List.forall_mem_cons.mpr ⟨gm58, List.forall_mem_cons.mpr ⟨gm60, fun _ h => absurd h List.not_mem_nil⟩⟩⟩ : ∀ w ∈ ([.lays R_AL "java/util/ArrayList" "elementData" "[Ljava/lang/Object;", .lays R_AL "java/util/ArrayList" "size" "I", .lays R_AL "java/util/AbstractList" "modCount" "I"] : List Cond), w ∈ G)
theorem C_CP : fh_C vwCl 1 R_CP T_CP 3 ty_CP := ⟨rfl, by decide +kernel, by decide +kernel⟩
theorem iG_CP : ∀ w ∈ u_ws R_CP T_CP 3, w ∈ G := (List.forall_mem_cons.mpr ⟨gm281, List.forall_mem_cons.mpr ⟨gm283, List.forall_mem_cons.mpr ⟨gm285, fun _ h => absurd h List.not_mem_nil⟩⟩⟩ : ∀ w ∈ ([.laysFinal R_CP "BlockLayer$Copy" "block" "I", .lays R_CP "BlockLayer$Copy" "value" "I", .lays R_CP "BlockLayer$Copy" "dirty" "Z"] : List Cond), w ∈ G)
theorem C_CS : fh_C vwCl 2 R_CS T_CS 1 ty_CS := ⟨rfl, by decide +kernel, by decide +kernel⟩
theorem iG_CS : ∀ w ∈ u_ws R_CS T_CS 1, w ∈ G := (List.forall_mem_cons.mpr ⟨gm64, fun _ h => absurd h List.not_mem_nil⟩ : ∀ w ∈ ([.laysFinal R_CS "BlockLayer$Copies" "inOrder" "Ljava/util/ArrayList;"] : List Cond), w ∈ G)
theorem C_RQ : fh_C vwCl 3 R_RQ T_RQ 6 ty_RQ := ⟨rfl, by decide +kernel, by decide +kernel⟩
theorem iG_RQ : ∀ w ∈ u_ws R_RQ T_RQ 6, w ∈ G := (List.forall_mem_cons.mpr ⟨gm571, List.forall_mem_cons.mpr ⟨gm573, List.forall_mem_cons.mpr ⟨gm575, List.forall_mem_cons.mpr ⟨gm577, List.forall_mem_cons.mpr ⟨gm579, List.forall_mem_cons.mpr ⟨gm581, fun _ h => absurd h List.not_mem_nil⟩⟩⟩⟩⟩⟩ : ∀ w ∈ ([.laysFinal R_RQ "BlockLayer$Request" "number" "I", .laysFinal R_RQ "BlockLayer$Request" "kind" "I", .laysFinal R_RQ "BlockLayer$Request" "block" "I", .laysFinal R_RQ "BlockLayer$Request" "made" "I", .lays R_RQ "BlockLayer$Request" "value" "I", .lays R_RQ "BlockLayer$Request" "ended" "Z"] : List Cond), w ∈ G)
theorem C_QU : fh_C vwCl 4 R_QU T_QU 1 ty_QU := ⟨rfl, by decide +kernel, by decide +kernel⟩
theorem iG_QU : ∀ w ∈ u_ws R_QU T_QU 1, w ∈ G := (List.forall_mem_cons.mpr ⟨gm82, fun _ h => absurd h List.not_mem_nil⟩ : ∀ w ∈ ([.laysFinal R_QU "BlockLayer$Queue" "waiting" "Ljava/util/ArrayList;"] : List Cond), w ∈ G)
theorem C_DK : fh_C vwCl 5 R_DK T_DK 11 ty_DK := ⟨rfl, by decide +kernel, by decide +kernel⟩
theorem iG_DK : ∀ w ∈ u_ws R_DK T_DK 11, w ∈ G := (List.forall_mem_cons.mpr ⟨gm106, List.forall_mem_cons.mpr ⟨gm108, List.forall_mem_cons.mpr ⟨gm110, List.forall_mem_cons.mpr ⟨gm112, List.forall_mem_cons.mpr ⟨gm114, List.forall_mem_cons.mpr ⟨gm116, List.forall_mem_cons.mpr ⟨gm118, List.forall_mem_cons.mpr ⟨gm120, List.forall_mem_cons.mpr ⟨gm122, List.forall_mem_cons.mpr ⟨gm124, List.forall_mem_cons.mpr ⟨gm126, fun _ h => absurd h List.not_mem_nil⟩⟩⟩⟩⟩⟩⟩⟩⟩⟩⟩ : ∀ w ∈ ([.laysFinal R_DK "BlockLayer$Disk" "queue" "LBlockLayer$Queue;", .laysFinal R_DK "BlockLayer$Disk" "onMedia" "[I", .laysFinal R_DK "BlockLayer$Disk" "cache" "LBlockLayer$Copies;", .lays R_DK "BlockLayer$Disk" "serving" "LBlockLayer$Request;", .lays R_DK "BlockLayer$Disk" "unitsLeft" "I", .lays R_DK "BlockLayer$Disk" "time" "I", .lays R_DK "BlockLayer$Disk" "head" "I", .lays R_DK "BlockLayer$Disk" "goesUp" "Z", .lays R_DK "BlockLayer$Disk" "way" "I", .lays R_DK "BlockLayer$Disk" "served" "I", .lays R_DK "BlockLayer$Disk" "idleUnits" "I"] : List Cond), w ∈ G)
theorem C_BL : fh_C vwCl 6 R_BL T_BL 7 ty_BL := ⟨rfl, by decide +kernel, by decide +kernel⟩
theorem iG_BL : ∀ w ∈ u_ws R_BL T_BL 7, w ∈ G := (List.forall_mem_cons.mpr ⟨gm137, List.forall_mem_cons.mpr ⟨gm139, List.forall_mem_cons.mpr ⟨gm141, List.forall_mem_cons.mpr ⟨gm143, List.forall_mem_cons.mpr ⟨gm145, List.forall_mem_cons.mpr ⟨gm147, List.forall_mem_cons.mpr ⟨gm149, fun _ h => absurd h List.not_mem_nil⟩⟩⟩⟩⟩⟩⟩ : ∀ w ∈ ([.laysFinal R_BL "BlockLayer" "buffers" "LBlockLayer$Copies;", .laysFinal R_BL "BlockLayer" "disk" "LBlockLayer$Disk;", .lays R_BL "BlockLayer" "nextNumber" "I", .lays R_BL "BlockLayer" "hits" "I", .lays R_BL "BlockLayer" "misses" "I", .lays R_BL "BlockLayer" "evictions" "I", .lays R_BL "BlockLayer" "absorbed" "I"] : List Cond), w ∈ G)
theorem C_MD : fh_C vwCl 7 R_MD T_MD 29 ty_MD := ⟨rfl, by decide +kernel, by decide +kernel⟩
theorem iG_MD : ∀ w ∈ u_ws R_MD T_MD 29, w ∈ G := (List.forall_mem_cons.mpr ⟨gm702, List.forall_mem_cons.mpr ⟨gm704, List.forall_mem_cons.mpr ⟨gm706, List.forall_mem_cons.mpr ⟨gm708, List.forall_mem_cons.mpr ⟨gm710, List.forall_mem_cons.mpr ⟨gm712, List.forall_mem_cons.mpr ⟨gm714, List.forall_mem_cons.mpr ⟨gm716, List.forall_mem_cons.mpr ⟨gm718, List.forall_mem_cons.mpr ⟨gm720, List.forall_mem_cons.mpr ⟨gm722, List.forall_mem_cons.mpr ⟨gm724, List.forall_mem_cons.mpr ⟨gm726, List.forall_mem_cons.mpr ⟨gm728, List.forall_mem_cons.mpr ⟨gm730, List.forall_mem_cons.mpr ⟨gm732, List.forall_mem_cons.mpr ⟨gm734, List.forall_mem_cons.mpr ⟨gm736, List.forall_mem_cons.mpr ⟨gm738, List.forall_mem_cons.mpr ⟨gm740, List.forall_mem_cons.mpr ⟨gm742, List.forall_mem_cons.mpr ⟨gm744, List.forall_mem_cons.mpr ⟨gm746, List.forall_mem_cons.mpr ⟨gm748, List.forall_mem_cons.mpr ⟨gm750, List.forall_mem_cons.mpr ⟨gm752, List.forall_mem_cons.mpr ⟨gm754, List.forall_mem_cons.mpr ⟨gm756, List.forall_mem_cons.mpr ⟨gm758, fun _ h => absurd h List.not_mem_nil⟩⟩⟩⟩⟩⟩⟩⟩⟩⟩⟩⟩⟩⟩⟩⟩⟩⟩⟩⟩⟩⟩⟩⟩⟩⟩⟩⟩⟩ : ∀ w ∈ ([.lays R_MD "BlockLayerModel" "code" "I", .lays R_MD "BlockLayerModel" "now" "I", .lays R_MD "BlockLayerModel" "idle" "I", .lays R_MD "BlockLayerModel" "hits" "I", .lays R_MD "BlockLayerModel" "misses" "I", .lays R_MD "BlockLayerModel" "evictions" "I", .lays R_MD "BlockLayerModel" "absorbed" "I", .lays R_MD "BlockLayerModel" "served" "I", .lays R_MD "BlockLayerModel" "policy" "I", .laysFinal R_MD "BlockLayerModel" "media" "[I", .lays R_MD "BlockLayerModel" "buffers" "I", .laysFinal R_MD "BlockLayerModel" "bufferBlock" "[I", .laysFinal R_MD "BlockLayerModel" "bufferValue" "[I", .laysFinal R_MD "BlockLayerModel" "dirty" "[Z", .lays R_MD "BlockLayerModel" "numbers" "I", .lays R_MD "BlockLayerModel" "queue" "I", .laysFinal R_MD "BlockLayerModel" "number" "[I", .laysFinal R_MD "BlockLayerModel" "kind" "[I", .laysFinal R_MD "BlockLayerModel" "block" "[I", .laysFinal R_MD "BlockLayerModel" "value" "[I", .laysFinal R_MD "BlockLayerModel" "made" "[I", .lays R_MD "BlockLayerModel" "cached" "I", .laysFinal R_MD "BlockLayerModel" "cacheBlock" "[I", .laysFinal R_MD "BlockLayerModel" "cacheValue" "[I", .lays R_MD "BlockLayerModel" "head" "I", .lays R_MD "BlockLayerModel" "up" "Z", .lays R_MD "BlockLayerModel" "serves" "Z", .lays R_MD "BlockLayerModel" "until" "I", .lays R_MD "BlockLayerModel" "lastRead" "I"] : List Cond), w ∈ G)
theorem hdy_AB_init : y_AB_init.cls ≠ "java/lang/invoke/MethodHandle" ∧ y_AB_init.cls ≠ "java/lang/invoke/VarHandle" ∧ (parseMethodDescriptor y_AB_init.desc).map (fun d => d.parameters.length) = some 0 := by decide +kernel
theorem hdy_AC_init : y_AC_init.cls ≠ "java/lang/invoke/MethodHandle" ∧ y_AC_init.cls ≠ "java/lang/invoke/VarHandle" ∧ (parseMethodDescriptor y_AC_init.desc).map (fun d => d.parameters.length) = some 0 := by decide +kernel
theorem hdy_AL_add0 : y_AL_add0.cls ≠ "java/lang/invoke/MethodHandle" ∧ y_AL_add0.cls ≠ "java/lang/invoke/VarHandle" ∧ (parseMethodDescriptor y_AL_add0.desc).map (fun d => d.parameters.length) = some 1 := by decide +kernel
theorem hdy_AL_add1 : y_AL_add1.cls ≠ "java/lang/invoke/MethodHandle" ∧ y_AL_add1.cls ≠ "java/lang/invoke/VarHandle" ∧ (parseMethodDescriptor y_AL_add1.desc).map (fun d => d.parameters.length) = some 3 := by decide +kernel
theorem hdy_AL_clear : y_AL_clear.cls ≠ "java/lang/invoke/MethodHandle" ∧ y_AL_clear.cls ≠ "java/lang/invoke/VarHandle" ∧ (parseMethodDescriptor y_AL_clear.desc).map (fun d => d.parameters.length) = some 0 := by decide +kernel
theorem hdy_AL_elementData : y_AL_elementData.cls ≠ "java/lang/invoke/MethodHandle" ∧ y_AL_elementData.cls ≠ "java/lang/invoke/VarHandle" ∧ (parseMethodDescriptor y_AL_elementData.desc).map (fun d => d.parameters.length) = some 1 := by decide +kernel
theorem hdy_AL_fastRemove : y_AL_fastRemove.cls ≠ "java/lang/invoke/MethodHandle" ∧ y_AL_fastRemove.cls ≠ "java/lang/invoke/VarHandle" ∧ (parseMethodDescriptor y_AL_fastRemove.desc).map (fun d => d.parameters.length) = some 2 := by decide +kernel
theorem hdy_AL_get : y_AL_get.cls ≠ "java/lang/invoke/MethodHandle" ∧ y_AL_get.cls ≠ "java/lang/invoke/VarHandle" ∧ (parseMethodDescriptor y_AL_get.desc).map (fun d => d.parameters.length) = some 1 := by decide +kernel
theorem hdy_AL_grow0 : y_AL_grow0.cls ≠ "java/lang/invoke/MethodHandle" ∧ y_AL_grow0.cls ≠ "java/lang/invoke/VarHandle" ∧ (parseMethodDescriptor y_AL_grow0.desc).map (fun d => d.parameters.length) = some 0 := by decide +kernel
theorem hdy_AL_grow1 : y_AL_grow1.cls ≠ "java/lang/invoke/MethodHandle" ∧ y_AL_grow1.cls ≠ "java/lang/invoke/VarHandle" ∧ (parseMethodDescriptor y_AL_grow1.desc).map (fun d => d.parameters.length) = some 1 := by decide +kernel
theorem hdy_AL_init : y_AL_init.cls ≠ "java/lang/invoke/MethodHandle" ∧ y_AL_init.cls ≠ "java/lang/invoke/VarHandle" ∧ (parseMethodDescriptor y_AL_init.desc).map (fun d => d.parameters.length) = some 0 := by decide +kernel
theorem hdy_AL_isEmpty : y_AL_isEmpty.cls ≠ "java/lang/invoke/MethodHandle" ∧ y_AL_isEmpty.cls ≠ "java/lang/invoke/VarHandle" ∧ (parseMethodDescriptor y_AL_isEmpty.desc).map (fun d => d.parameters.length) = some 0 := by decide +kernel
theorem hdy_AL_remove : y_AL_remove.cls ≠ "java/lang/invoke/MethodHandle" ∧ y_AL_remove.cls ≠ "java/lang/invoke/VarHandle" ∧ (parseMethodDescriptor y_AL_remove.desc).map (fun d => d.parameters.length) = some 1 := by decide +kernel
theorem hdy_AL_size : y_AL_size.cls ≠ "java/lang/invoke/MethodHandle" ∧ y_AL_size.cls ≠ "java/lang/invoke/VarHandle" ∧ (parseMethodDescriptor y_AL_size.desc).map (fun d => d.parameters.length) = some 0 := by decide +kernel
theorem hdy_AR_copyOf0 : y_AR_copyOf0.cls ≠ "java/lang/invoke/MethodHandle" ∧ y_AR_copyOf0.cls ≠ "java/lang/invoke/VarHandle" ∧ (parseMethodDescriptor y_AR_copyOf0.desc).map (fun d => d.parameters.length) = some 2 := by decide +kernel
theorem hdy_AR_copyOf1 : y_AR_copyOf1.cls ≠ "java/lang/invoke/MethodHandle" ∧ y_AR_copyOf1.cls ≠ "java/lang/invoke/VarHandle" ∧ (parseMethodDescriptor y_AR_copyOf1.desc).map (fun d => d.parameters.length) = some 3 := by decide +kernel
theorem hdy_AS_hugeLength : y_AS_hugeLength.cls ≠ "java/lang/invoke/MethodHandle" ∧ y_AS_hugeLength.cls ≠ "java/lang/invoke/VarHandle" ∧ (parseMethodDescriptor y_AS_hugeLength.desc).map (fun d => d.parameters.length) = some 2 := by decide +kernel
theorem hdy_AS_newLength : y_AS_newLength.cls ≠ "java/lang/invoke/MethodHandle" ∧ y_AS_newLength.cls ≠ "java/lang/invoke/VarHandle" ∧ (parseMethodDescriptor y_AS_newLength.desc).map (fun d => d.parameters.length) = some 3 := by decide +kernel
theorem hdy_BL_buffer : y_BL_buffer.cls ≠ "java/lang/invoke/MethodHandle" ∧ y_BL_buffer.cls ≠ "java/lang/invoke/VarHandle" ∧ (parseMethodDescriptor y_BL_buffer.desc).map (fun d => d.parameters.length) = some 1 := by decide +kernel
theorem hdy_BL_crash : y_BL_crash.cls ≠ "java/lang/invoke/MethodHandle" ∧ y_BL_crash.cls ≠ "java/lang/invoke/VarHandle" ∧ (parseMethodDescriptor y_BL_crash.desc).map (fun d => d.parameters.length) = some 0 := by decide +kernel
theorem hdy_BL_drain : y_BL_drain.cls ≠ "java/lang/invoke/MethodHandle" ∧ y_BL_drain.cls ≠ "java/lang/invoke/VarHandle" ∧ (parseMethodDescriptor y_BL_drain.desc).map (fun d => d.parameters.length) = some 0 := by decide +kernel
theorem hdy_BL_init : y_BL_init.cls ≠ "java/lang/invoke/MethodHandle" ∧ y_BL_init.cls ≠ "java/lang/invoke/VarHandle" ∧ (parseMethodDescriptor y_BL_init.desc).map (fun d => d.parameters.length) = some 0 := by decide +kernel
theorem hdy_BL_liveRequest : y_BL_liveRequest.cls ≠ "java/lang/invoke/MethodHandle" ∧ y_BL_liveRequest.cls ≠ "java/lang/invoke/VarHandle" ∧ (parseMethodDescriptor y_BL_liveRequest.desc).map (fun d => d.parameters.length) = some 1 := by decide +kernel
theorem hdy_BL_load : y_BL_load.cls ≠ "java/lang/invoke/MethodHandle" ∧ y_BL_load.cls ≠ "java/lang/invoke/VarHandle" ∧ (parseMethodDescriptor y_BL_load.desc).map (fun d => d.parameters.length) = some 1 := by decide +kernel
theorem hdy_BL_makeBufferRoom : y_BL_makeBufferRoom.cls ≠ "java/lang/invoke/MethodHandle" ∧ y_BL_makeBufferRoom.cls ≠ "java/lang/invoke/VarHandle" ∧ (parseMethodDescriptor y_BL_makeBufferRoom.desc).map (fun d => d.parameters.length) = some 0 := by decide +kernel
theorem hdy_BL_makeRequest : y_BL_makeRequest.cls ≠ "java/lang/invoke/MethodHandle" ∧ y_BL_makeRequest.cls ≠ "java/lang/invoke/VarHandle" ∧ (parseMethodDescriptor y_BL_makeRequest.desc).map (fun d => d.parameters.length) = some 3 := by decide +kernel
theorem hdy_BL_media : y_BL_media.cls ≠ "java/lang/invoke/MethodHandle" ∧ y_BL_media.cls ≠ "java/lang/invoke/VarHandle" ∧ (parseMethodDescriptor y_BL_media.desc).map (fun d => d.parameters.length) = some 1 := by decide +kernel
theorem hdy_BL_newest : y_BL_newest.cls ≠ "java/lang/invoke/MethodHandle" ∧ y_BL_newest.cls ≠ "java/lang/invoke/VarHandle" ∧ (parseMethodDescriptor y_BL_newest.desc).map (fun d => d.parameters.length) = some 1 := by decide +kernel
theorem hdy_BL_newestOf : y_BL_newestOf.cls ≠ "java/lang/invoke/MethodHandle" ∧ y_BL_newestOf.cls ≠ "java/lang/invoke/VarHandle" ∧ (parseMethodDescriptor y_BL_newestOf.desc).map (fun d => d.parameters.length) = some 1 := by decide +kernel
theorem hdy_BL_policy : y_BL_policy.cls ≠ "java/lang/invoke/MethodHandle" ∧ y_BL_policy.cls ≠ "java/lang/invoke/VarHandle" ∧ (parseMethodDescriptor y_BL_policy.desc).map (fun d => d.parameters.length) = some 1 := by decide +kernel
theorem hdy_BL_queued : y_BL_queued.cls ≠ "java/lang/invoke/MethodHandle" ∧ y_BL_queued.cls ≠ "java/lang/invoke/VarHandle" ∧ (parseMethodDescriptor y_BL_queued.desc).map (fun d => d.parameters.length) = some 1 := by decide +kernel
theorem hdy_BL_request : y_BL_request.cls ≠ "java/lang/invoke/MethodHandle" ∧ y_BL_request.cls ≠ "java/lang/invoke/VarHandle" ∧ (parseMethodDescriptor y_BL_request.desc).map (fun d => d.parameters.length) = some 2 := by decide +kernel
theorem hdy_BL_requireBlock : y_BL_requireBlock.cls ≠ "java/lang/invoke/MethodHandle" ∧ y_BL_requireBlock.cls ≠ "java/lang/invoke/VarHandle" ∧ (parseMethodDescriptor y_BL_requireBlock.desc).map (fun d => d.parameters.length) = some 1 := by decide +kernel
theorem hdy_BL_requireQueueRoom : y_BL_requireQueueRoom.cls ≠ "java/lang/invoke/MethodHandle" ∧ y_BL_requireQueueRoom.cls ≠ "java/lang/invoke/VarHandle" ∧ (parseMethodDescriptor y_BL_requireQueueRoom.desc).map (fun d => d.parameters.length) = some 1 := by decide +kernel
theorem hdy_BL_save : y_BL_save.cls ≠ "java/lang/invoke/MethodHandle" ∧ y_BL_save.cls ≠ "java/lang/invoke/VarHandle" ∧ (parseMethodDescriptor y_BL_save.desc).map (fun d => d.parameters.length) = some 2 := by decide +kernel
theorem hdy_BL_step : y_BL_step.cls ≠ "java/lang/invoke/MethodHandle" ∧ y_BL_step.cls ≠ "java/lang/invoke/VarHandle" ∧ (parseMethodDescriptor y_BL_step.desc).map (fun d => d.parameters.length) = some 1 := by decide +kernel
theorem hdy_BL_sync : y_BL_sync.cls ≠ "java/lang/invoke/MethodHandle" ∧ y_BL_sync.cls ≠ "java/lang/invoke/VarHandle" ∧ (parseMethodDescriptor y_BL_sync.desc).map (fun d => d.parameters.length) = some 0 := by decide +kernel
theorem hdy_BL_told : y_BL_told.cls ≠ "java/lang/invoke/MethodHandle" ∧ y_BL_told.cls ≠ "java/lang/invoke/VarHandle" ∧ (parseMethodDescriptor y_BL_told.desc).map (fun d => d.parameters.length) = some 1 := by decide +kernel
theorem hdy_BL_trackOf : y_BL_trackOf.cls ≠ "java/lang/invoke/MethodHandle" ∧ y_BL_trackOf.cls ≠ "java/lang/invoke/VarHandle" ∧ (parseMethodDescriptor y_BL_trackOf.desc).map (fun d => d.parameters.length) = some 1 := by decide +kernel
theorem hdy_BL_used : y_BL_used.cls ≠ "java/lang/invoke/MethodHandle" ∧ y_BL_used.cls ≠ "java/lang/invoke/VarHandle" ∧ (parseMethodDescriptor y_BL_used.desc).map (fun d => d.parameters.length) = some 1 := by decide +kernel
theorem hdy_BL_writeBack : y_BL_writeBack.cls ≠ "java/lang/invoke/MethodHandle" ∧ y_BL_writeBack.cls ≠ "java/lang/invoke/VarHandle" ∧ (parseMethodDescriptor y_BL_writeBack.desc).map (fun d => d.parameters.length) = some 1 := by decide +kernel
theorem hdy_CP_init : y_CP_init.cls ≠ "java/lang/invoke/MethodHandle" ∧ y_CP_init.cls ≠ "java/lang/invoke/VarHandle" ∧ (parseMethodDescriptor y_CP_init.desc).map (fun d => d.parameters.length) = some 2 := by decide +kernel
theorem hdy_CS_at : y_CS_at.cls ≠ "java/lang/invoke/MethodHandle" ∧ y_CS_at.cls ≠ "java/lang/invoke/VarHandle" ∧ (parseMethodDescriptor y_CS_at.desc).map (fun d => d.parameters.length) = some 1 := by decide +kernel
theorem hdy_CS_clear : y_CS_clear.cls ≠ "java/lang/invoke/MethodHandle" ∧ y_CS_clear.cls ≠ "java/lang/invoke/VarHandle" ∧ (parseMethodDescriptor y_CS_clear.desc).map (fun d => d.parameters.length) = some 0 := by decide +kernel
theorem hdy_CS_copyOf : y_CS_copyOf.cls ≠ "java/lang/invoke/MethodHandle" ∧ y_CS_copyOf.cls ≠ "java/lang/invoke/VarHandle" ∧ (parseMethodDescriptor y_CS_copyOf.desc).map (fun d => d.parameters.length) = some 1 := by decide +kernel
theorem hdy_CS_dirtyOfLeastBlock : y_CS_dirtyOfLeastBlock.cls ≠ "java/lang/invoke/MethodHandle" ∧ y_CS_dirtyOfLeastBlock.cls ≠ "java/lang/invoke/VarHandle" ∧ (parseMethodDescriptor y_CS_dirtyOfLeastBlock.desc).map (fun d => d.parameters.length) = some 0 := by decide +kernel
theorem hdy_CS_init : y_CS_init.cls ≠ "java/lang/invoke/MethodHandle" ∧ y_CS_init.cls ≠ "java/lang/invoke/VarHandle" ∧ (parseMethodDescriptor y_CS_init.desc).map (fun d => d.parameters.length) = some 0 := by decide +kernel
theorem hdy_CS_putLast : y_CS_putLast.cls ≠ "java/lang/invoke/MethodHandle" ∧ y_CS_putLast.cls ≠ "java/lang/invoke/VarHandle" ∧ (parseMethodDescriptor y_CS_putLast.desc).map (fun d => d.parameters.length) = some 1 := by decide +kernel
theorem hdy_CS_size : y_CS_size.cls ≠ "java/lang/invoke/MethodHandle" ∧ y_CS_size.cls ≠ "java/lang/invoke/VarHandle" ∧ (parseMethodDescriptor y_CS_size.desc).map (fun d => d.parameters.length) = some 0 := by decide +kernel
theorem hdy_CS_takeFirst : y_CS_takeFirst.cls ≠ "java/lang/invoke/MethodHandle" ∧ y_CS_takeFirst.cls ≠ "java/lang/invoke/VarHandle" ∧ (parseMethodDescriptor y_CS_takeFirst.desc).map (fun d => d.parameters.length) = some 0 := by decide +kernel
theorem hdy_DK_beginIfIdle : y_DK_beginIfIdle.cls ≠ "java/lang/invoke/MethodHandle" ∧ y_DK_beginIfIdle.cls ≠ "java/lang/invoke/VarHandle" ∧ (parseMethodDescriptor y_DK_beginIfIdle.desc).map (fun d => d.parameters.length) = some 0 := by decide +kernel
theorem hdy_DK_chosenPlace : y_DK_chosenPlace.cls ≠ "java/lang/invoke/MethodHandle" ∧ y_DK_chosenPlace.cls ≠ "java/lang/invoke/VarHandle" ∧ (parseMethodDescriptor y_DK_chosenPlace.desc).map (fun d => d.parameters.length) = some 0 := by decide +kernel
theorem hdy_DK_end : y_DK_end.cls ≠ "java/lang/invoke/MethodHandle" ∧ y_DK_end.cls ≠ "java/lang/invoke/VarHandle" ∧ (parseMethodDescriptor y_DK_end.desc).map (fun d => d.parameters.length) = some 1 := by decide +kernel
theorem hdy_DK_hasWork : y_DK_hasWork.cls ≠ "java/lang/invoke/MethodHandle" ∧ y_DK_hasWork.cls ≠ "java/lang/invoke/VarHandle" ∧ (parseMethodDescriptor y_DK_hasWork.desc).map (fun d => d.parameters.length) = some 0 := by decide +kernel
theorem hdy_DK_init : y_DK_init.cls ≠ "java/lang/invoke/MethodHandle" ∧ y_DK_init.cls ≠ "java/lang/invoke/VarHandle" ∧ (parseMethodDescriptor y_DK_init.desc).map (fun d => d.parameters.length) = some 0 := by decide +kernel
theorem hdy_DK_isOldUnderPolicy : y_DK_isOldUnderPolicy.cls ≠ "java/lang/invoke/MethodHandle" ∧ y_DK_isOldUnderPolicy.cls ≠ "java/lang/invoke/VarHandle" ∧ (parseMethodDescriptor y_DK_isOldUnderPolicy.desc).map (fun d => d.parameters.length) = some 1 := by decide +kernel
theorem hdy_DK_loseAllButMedia : y_DK_loseAllButMedia.cls ≠ "java/lang/invoke/MethodHandle" ∧ y_DK_loseAllButMedia.cls ≠ "java/lang/invoke/VarHandle" ∧ (parseMethodDescriptor y_DK_loseAllButMedia.desc).map (fun d => d.parameters.length) = some 0 := by decide +kernel
theorem hdy_DK_moveToMedia : y_DK_moveToMedia.cls ≠ "java/lang/invoke/MethodHandle" ∧ y_DK_moveToMedia.cls ≠ "java/lang/invoke/VarHandle" ∧ (parseMethodDescriptor y_DK_moveToMedia.desc).map (fun d => d.parameters.length) = some 1 := by decide +kernel
theorem hdy_DK_nearestPlace : y_DK_nearestPlace.cls ≠ "java/lang/invoke/MethodHandle" ∧ y_DK_nearestPlace.cls ≠ "java/lang/invoke/VarHandle" ∧ (parseMethodDescriptor y_DK_nearestPlace.desc).map (fun d => d.parameters.length) = some 1 := by decide +kernel
theorem hdy_DK_pass : y_DK_pass.cls ≠ "java/lang/invoke/MethodHandle" ∧ y_DK_pass.cls ≠ "java/lang/invoke/VarHandle" ∧ (parseMethodDescriptor y_DK_pass.desc).map (fun d => d.parameters.length) = some 1 := by decide +kernel
theorem hdy_DK_passToNextEnd : y_DK_passToNextEnd.cls ≠ "java/lang/invoke/MethodHandle" ∧ y_DK_passToNextEnd.cls ≠ "java/lang/invoke/VarHandle" ∧ (parseMethodDescriptor y_DK_passToNextEnd.desc).map (fun d => d.parameters.length) = some 0 := by decide +kernel
theorem hdy_DK_passUntilEnd : y_DK_passUntilEnd.cls ≠ "java/lang/invoke/MethodHandle" ∧ y_DK_passUntilEnd.cls ≠ "java/lang/invoke/VarHandle" ∧ (parseMethodDescriptor y_DK_passUntilEnd.desc).map (fun d => d.parameters.length) = some 1 := by decide +kernel
theorem hdy_DK_sideOfPolicy : y_DK_sideOfPolicy.cls ≠ "java/lang/invoke/MethodHandle" ∧ y_DK_sideOfPolicy.cls ≠ "java/lang/invoke/VarHandle" ∧ (parseMethodDescriptor y_DK_sideOfPolicy.desc).map (fun d => d.parameters.length) = some 0 := by decide +kernel
theorem hdy_DK_tracksAway : y_DK_tracksAway.cls ≠ "java/lang/invoke/MethodHandle" ∧ y_DK_tracksAway.cls ≠ "java/lang/invoke/VarHandle" ∧ (parseMethodDescriptor y_DK_tracksAway.desc).map (fun d => d.parameters.length) = some 2 := by decide +kernel
theorem hdy_DK_valueAfterServing : y_DK_valueAfterServing.cls ≠ "java/lang/invoke/MethodHandle" ∧ y_DK_valueAfterServing.cls ≠ "java/lang/invoke/VarHandle" ∧ (parseMethodDescriptor y_DK_valueAfterServing.desc).map (fun d => d.parameters.length) = some 1 := by decide +kernel
theorem hdy_DK_valueInside : y_DK_valueInside.cls ≠ "java/lang/invoke/MethodHandle" ∧ y_DK_valueInside.cls ≠ "java/lang/invoke/VarHandle" ∧ (parseMethodDescriptor y_DK_valueInside.desc).map (fun d => d.parameters.length) = some 1 := by decide +kernel
theorem hdy_DK_valueOnMedia : y_DK_valueOnMedia.cls ≠ "java/lang/invoke/MethodHandle" ∧ y_DK_valueOnMedia.cls ≠ "java/lang/invoke/VarHandle" ∧ (parseMethodDescriptor y_DK_valueOnMedia.desc).map (fun d => d.parameters.length) = some 1 := by decide +kernel
theorem hdy_MD_ask : y_MD_ask.cls ≠ "java/lang/invoke/MethodHandle" ∧ y_MD_ask.cls ≠ "java/lang/invoke/VarHandle" ∧ (parseMethodDescriptor y_MD_ask.desc).map (fun d => d.parameters.length) = some 3 := by decide +kernel
theorem hdy_MD_beginOne : y_MD_beginOne.cls ≠ "java/lang/invoke/MethodHandle" ∧ y_MD_beginOne.cls ≠ "java/lang/invoke/VarHandle" ∧ (parseMethodDescriptor y_MD_beginOne.desc).map (fun d => d.parameters.length) = some 0 := by decide +kernel
theorem hdy_MD_buffer : y_MD_buffer.cls ≠ "java/lang/invoke/MethodHandle" ∧ y_MD_buffer.cls ≠ "java/lang/invoke/VarHandle" ∧ (parseMethodDescriptor y_MD_buffer.desc).map (fun d => d.parameters.length) = some 1 := by decide +kernel
theorem hdy_MD_bufferOf : y_MD_bufferOf.cls ≠ "java/lang/invoke/MethodHandle" ∧ y_MD_bufferOf.cls ≠ "java/lang/invoke/VarHandle" ∧ (parseMethodDescriptor y_MD_bufferOf.desc).map (fun d => d.parameters.length) = some 1 := by decide +kernel
theorem hdy_MD_cache : y_MD_cache.cls ≠ "java/lang/invoke/MethodHandle" ∧ y_MD_cache.cls ≠ "java/lang/invoke/VarHandle" ∧ (parseMethodDescriptor y_MD_cache.desc).map (fun d => d.parameters.length) = some 2 := by decide +kernel
theorem hdy_MD_chosen : y_MD_chosen.cls ≠ "java/lang/invoke/MethodHandle" ∧ y_MD_chosen.cls ≠ "java/lang/invoke/VarHandle" ∧ (parseMethodDescriptor y_MD_chosen.desc).map (fun d => d.parameters.length) = some 0 := by decide +kernel
theorem hdy_MD_closeUp : y_MD_closeUp.cls ≠ "java/lang/invoke/MethodHandle" ∧ y_MD_closeUp.cls ≠ "java/lang/invoke/VarHandle" ∧ (parseMethodDescriptor y_MD_closeUp.desc).map (fun d => d.parameters.length) = some 1 := by decide +kernel
theorem hdy_MD_copyRequest : y_MD_copyRequest.cls ≠ "java/lang/invoke/MethodHandle" ∧ y_MD_copyRequest.cls ≠ "java/lang/invoke/VarHandle" ∧ (parseMethodDescriptor y_MD_copyRequest.desc).map (fun d => d.parameters.length) = some 2 := by decide +kernel
theorem hdy_MD_crash : y_MD_crash.cls ≠ "java/lang/invoke/MethodHandle" ∧ y_MD_crash.cls ≠ "java/lang/invoke/VarHandle" ∧ (parseMethodDescriptor y_MD_crash.desc).map (fun d => d.parameters.length) = some 0 := by decide +kernel
theorem hdy_MD_distance : y_MD_distance.cls ≠ "java/lang/invoke/MethodHandle" ∧ y_MD_distance.cls ≠ "java/lang/invoke/VarHandle" ∧ (parseMethodDescriptor y_MD_distance.desc).map (fun d => d.parameters.length) = some 2 := by decide +kernel
theorem hdy_MD_drain : y_MD_drain.cls ≠ "java/lang/invoke/MethodHandle" ∧ y_MD_drain.cls ≠ "java/lang/invoke/VarHandle" ∧ (parseMethodDescriptor y_MD_drain.desc).map (fun d => d.parameters.length) = some 0 := by decide +kernel
theorem hdy_MD_endOne : y_MD_endOne.cls ≠ "java/lang/invoke/MethodHandle" ∧ y_MD_endOne.cls ≠ "java/lang/invoke/VarHandle" ∧ (parseMethodDescriptor y_MD_endOne.desc).map (fun d => d.parameters.length) = some 0 := by decide +kernel
theorem hdy_MD_init : y_MD_init.cls ≠ "java/lang/invoke/MethodHandle" ∧ y_MD_init.cls ≠ "java/lang/invoke/VarHandle" ∧ (parseMethodDescriptor y_MD_init.desc).map (fun d => d.parameters.length) = some 0 := by decide +kernel
theorem hdy_MD_isBlock : y_MD_isBlock.cls ≠ "java/lang/invoke/MethodHandle" ∧ y_MD_isBlock.cls ≠ "java/lang/invoke/VarHandle" ∧ (parseMethodDescriptor y_MD_isBlock.desc).map (fun d => d.parameters.length) = some 1 := by decide +kernel
theorem hdy_MD_isReady : y_MD_isReady.cls ≠ "java/lang/invoke/MethodHandle" ∧ y_MD_isReady.cls ≠ "java/lang/invoke/VarHandle" ∧ (parseMethodDescriptor y_MD_isReady.desc).map (fun d => d.parameters.length) = some 1 := by decide +kernel
theorem hdy_MD_load : y_MD_load.cls ≠ "java/lang/invoke/MethodHandle" ∧ y_MD_load.cls ≠ "java/lang/invoke/VarHandle" ∧ (parseMethodDescriptor y_MD_load.desc).map (fun d => d.parameters.length) = some 1 := by decide +kernel
theorem hdy_MD_lowest : y_MD_lowest.cls ≠ "java/lang/invoke/MethodHandle" ∧ y_MD_lowest.cls ≠ "java/lang/invoke/VarHandle" ∧ (parseMethodDescriptor y_MD_lowest.desc).map (fun d => d.parameters.length) = some 0 := by decide +kernel
theorem hdy_MD_makeRoom : y_MD_makeRoom.cls ≠ "java/lang/invoke/MethodHandle" ∧ y_MD_makeRoom.cls ≠ "java/lang/invoke/VarHandle" ∧ (parseMethodDescriptor y_MD_makeRoom.desc).map (fun d => d.parameters.length) = some 0 := by decide +kernel
theorem hdy_MD_media : y_MD_media.cls ≠ "java/lang/invoke/MethodHandle" ∧ y_MD_media.cls ≠ "java/lang/invoke/VarHandle" ∧ (parseMethodDescriptor y_MD_media.desc).map (fun d => d.parameters.length) = some 1 := by decide +kernel
theorem hdy_MD_nearest : y_MD_nearest.cls ≠ "java/lang/invoke/MethodHandle" ∧ y_MD_nearest.cls ≠ "java/lang/invoke/VarHandle" ∧ (parseMethodDescriptor y_MD_nearest.desc).map (fun d => d.parameters.length) = some 1 := by decide +kernel
theorem hdy_MD_newest : y_MD_newest.cls ≠ "java/lang/invoke/MethodHandle" ∧ y_MD_newest.cls ≠ "java/lang/invoke/VarHandle" ∧ (parseMethodDescriptor y_MD_newest.desc).map (fun d => d.parameters.length) = some 1 := by decide +kernel
theorem hdy_MD_newestOf : y_MD_newestOf.cls ≠ "java/lang/invoke/MethodHandle" ∧ y_MD_newestOf.cls ≠ "java/lang/invoke/VarHandle" ∧ (parseMethodDescriptor y_MD_newestOf.desc).map (fun d => d.parameters.length) = some 1 := by decide +kernel
theorem hdy_MD_policy : y_MD_policy.cls ≠ "java/lang/invoke/MethodHandle" ∧ y_MD_policy.cls ≠ "java/lang/invoke/VarHandle" ∧ (parseMethodDescriptor y_MD_policy.desc).map (fun d => d.parameters.length) = some 1 := by decide +kernel
theorem hdy_MD_putLast : y_MD_putLast.cls ≠ "java/lang/invoke/MethodHandle" ∧ y_MD_putLast.cls ≠ "java/lang/invoke/VarHandle" ∧ (parseMethodDescriptor y_MD_putLast.desc).map (fun d => d.parameters.length) = some 3 := by decide +kernel
theorem hdy_MD_queued : y_MD_queued.cls ≠ "java/lang/invoke/MethodHandle" ∧ y_MD_queued.cls ≠ "java/lang/invoke/VarHandle" ∧ (parseMethodDescriptor y_MD_queued.desc).map (fun d => d.parameters.length) = some 1 := by decide +kernel
theorem hdy_MD_request : y_MD_request.cls ≠ "java/lang/invoke/MethodHandle" ∧ y_MD_request.cls ≠ "java/lang/invoke/VarHandle" ∧ (parseMethodDescriptor y_MD_request.desc).map (fun d => d.parameters.length) = some 2 := by decide +kernel
theorem hdy_MD_save : y_MD_save.cls ≠ "java/lang/invoke/MethodHandle" ∧ y_MD_save.cls ≠ "java/lang/invoke/VarHandle" ∧ (parseMethodDescriptor y_MD_save.desc).map (fun d => d.parameters.length) = some 2 := by decide +kernel
theorem hdy_MD_step : y_MD_step.cls ≠ "java/lang/invoke/MethodHandle" ∧ y_MD_step.cls ≠ "java/lang/invoke/VarHandle" ∧ (parseMethodDescriptor y_MD_step.desc).map (fun d => d.parameters.length) = some 1 := by decide +kernel
theorem hdy_MD_sync : y_MD_sync.cls ≠ "java/lang/invoke/MethodHandle" ∧ y_MD_sync.cls ≠ "java/lang/invoke/VarHandle" ∧ (parseMethodDescriptor y_MD_sync.desc).map (fun d => d.parameters.length) = some 0 := by decide +kernel
theorem hdy_MD_thrown : y_MD_thrown.cls ≠ "java/lang/invoke/MethodHandle" ∧ y_MD_thrown.cls ≠ "java/lang/invoke/VarHandle" ∧ (parseMethodDescriptor y_MD_thrown.desc).map (fun d => d.parameters.length) = some 0 := by decide +kernel
theorem hdy_MD_told : y_MD_told.cls ≠ "java/lang/invoke/MethodHandle" ∧ y_MD_told.cls ≠ "java/lang/invoke/VarHandle" ∧ (parseMethodDescriptor y_MD_told.desc).map (fun d => d.parameters.length) = some 1 := by decide +kernel
theorem hdy_MD_track : y_MD_track.cls ≠ "java/lang/invoke/MethodHandle" ∧ y_MD_track.cls ≠ "java/lang/invoke/VarHandle" ∧ (parseMethodDescriptor y_MD_track.desc).map (fun d => d.parameters.length) = some 1 := by decide +kernel
theorem hdy_MD_used : y_MD_used.cls ≠ "java/lang/invoke/MethodHandle" ∧ y_MD_used.cls ≠ "java/lang/invoke/VarHandle" ∧ (parseMethodDescriptor y_MD_used.desc).map (fun d => d.parameters.length) = some 1 := by decide +kernel
theorem hdy_MD_valueAt : y_MD_valueAt.cls ≠ "java/lang/invoke/MethodHandle" ∧ y_MD_valueAt.cls ≠ "java/lang/invoke/VarHandle" ∧ (parseMethodDescriptor y_MD_valueAt.desc).map (fun d => d.parameters.length) = some 1 := by decide +kernel
theorem hdy_OB_checkIndex : y_OB_checkIndex.cls ≠ "java/lang/invoke/MethodHandle" ∧ y_OB_checkIndex.cls ≠ "java/lang/invoke/VarHandle" ∧ (parseMethodDescriptor y_OB_checkIndex.desc).map (fun d => d.parameters.length) = some 2 := by decide +kernel
theorem hdy_PR_checkIndex : y_PR_checkIndex.cls ≠ "java/lang/invoke/MethodHandle" ∧ y_PR_checkIndex.cls ≠ "java/lang/invoke/VarHandle" ∧ (parseMethodDescriptor y_PR_checkIndex.desc).map (fun d => d.parameters.length) = some 3 := by decide +kernel
theorem hdy_QU_absorberOf : y_QU_absorberOf.cls ≠ "java/lang/invoke/MethodHandle" ∧ y_QU_absorberOf.cls ≠ "java/lang/invoke/VarHandle" ∧ (parseMethodDescriptor y_QU_absorberOf.desc).map (fun d => d.parameters.length) = some 1 := by decide +kernel
theorem hdy_QU_add : y_QU_add.cls ≠ "java/lang/invoke/MethodHandle" ∧ y_QU_add.cls ≠ "java/lang/invoke/VarHandle" ∧ (parseMethodDescriptor y_QU_add.desc).map (fun d => d.parameters.length) = some 1 := by decide +kernel
theorem hdy_QU_at : y_QU_at.cls ≠ "java/lang/invoke/MethodHandle" ∧ y_QU_at.cls ≠ "java/lang/invoke/VarHandle" ∧ (parseMethodDescriptor y_QU_at.desc).map (fun d => d.parameters.length) = some 1 := by decide +kernel
theorem hdy_QU_clear : y_QU_clear.cls ≠ "java/lang/invoke/MethodHandle" ∧ y_QU_clear.cls ≠ "java/lang/invoke/VarHandle" ∧ (parseMethodDescriptor y_QU_clear.desc).map (fun d => d.parameters.length) = some 0 := by decide +kernel
theorem hdy_QU_init : y_QU_init.cls ≠ "java/lang/invoke/MethodHandle" ∧ y_QU_init.cls ≠ "java/lang/invoke/VarHandle" ∧ (parseMethodDescriptor y_QU_init.desc).map (fun d => d.parameters.length) = some 0 := by decide +kernel
theorem hdy_QU_isReady : y_QU_isReady.cls ≠ "java/lang/invoke/MethodHandle" ∧ y_QU_isReady.cls ≠ "java/lang/invoke/VarHandle" ∧ (parseMethodDescriptor y_QU_isReady.desc).map (fun d => d.parameters.length) = some 1 := by decide +kernel
theorem hdy_QU_lastWriteOf : y_QU_lastWriteOf.cls ≠ "java/lang/invoke/MethodHandle" ∧ y_QU_lastWriteOf.cls ≠ "java/lang/invoke/VarHandle" ∧ (parseMethodDescriptor y_QU_lastWriteOf.desc).map (fun d => d.parameters.length) = some 1 := by decide +kernel
theorem hdy_QU_ofNumber : y_QU_ofNumber.cls ≠ "java/lang/invoke/MethodHandle" ∧ y_QU_ofNumber.cls ≠ "java/lang/invoke/VarHandle" ∧ (parseMethodDescriptor y_QU_ofNumber.desc).map (fun d => d.parameters.length) = some 1 := by decide +kernel
theorem hdy_QU_size : y_QU_size.cls ≠ "java/lang/invoke/MethodHandle" ∧ y_QU_size.cls ≠ "java/lang/invoke/VarHandle" ∧ (parseMethodDescriptor y_QU_size.desc).map (fun d => d.parameters.length) = some 0 := by decide +kernel
theorem hdy_QU_take : y_QU_take.cls ≠ "java/lang/invoke/MethodHandle" ∧ y_QU_take.cls ≠ "java/lang/invoke/VarHandle" ∧ (parseMethodDescriptor y_QU_take.desc).map (fun d => d.parameters.length) = some 1 := by decide +kernel
theorem hdy_RQ_init : y_RQ_init.cls ≠ "java/lang/invoke/MethodHandle" ∧ y_RQ_init.cls ≠ "java/lang/invoke/VarHandle" ∧ (parseMethodDescriptor y_RQ_init.desc).map (fun d => d.parameters.length) = some 5 := by decide +kernel
theorem goodIn_sub' {ws : List Cond} (hm : ∀ w ∈ ws, w ∈ G) : GoodIn G ws := fun w hw => ⟨hm w hw, good_of_word (G_good w (hm w hw))⟩
theorem gB {y : MethodName} {b : ByteArray} {n : Nat} {r : Option FieldType} (h : Cond.code y b n r ∈ G) : GoodIn G (Cond.code y b n r :: G) := goodIn_sub' (List.forall_mem_cons.mpr ⟨h, fun _ z => z⟩)
theorem gV {own C : String} {i : Nat} {y : MethodName} {b : ByteArray} {n : Nat} {r : Option FieldType} (h1 : Cond.methodLink own i y ∈ G) (h2 : Cond.instanceMethod y ∈ G) (h3 : Cond.selects C y y ∈ G) (h4 : Cond.initialized C ∈ G) (h : Cond.code y b n r ∈ G) : GoodIn G (wsV own i C y (Cond.code y b n r :: G)) :=
  goodIn_sub' (List.forall_mem_cons.mpr ⟨h1, List.forall_mem_cons.mpr ⟨h2, List.forall_mem_cons.mpr ⟨h3, List.forall_mem_cons.mpr ⟨h4, List.forall_mem_cons.mpr ⟨h, fun _ z => z⟩⟩⟩⟩⟩)
theorem fhN {E : fh_E} {A : Nat → Prop} {U : State} {H : Heap} (h : fh_Z E A U H) (w : Cond) (hw : w ∈ fhNest) : va_Nw w U := h.2.2.2.2.2.1 w hw
theorem fhK {E : fh_E} {A : Nat → Prop} {U : State} {H : Heap} (h : fh_Z E A U H) (w : Cond) (hw : w ∈ fhCast) : va_Nw w U := h.2.2.2.2.2.2 w hw
section FHM
variable {p : Program} {l : Launch} {e : Env} {R : Room} {s : State} {m : MethodId} {args : Array Value} {below : List Frame} {meth : Method} {c : Code} {H : Heap} {locs : List Loc} {cells slots : Nat} {Q : State → Prop}
variable {cc : ByteArray} {pc : Nat} {ls : Array Slot} {rest : List Value} {D : va_G} {cl : List vw_C} {A : Nat → Prop} {a : Nat} {tys : List (ClassId × FieldType)} {h : fh_H} {H0 : Heap}
theorem fh_getS {own ref C : String} (hexec : p.tables.exec = Jvm.exec) (hb : c.code = cc) {T : u_T} {N ci index : Nat} {ty : Nat → FieldType} {Ts : List Cond} (hts : ∀ w ∈ Ts, w.before args s = true) (hC : fh_C cl ci C T N ty) (hin : ∀ w ∈ u_ws C T N, w ∈ Ts) (hown : s.vm.findClass own = some m.cls) (hK : va_K D cl tys s) (hP : fh_P D cl A h H) {fs : List Value} (he : h a = some (.inr (ci, fs))) (k : Nat) (hk : k < N) (hlink : Cond.fieldLink own index ref (T k).2.1 (T k).2.2.1 ∈ Ts) (hsame : ∀ x, s.fieldFound? (T k).1 (T k).2.1 (T k).2.2.1 = some x → s.fieldFound? ref (T k).2.1 (T k).2.2.1 = some x) {v : Value} (hv : fs[k]? = some v) (hdg : decode cc pc = .ok (.getfield index, 3))
    (kk : W p l e R s m args below meth c H locs cells slots Q (F0 m (pc + 3) ls (v :: rest))) : W p l e R s m args below meth c H locs cells slots Q (F0 m pc ls (.ref a :: rest)) := by
  obtain ⟨w, h1, h2, h3⟩ := hP
  obtain ⟨q0, hq⟩ := (h3 a _).mp he
  exact va_get hexec hb hts hin hown hK h1 q0 hq hC.1 k hk (hts _ hlink) hsame hv hdg kk
theorem fh_putS {own ref C : String} (hexec : p.tables.exec = Jvm.exec) (hb : c.code = cc) {T : u_T} {N ci index : Nat} {ty : Nat → FieldType} {Ts : List Cond} (hts : ∀ w ∈ Ts, w.before args s = true) (hC : fh_C cl ci C T N ty) (hin : ∀ w ∈ u_ws C T N, w ∈ Ts) (hown : s.vm.findClass own = some m.cls) (hK : va_K D cl tys s) (hP : fh_P D cl A h H) (hS : va_S A H0 H locs) {fs : List Value} (he : h a = some (.inr (ci, fs))) (k : Nat) (hk : k < N) (hlink : Cond.fieldLink own index ref (T k).2.1 (T k).2.2.1 ∈ Ts) (hsame : ∀ x, s.fieldFound? (T k).1 (T k).2.1 (T k).2.2.1 = some x → s.fieldFound? ref (T k).2.1 (T k).2.2.1 = some x) (hfin : (T k).2.2.2 = false) {v : Value} (hn : narrow (ty k) v = v) (hfit : fits (ty k) v = true) (hl : k < fs.length) (hdg : decode cc pc = .ok (.putfield index, 3))
    (kk : ∀ (H1 : Heap) (locs1 : List Loc), fh_P D cl A (va_up h a (some (.inr (ci, fs.set k v)))) H1 → va_S A H0 H1 locs1 → W p l e R s m args below meth c H1 locs1 cells slots Q (F0 m (pc + 3) ls rest)) : W p l e R s m args below meth c H locs cells slots Q (F0 m pc ls (v :: .ref a :: rest)) := by
  obtain ⟨w, h1, h2, h3⟩ := hP
  obtain ⟨q0, hq⟩ := (h3 a _).mp he
  exact va_put hexec hb hts hin ty hC.2.1 hC.2.2 hown hK h1 h2 hS q0 hq hC.1 k hk (hts _ hlink) hsame hfin (hC.2.1 k hk) hn hfit hl hdg (fun H1 locs1 g1 g2 g3 => kk H1 locs1 ⟨_, g1, g2, h3.set h2 hq⟩ g3)
theorem fh_zald (hexec : p.tables.exec = Jvm.exec) (hb : c.code = cc) (hK : va_K D cl tys s) (hP : fh_P D cl A h H) (t0 : Nat) {cA : ClassId} {n : Nat} {f : Nat → Int32} (ha : h a = some (.inl (cA, n, .inl f))) (ht : tys[t0]? = some (cA, .boolean)) {i : Int32} (hin : vp_in i n) (hdg : decode cc pc = .ok (.baload, 1))
    (kk : W p l e R s m args below meth c H locs cells slots Q (F0 m (pc + 1) ls (.int (f i.toNatClampNeg) :: rest))) : W p l e R s m args below meth c H locs cells slots Q (F0 m pc ls (.int i :: .ref a :: rest)) := by
  obtain ⟨w, h1, h2, h3⟩ := hP
  obtain ⟨q0, hq⟩ := (h3 a _).mp ha
  exact va_zald hexec hb hK h1 q0 t0 hq ht hin hdg kk
theorem fh_zast (hexec : p.tables.exec = Jvm.exec) (hb : c.code = cc) (hK : va_K D cl tys s) (hP : fh_P D cl A h H) (hS : va_S A H0 H locs) (t0 : Nat) {cA : ClassId} {n : Nat} {f : Nat → Int32} (ha : h a = some (.inl (cA, n, .inl f))) (ht : tys[t0]? = some (cA, .boolean)) {i x : Int32} (hin : vp_in i n) (hdg : decode cc pc = .ok (.bastore, 1))
    (kk : ∀ (H1 : Heap) (locs1 : List Loc), fh_P D cl A (va_up h a (some (.inl (cA, n, .inl (upd f i.toNatClampNeg (vp_nar .boolean x)))))) H1 → va_S A H0 H1 locs1 → W p l e R s m args below meth c H1 locs1 cells slots Q (F0 m (pc + 1) ls rest)) : W p l e R s m args below meth c H locs cells slots Q (F0 m pc ls (.int x :: .int i :: .ref a :: rest)) := by
  obtain ⟨w, h1, h2, h3⟩ := hP
  obtain ⟨q0, hq⟩ := (h3 a _).mp ha
  exact va_zast hexec hb hK h1 h2 hS q0 t0 hq ht hin hdg (fun H1 locs1 g1 g2 g3 => kk H1 locs1 ⟨_, g1, g2, h3.set h2 hq⟩ g3)
/-- a new array of ints, longs or booleans: its class is the one that the tables have -/
theorem fh_newa (hexec : p.tables.exec = Jvm.exec) (hb : c.code = cc) {atype : ArrayType} (harr : (Cond.arrayClass (newarray.typeOf atype)).before args s = true) {ty : FieldType} (hty : newarray.typeOf atype = ty) (hK : va_K D cl tys s) (hP : fh_P D cl A h H) (hS : va_S A H0 H locs) (hA : ∀ q, H0.size ≤ q → A q) (t0 : Nat) {cA : ClassId} (ht : tys[t0]? = some (cA, ty)) (huniq : ∀ c1 c2 : ClassId, va_RA s c1 ty → va_RA s c2 ty → c1 = c2)
    {n : Int32} {N' : Nat} {a0 : vp_A} (ha : ∀ cA : ClassId, vp_cell cA a0 = arrV cA N' (fun _ => defaultValue ty)) (hn : ¬ n < 0) (hN : n.toNatClampNeg = N') (hbytes : N' * componentBytes ty ≤ 536870912) (hcells : cells + 1 ≤ R.cells) (hslots : slots + N' ≤ R.slots) (hdg : decode cc pc = .ok (.newarray atype, 2))
    (kk : ∀ (q : Nat) (H1 : Heap), h q = none → fh_P D cl A (va_up h q (some (.inl (cA, a0)))) H1 → va_S A H0 H1 locs → W p l e R s m args below meth c H1 locs (cells + 1) (slots + N') Q (F0 m (pc + 2) ls (.ref q :: rest))) : W p l e R s m args below meth c H locs cells slots Q (F0 m pc ls (.int n :: rest)) := by
  obtain ⟨w, h1, h2, h3⟩ := hP
  refine va_newa hexec hb harr hty hK h1 h2 hS hA ha hn hN hbytes hcells hslots hdg (fun q cB H1 gK g1 g2 g3 => ?_)
  have e1 : cB = cA := huniq _ _ (gK.2 tys.length (cB, ty) (by simp)).2 (hK.2 t0 _ ht).2
  subst e1
  exact kk q H1 (h3.push g2).2 ⟨_, g1, g2, (h3.push g2).1⟩ g3
theorem fh_newq (hexec : p.tables.exec = Jvm.exec) (hb : c.code = cc) {own C : String} {index : Nat} (hown : s.vm.findClass own = some m.cls) (hclink : (Cond.classLink own index C).before args s = true) (hover : va_AO C s) (hK : va_K D cl tys s) (hP : fh_P D cl A h H) (hS : va_S A H0 H locs) (hA : ∀ q, H0.size ≤ q → A q) (t0 : Nat) {cA : ClassId} (ht : tys[t0]? = some (cA, .object C))
    {n : Int32} {N' : Nat} (hn : ¬ n < 0) (hN : n.toNatClampNeg = N') (hbytes : N' * 4 ≤ 536870912) (hcells : cells + 1 ≤ R.cells) (hslots : slots + N' ≤ R.slots) (hdg : decode cc pc = .ok (.anewarray index, 3))
    (kk : ∀ (q : Nat) (H1 : Heap), h q = none → fh_P D cl A (va_up h q (some (.inl (cA, N', .inr (.inr (.inr (.inr (fun _ => none)))))))) H1 → va_S A H0 H1 locs → W p l e R s m args below meth c H1 locs (cells + 1) (slots + N') Q (F0 m (pc + 3) ls (.ref q :: rest))) : W p l e R s m args below meth c H locs cells slots Q (F0 m pc ls (.int n :: rest)) := by
  obtain ⟨w, h1, h2, h3⟩ := hP
  refine va_newq hexec hb hown hclink hover hK h1 h2 hS hA hn hN hbytes hcells hslots hdg (fun q cB H1 gK g1 g2 g3 => ?_)
  have r1 := (gK.2 tys.length (cB, .object C) (by simp)).2
  have r2 := (hK.2 t0 _ ht).2
  have e1 : cB = cA := by
    obtain ⟨_, _, _, _, _, x1⟩ := r1
    obtain ⟨_, _, _, _, _, x2⟩ := r2
    exact Option.some.inj (x1.symm.trans x2)
  subst e1
  exact kk q H1 (h3.push g2).2 ⟨_, g1, g2, (h3.push g2).1⟩ g3
theorem fh_any (hK : va_K D cl tys s) (hP : fh_P D cl A h H) {ci : Nat} {r : vw_C} (hc : cl[ci]? = some r) {fs : List Value} (he : h a = some (.inr (ci, fs))) {E0 : String} (hca : va_Nw (.castable r.1 E0) s) : va_Any E0 s H a := by
  obtain ⟨w, h1, h2, h3⟩ := hP
  obtain ⟨q0, hq⟩ := (h3 a _).mp he
  exact va_rAny hK h1 hq hc (fun comp c0 z1 z2 => vb_asgC hca comp c0 z1 z2)
theorem fh_copyM (hexec : p.tables.exec = Jvm.exec) (hb : c.code = cc) (hml : c.maxLocals = ls.size) {own : String} {index : Nat} (hown : s.vm.findClass own = some m.cls) (hlink : (Cond.methodLink own index arraycopyName).before args s = true) (hnat : (Cond.native arraycopyName).before args s = true) (hstat : (Cond.static arraycopyName).before args s = true) (hini : (Cond.initialized "java/lang/System").before args s = true)
    (hK : va_K D cl tys s) (hP : fh_P D cl A h H) (hS : va_S A H0 H locs) (t0 t1 : Nat) {a0 : Nat} {c0 c1 : ClassId} {n0 n1 : Nat} {f g : Nat → Option Nat} {E0 E1 : String} (ha0 : h a0 = some (.inl (c0, n0, .inr (.inr (.inr (.inr f)))))) (ha1 : h a = some (.inl (c1, n1, .inr (.inr (.inr (.inr g)))))) (ht0 : tys[t0]? = some (c0, .object E0)) (ht1 : tys[t1]? = some (c1, .object E1))
    {sp dp n : Int32} (h1 : ¬ sp < 0) (h2 : ¬ dp < 0) (h3 : ¬ n < 0) (h4 : sp.toNatClampNeg + n.toNatClampNeg ≤ n0) (h5 : dp.toNatClampNeg + n.toNatClampNeg ≤ n1) (hel : ∀ i : Nat, i < n.toNatClampNeg → ∀ y : Nat, f (sp.toNatClampNeg + i) = some y → va_Any E1 s H y)
    (hframes : 1 ≤ R.frames) (hlocals : (rest.map fun v => v.category).sum + (nativeFrameWords "java/lang/System" "arraycopy" 5 + 11) ≤ R.locals) (hdg : decode cc pc = .ok (.invokestatic index, 3))
    (kk : ∀ (H1 : Heap) (locs1 : List Loc), fh_P D cl A (va_up h a (some (.inl (c1, n1, .inr (.inr (.inr (.inr (va_cpy f g sp.toNatClampNeg dp.toNatClampNeg n.toNatClampNeg)))))))) H1 → va_S A H0 H1 locs1 → W p l e R s m args below meth c H1 locs1 cells slots Q (F0 m (pc + 3) ls rest)) : W p l e R s m args below meth c H locs cells slots Q (F0 m pc ls (.int n :: .int dp :: .ref a :: .int sp :: .ref a0 :: rest)) := by
  obtain ⟨w, g1, g2, g3⟩ := hP
  obtain ⟨q0, hq0⟩ := (g3 a0 _).mp ha0
  obtain ⟨q1, hq1⟩ := (g3 a _).mp ha1
  exact va_copyM hexec hb hml hown hlink hnat hstat hini hK g1 g2 hS q0 q1 t0 t1 hq0 hq1 ht0 ht1 h1 h2 h3 h4 h5 hel hframes hlocals hdg (fun H1 locs1 k1 k2 k3 => kk H1 locs1 ⟨_, k1, k2, g3.set g2 hq1⟩ k3)
end FHM
section FHKN
variable {p : Program} {l : Launch} {e : Env} {R : Room} {s : State} {m : MethodId} {args : Array Value} {below : List Frame} {meth : Method} {c : Code} {H : Heap} {locs : List Loc} {cells slots : Nat} {Q : State → Prop}
variable {pc : Nat} {ls : Array Slot} {rest As : List Value} {E : fh_E} {A : Nat → Prop} {h : fh_H} {post : Option Value → fh_H → Prop}
variable {y : MethodName} {bytes cc : ByteArray} {maxL nL mc ms n index : Nat} {ret : Option FieldType} {ws : List Cond} {rm : Room} {Ts : List Cond} {own C host : String} {b : Nat}
theorem fh_callSN (S : CallFix p m c cc nL s args Ts own) (hM : fh_Met l y ws rm E As h post mc ms) (cw : va_CN R s args own index y host bytes maxL ret ws rm mc ms n ∧ (Cond.static y).before args s = true ∧ True) (hK : va_K E.1 vwCl (fh_ty E) s) (hZ : fh_Z E A s s.heap) (hP : fh_P E.1 vwCl A h H) (hS : va_S A s.heap H locs) (hA : ∀ q : Nat, s.heap.size ≤ q → A q) (hn : As.length = n) (hsize : ls.size = nL) {st0 : List Value} (hst : st0 = As.reverse ++ rest) (hW : (rest.map fun v => v.category).sum ≤ 8) (hdg : decode cc pc = .ok (.invokestatic index, 3)) (hf : cells + mc ≤ R.cells ∧ slots + ms ≤ R.slots)
    (kk : ∀ (r : Option Value) (h1 : fh_H) (H1 : Heap) (locs1 : List Loc), post r h1 → fh_P E.1 vwCl A h1 H1 → va_S A s.heap H1 locs1 → W p l e R s m args below meth c H1 locs1 (cells + mc) (slots + ms) Q (F0 m (pc + 3) ls (r.toList ++ rest))) : W p l e R s m args below meth c H locs cells slots Q (F0 m pc ls st0) := by
  subst hst
  exact fh_call (va_runSN S (hM H.size) cw (fh_preS hK hZ hP hS hA) rfl hn hsize rfl (lv_room hW) hdg hf) hP hS hA kk
theorem fh_callIN (S : CallFix p m c cc nL s args Ts own) (hM : fh_Met l y ws rm E (.ref b :: As) h post mc ms) (cw : va_CN R s args own index y host bytes maxL none ws rm mc ms n ∧ y.name = "<init>" ∧ (Cond.instanceMethod y).before args s = true) (hK : va_K E.1 vwCl (fh_ty E) s) (hZ : fh_Z E A s s.heap) (hP : fh_P E.1 vwCl A h H) (hS : va_S A s.heap H locs) (hA : ∀ q : Nat, s.heap.size ≤ q → A q) (hn : As.length = n) (hsize : ls.size = nL) {st0 : List Value} (hst : st0 = As.reverse ++ .ref b :: rest) (hW : (rest.map fun v => v.category).sum ≤ 8) (hdg : decode cc pc = .ok (.invokespecial index, 3)) (hf : cells + mc ≤ R.cells ∧ slots + ms ≤ R.slots)
    (kk : ∀ (r : Option Value) (h1 : fh_H) (H1 : Heap) (locs1 : List Loc), post r h1 → fh_P E.1 vwCl A h1 H1 → va_S A s.heap H1 locs1 → W p l e R s m args below meth c H1 locs1 (cells + mc) (slots + ms) Q (F0 m (pc + 3) ls (r.toList ++ rest))) : W p l e R s m args below meth c H locs cells slots Q (F0 m pc ls st0) := by
  subst hst
  exact fh_call (va_runIN S (hM H.size) cw (fh_preS hK hZ hP hS hA) rfl hn hsize rfl (lv_room hW) hdg hf) hP hS hA kk
end FHKN
end
